set_option maxRecDepth 100000 in
set_option maxHeartbeats 1000000 in
theorem tM_rc1 {d : Nat} {Φ : Option Int32 → Mem → Prop} {M : Mem} {L : Nat} (hL : M.1 62 23 = nI L) (hb : L ≤ 600) (h : ∀ N, ((∀ a, a ≠ 73 → a ≠ 74 → N.1 a = M.1 a) ∧ ∀ i, i < L → N.1 73 i = M.1 77 i ∧ N.1 74 i = M.1 78 i) → JM noRo (d + 5) mX12_rules 226 [some (.ref 62)] [] N Φ) : ∀ l k N, k + l = L → ((∀ a, a ≠ 73 → a ≠ 74 → N.1 a = M.1 a) ∧ ∀ i, i < k → N.1 73 i = M.1 77 i ∧ N.1 74 i = M.1 78 i) → JM noRo (d + 5) mX12_rules 188 [some (.ref 62), some (.int (nI k))] [] N Φ := by
  intro l
  induction l with
  | zero =>
    intro k N hk hc
    refine J_iload_n dX12_rules_188 rfl ?_
    refine J_aload_n dX12_rules_189 rfl ?_
    refine M_getI dX12_rules_190 fX12_220 rfl rfl (by decide) ?_
    rw [hc.1 62 (by decide) (by decide), hL]
    refine J_icmp_ge (tgt := 226) dX12_rules_193 (by decide) (fun c1 => ?_) (fun c1 => ?_)
    · -- to 226
      obtain rfl : k = L := by omega
      refine J_dropN 1 ?_
      exact h N hc
    · -- on 196
      exact absurd (nI_le (a := L) (by omega) (by omega)) c1
  | succ l ih =>
    intro k N hk hc
    refine J_iload_n dX12_rules_188 rfl ?_
    refine J_aload_n dX12_rules_189 rfl ?_
    refine M_getI dX12_rules_190 fX12_220 rfl rfl (by decide) ?_
    rw [hc.1 62 (by decide) (by decide), hL]
    refine J_icmp_ge (tgt := 226) dX12_rules_193 (by decide) (fun c1 => ?_) (fun c1 => ?_)
    · -- to 226
      exact absurd c1 (nI_ge (b := L) (by omega) (by omega))
    · -- on 196
      refine J_aload_n dX12_rules_196 rfl ?_
      refine M_getR dX12_rules_197 fX12_41 rfl rfl (by decide) ?_
      refine J_iload_n dX12_rules_200 rfl ?_
      refine J_aload_n dX12_rules_201 rfl ?_
      refine M_getR dX12_rules_202 fX12_53 rfl rfl (by decide) ?_
      refine J_iload_n dX12_rules_205 rfl ?_
      refine M_ialdE dX12_rules_206 rfl (by decide) (by first | rfl | assumption) (by omega) ?_
      refine M_iastE dX12_rules_207 rfl (by decide) (by first | rfl | assumption) (by omega) ?_
      refine J_aload_n dX12_rules_208 rfl ?_
      refine M_getR dX12_rules_209 fX12_44 rfl rfl (by decide) ?_
      refine J_iload_n dX12_rules_212 rfl ?_
      refine J_aload_n dX12_rules_213 rfl ?_
      refine M_getR dX12_rules_214 fX12_56 rfl rfl (by decide) ?_
      refine J_iload_n dX12_rules_217 rfl ?_
      refine M_ialdE dX12_rules_218 rfl (by decide) (by first | rfl | assumption) (by omega) ?_
      refine M_iastE dX12_rules_219 rfl (by decide) (by first | rfl | assumption) (by omega) ?_
      refine J_iinc (v := nI (k + 1)) dX12_rules_220 rfl (nI_1 k) (by decide) rfl ?_
      dsimp only [setL]
      refine J_goto (tgt := 188) dX12_rules_223 (by decide) ?_
      refine ih (k + 1) _ (by omega) ⟨fun a h1 h2 => ?_, fun i hi => ?_⟩
      · rw [rd2 h2, rd2 h1]; exact hc.1 a h1 h2
      · by_cases e : i = k
        · subst e
          exact ⟨by rw [rd2 (by decide), rd1, hc.1 77 (by decide) (by decide)], by rw [rd1, rd2 (by decide), hc.1 78 (by decide) (by decide)]⟩
        · have q := hc.2 i (by omega)
          exact ⟨by rw [rd2 (by decide), rd3 e]; exact q.1, by rw [rd3 e, rd2 (by decide)]; exact q.2⟩
set_option maxRecDepth 100000 in
set_option maxHeartbeats 1000000 in
theorem tM_rc2 {d : Nat} {Φ : Option Int32 → Mem → Prop} {M : Mem} {L : Nat} (hL : M.1 62 22 = nI L) (hb : L ≤ 12) (h80 : ∀ i, i < L → M.1 80 i = 0 ∨ M.1 80 i = 1) (h : ∀ N, ((∀ a, a ≠ 76 → N.1 a = M.1 a) ∧ ∀ i, i < L → N.1 76 i = M.1 80 i) → JM noRo (d + 5) mX12_rules 254 [some (.ref 62)] [] N Φ) : ∀ l k N, k + l = L → ((∀ a, a ≠ 76 → N.1 a = M.1 a) ∧ ∀ i, i < k → N.1 76 i = M.1 80 i) → JM noRo (d + 5) mX12_rules 228 [some (.ref 62), some (.int (nI k))] [] N Φ := by
  intro l
  induction l with
  | zero =>
    intro k N hk hc
    refine J_iload_n dX12_rules_228 rfl ?_
    refine J_aload_n dX12_rules_229 rfl ?_
    refine M_getI dX12_rules_230 fX12_281 rfl rfl (by decide) ?_
    rw [hc.1 62 (by decide), hL]
    refine J_icmp_ge (tgt := 254) dX12_rules_233 (by decide) (fun c1 => ?_) (fun c1 => ?_)
    · -- to 254
      obtain rfl : k = L := by omega
      refine J_dropN 1 ?_
      exact h N hc
    · -- on 236
      exact absurd (nI_le (a := L) (by omega) (by omega)) c1
  | succ l ih =>
    intro k N hk hc
    refine J_iload_n dX12_rules_228 rfl ?_
    refine J_aload_n dX12_rules_229 rfl ?_
    refine M_getI dX12_rules_230 fX12_281 rfl rfl (by decide) ?_
    rw [hc.1 62 (by decide), hL]
    refine J_icmp_ge (tgt := 254) dX12_rules_233 (by decide) (fun c1 => ?_) (fun c1 => ?_)
    · -- to 254
      exact absurd c1 (nI_ge (b := L) (by omega) (by omega))
    · -- on 236
      refine J_aload_n dX12_rules_236 rfl ?_
      refine M_getR dX12_rules_237 fX12_50 rfl rfl (by decide) ?_
      refine J_iload_n dX12_rules_240 rfl ?_
      refine J_aload_n dX12_rules_241 rfl ?_
      refine M_getR dX12_rules_242 fX12_62 rfl rfl (by decide) ?_
      refine J_iload_n dX12_rules_245 rfl ?_
      refine M_zaldE dX12_rules_246 rfl (by decide) (by first | rfl | assumption) (by omega) ?_
      rw [hc.1 80 (by decide)]
      refine M_zastE dX12_rules_247 rfl (by decide) (by first | rfl | assumption) (by omega) (h80 k (by omega)) ?_
      refine J_iinc (v := nI (k + 1)) dX12_rules_248 rfl (nI_1 k) (by decide) rfl ?_
      dsimp only [setL]
      refine J_goto (tgt := 228) dX12_rules_251 (by decide) ?_
      refine ih (k + 1) _ (by omega) ⟨fun a h1 => ?_, fun i hi => ?_⟩
      · rw [rd2 h1]; exact hc.1 a h1
      · by_cases e : i = k
        · subst e
          rw [rd1]
        · rw [rd3 e]; exact hc.2 i (by omega)
set_option maxRecDepth 100000 in
set_option maxHeartbeats 1000000 in
theorem tM_rc3 {d : Nat} {Φ : Option Int32 → Mem → Prop} {M : Mem} {L : Nat} (hL : M.1 62 22 = nI L) (hb : L ≤ 12) (h : ∀ N, ((∀ a, a ≠ 75 → N.1 a = M.1 a) ∧ ∀ i, i < L + 1 → N.1 75 i = M.1 79 i) → JM noRo (d + 5) mX12_rules 282 [some (.ref 62)] [] N Φ) : ∀ l k N, k + l = L + 1 → ((∀ a, a ≠ 75 → N.1 a = M.1 a) ∧ ∀ i, i < k → N.1 75 i = M.1 79 i) → JM noRo (d + 5) mX12_rules 256 [some (.ref 62), some (.int (nI k))] [] N Φ := by
  intro l
  induction l with
  | zero =>
    intro k N hk hc
    refine J_iload_n dX12_rules_256 rfl ?_
    refine J_aload_n dX12_rules_257 rfl ?_
    refine M_getI dX12_rules_258 fX12_281 rfl rfl (by decide) ?_
    rw [hc.1 62 (by decide), hL]
    refine J_icmp_gt (tgt := 282) dX12_rules_261 (by decide) (fun c1 => ?_) (fun c1 => ?_)
    · -- to 282
      obtain rfl : k = L + 1 := by omega
      refine J_dropN 1 ?_
      exact h N hc
    · -- on 264
      exact absurd (nI_lt (a := L) (b := k) (by omega) (by omega)) c1
  | succ l ih =>
    intro k N hk hc
    refine J_iload_n dX12_rules_256 rfl ?_
    refine J_aload_n dX12_rules_257 rfl ?_
    refine M_getI dX12_rules_258 fX12_281 rfl rfl (by decide) ?_
    rw [hc.1 62 (by decide), hL]
    refine J_icmp_gt (tgt := 282) dX12_rules_261 (by decide) (fun c1 => ?_) (fun c1 => ?_)
    · -- to 282
      exact absurd c1 (nI_nlt (a := L) (b := k) (by omega) (by omega))
    · -- on 264
      refine J_aload_n dX12_rules_264 rfl ?_
      refine M_getR dX12_rules_265 fX12_47 rfl rfl (by decide) ?_
      refine J_iload_n dX12_rules_268 rfl ?_
      refine J_aload_n dX12_rules_269 rfl ?_
      refine M_getR dX12_rules_270 fX12_59 rfl rfl (by decide) ?_
      refine J_iload_n dX12_rules_273 rfl ?_
      refine M_ialdE dX12_rules_274 rfl (by decide) (by first | rfl | assumption) (by omega) ?_
      rw [hc.1 79 (by decide)]
      refine M_iastE dX12_rules_275 rfl (by decide) (by first | rfl | assumption) (by omega) ?_
      refine J_iinc (v := nI (k + 1)) dX12_rules_276 rfl (nI_1 k) (by decide) rfl ?_
      dsimp only [setL]
      refine J_goto (tgt := 256) dX12_rules_279 (by decide) ?_
      refine ih (k + 1) _ (by omega) ⟨fun a h1 => ?_, fun i hi => ?_⟩
      · rw [rd2 h1]; exact hc.1 a h1
      · by_cases e : i = k
        · subst e
          rw [rd1]
        · rw [rd3 e]; exact hc.2 i (by omega)
def R10 : List Nat := [62, 77, 78, 79, 80, 82, 73, 74, 75, 76]
def SL5 : List Nat := [22, 26, 30, 23, 24, 27, 28, 29, 31, 32, 33, 34, 36, 37, 17, 12]
/-- the reference with new rules -/
def QE (M N : Mem) (x : PSt) (es ps : List Nat) : Prop := (∀ a, a ∉ R10 → N.1 a = M.1 a) ∧ (∀ i, i ∉ SL5 → N.1 62 i = M.1 62 i) ∧ N.1 62 17 = nI es.length ∧ N.1 62 12 = 0 ∧ N.1 62 27 = 0 ∧ N.1 62 28 = -1 ∧ N.1 62 26 = 0 ∧ (∀ (i : Nat) (c : Nat), x.2.1[i]? = some c → N.1 73 i = nI (enc c) ∧ (100 ≤ c → N.1 74 i = nI (c - 100))) ∧ (∀ i, i ≤ es.length → N.1 75 i = nI (stL es i)) ∧ (∀ (i : Nat) (c : Nat), ps[i]? = some c → N.1 76 i = nI c)
theorem R10_ne {a : Nat} (h : a ∉ R10) : a ≠ 62 ∧ a ≠ 73 ∧ a ≠ 74 ∧ a ≠ 75 ∧ a ≠ 76 ∧ a ≠ 79 ∧ a ∉ R6 := by
  simp only [R10, List.mem_cons, not_or, List.not_mem_nil, not_false_eq_true, and_true] at h
  refine ⟨by omega, by omega, by omega, by omega, by omega, by omega, ?_⟩
  simp only [R6, List.mem_cons, not_or, List.not_mem_nil, not_false_eq_true, and_true]
  omega
theorem SL5_ne {i : Nat} (h : i ∉ SL5) : i ≠ 17 ∧ i ≠ 12 ∧ i ∉ SL3 := by
  simp only [SL5, List.mem_cons, not_or, List.not_mem_nil, not_false_eq_true, and_true] at h
  refine ⟨by omega, by omega, ?_⟩
  simp only [SL3, List.mem_cons, not_or, List.not_mem_nil, not_false_eq_true, and_true]
  omega
theorem nc01 {c : Nat} (h : c < 2) : nI c = 0 ∨ nI c = 1 := by
  match c, h with
  | 0, _ => exact Or.inl rfl
  | 1, _ => exact Or.inr rfl
set_option maxRecDepth 100000 in
set_option maxHeartbeats 1000000 in
theorem tM_rl_e {d : Nat} {Φ : Option Int32 → Mem → Prop} {M N : Mem} {n : Nat} {x : PSt} {es ps : List Nat} (hnb : n ≤ 1000) (hc : QN M N n x es ps) (hm : es.length ≤ 12) (hps : ∀ c, c ∈ ps → c < 2) (h : ∀ N, QE M N x es ps → Φ (some (nI es.length)) N) : JM noRo (d + 5) mX12_rules 173 [some (.ref 62)] [] N Φ := by
  obtain ⟨p1, p2, p3, p4, p5, p6, p7, p8, p9, p10, p11, p12, p13, p14, p15, p16, p17⟩ := hc
  have hst := p4.1
  have hst2 := p4.2
  refine J_aload_n dX12_rules_173 rfl ?_
  refine M_getR dX12_rules_174 fX12_59 rfl rfl (by decide) ?_
  refine J_aload_n dX12_rules_177 rfl ?_
  refine M_getI dX12_rules_178 fX12_281 rfl rfl (by decide) ?_
  refine J_aload_n dX12_rules_181 rfl ?_
  refine M_getI dX12_rules_182 fX12_220 rfl rfl (by decide) ?_
  rw [p6]
  refine M_iastE dX12_rules_185 rfl (by decide) p13.1 (by omega) ?_
  refine J_iconst (v := 0) dX12_rules_186 (by decide) ?_
  refine J_istore_n dX12_rules_187 (by decide) rfl ?_
  dsimp only [setL]
  refine tM_rc1 (d := d) (M := wr N 79 es.length (nI x.2.1.length)) (L := x.2.1.length) (by rw [rd2 (by decide)]; exact p6) (by omega) (fun N1 h1 => ?_) x.2.1.length 0 _ (by omega) ⟨fun _ _ _ => rfl, fun i hi => absurd hi (by omega)⟩
  refine J_iconst (v := 0) dX12_rules_226 (by decide) ?_
  refine J_istore_n dX12_rules_227 (by decide) rfl ?_
  dsimp only [setL]
  refine tM_rc2 (d := d) (M := N1) (L := es.length) (by rw [h1.1 62 (by decide) (by decide), rd2 (by decide)]; exact p13.1) hm (fun i hi => ?_) (fun N2 h2 => ?_) es.length 0 N1 (by omega) ⟨fun _ _ => rfl, fun i hi => absurd hi (by omega)⟩
  · rw [h1.1 80 (by decide) (by decide), rd2 (by decide)]
    have hl : i < ps.length := by have := p13.2; omega
    rw [p15 i ps[i] (List.getElem?_eq_getElem hl)]
    exact nc01 (hps _ (List.getElem_mem hl))
  refine J_iconst (v := 0) dX12_rules_254 (by decide) ?_
  refine J_istore_n dX12_rules_255 (by decide) rfl ?_
  dsimp only [setL]
  refine tM_rc3 (d := d) (M := N2) (L := es.length) (by rw [h2.1 62 (by decide), h1.1 62 (by decide) (by decide), rd2 (by decide)]; exact p13.1) hm (fun N3 h3 => ?_) (es.length + 1) 0 N2 (by omega) ⟨fun _ _ => rfl, fun i hi => absurd hi (by omega)⟩
  have e62 : N3.1 62 = N.1 62 := by rw [h3.1 62 (by decide), h2.1 62 (by decide), h1.1 62 (by decide) (by decide), rd2 (by decide)]
  refine J_aload_n dX12_rules_282 rfl ?_
  refine J_aload_n dX12_rules_283 rfl ?_
  refine M_getI dX12_rules_284 fX12_281 rfl rfl (by decide) ?_
  rw [e62, p13.1]
  refine M_putI dX12_rules_287 pX12_287 rfl rfl (by decide) ?_
  refine J_aload_n dX12_rules_290 rfl ?_
  refine J_iconst (v := 0) dX12_rules_291 (by decide) ?_
  refine M_putZ dX12_rules_292 pX12_138 rfl rfl (by decide) (by first | assumption | exact Or.inl rfl | exact Or.inr rfl) ?_
  refine J_aload_n dX12_rules_295 rfl ?_
  refine M_getI dX12_rules_296 fX12_287 rfl rfl (by decide) ?_
  refine M_iret dX12_rules_299 rfl rfl ?_
  rw [rd3 (by decide), rd1]
  refine h _ ⟨fun a ha => ?_, fun i hi => ?_, ?_, rd1, ?_, ?_, ?_, fun i c hi => ?_, fun i hi => ?_, fun i c hi => ?_⟩
  · obtain ⟨q1, q2, q3, q4, q5, q6, q7⟩ := R10_ne ha
    rw [rd2 q1, rd2 q1, h3.1 a q4, h2.1 a q5, h1.1 a q2 q3, rd2 q6]; exact p1 a q7
  · obtain ⟨q1, q2, q3⟩ := SL5_ne hi
    rw [rd3 q2, rd3 q1, e62]; exact p2 i q3
  · rw [rd3 (by decide), rd1]
  · rw [rd3 (by decide), rd3 (by decide), e62]; exact p10
  · rw [rd3 (by decide), rd3 (by decide), e62]; exact p11
  · rw [rd3 (by decide), rd3 (by decide), e62]; exact p17
  · have hl : i < x.2.1.length := (List.getElem?_eq_some_iff.mp hi).1
    have z := h1.2 i hl
    rw [rd2 (by decide), rd2 (by decide), rd2 (by decide), rd2 (by decide), h3.1 73 (by decide), h2.1 73 (by decide), h3.1 74 (by decide), h2.1 74 (by decide), z.1, z.2, rd2 (by decide), rd2 (by decide)]
    exact p7 i c hi
  · rw [rd2 (by decide), rd2 (by decide), h3.2 i (by omega), h2.1 79 (by decide), h1.1 79 (by decide) (by decide)]
    by_cases e : i = es.length
    · rw [e, rd1, p16]
    · rw [rd3 e]; exact p14 i (by omega)
  · have hl : i < ps.length := (List.getElem?_eq_some_iff.mp hi).1
    rw [rd2 (by decide), rd2 (by decide), h3.1 76 (by decide), h2.2 i (by have := p13.2; omega), h1.1 80 (by decide) (by decide), rd2 (by decide)]
    exact p15 i c hi

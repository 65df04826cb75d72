def Pair (INV : Mem → Prop) (mx mm : MD) (as : List Value) : Prop := ∀ M, INV M → JM noRo 900 mx 0 (entL (.ref 0 :: as)) [] M (fun r M1 => ∃ v : Int32, r = some v ∧ JM noRo 900 mm 0 (entL (.ref 62 :: as)) [] M1 (fun r2 M2 => r2 = some v ∧ INV M2))
theorem scr_at {L : Nat} {xs : Nat → Int32} : scr L xs jBig = some (L, xs) := if_pos rfl
theorem J_sldE {Ro : ROs} {d bc bs : Nat} {md : MD} {pc k L j : Nat} {ls : List (Option Value)} {st : List Value} {h : PH} {Φ : Option Int32 → PH → Prop} {xs : Nat → Int32} {x : Int32} (hd : decode md.2.1 pc = .ok (.iaload, 1)) (hr : Ro k = some (L, xs)) (he : x = nI j) (hj : j < L) (hL : L ≤ 3072) (kk : J Ro d bc bs md (pc + 1) ls (.int (xs j) :: st) h Φ) : J Ro d bc bs md pc ls (.int x :: .ref k :: st) h Φ := by
  subst he
  refine J_sld hd hr (vp_in_nI hj (by omega)) ?_
  rw [nI_clamp (by omega)]
  exact kk
abbrev lls (i : Nat) : List (Option Value) := [some (.ref jBig), some (.ref 0), some (.ref 62), some (.int (nI (6 * i)))]
set_option maxRecDepth 100000 in
set_option maxHeartbeats 1000000 in
theorem law_c0 {INV : Mem → Prop} {L i : Nat} {xs : Nat → Int32} {M : Mem} {Ψ : Option Int32 → Mem → Prop} (hi : 6 * i + 6 ≤ L) (hL : L ≤ 3072) (hM : INV M) (hp : Pair INV mX11_horse mX12_horse [.int (xs (6 * i + 1)), .int (xs (6 * i + 2))]) (kl : ∀ M2, INV M2 → JM (scr L xs) 901 mL_law 1059 (lls i) [] M2 Ψ) : JM (scr L xs) 901 mL_law 156 (lls i) [] M Ψ := by
  refine J_aload_n dL_law_156 rfl ?_
  refine J_aload_n dL_law_157 rfl ?_
  refine J_iload_n dL_law_158 rfl ?_
  refine J_iconst (v := 1) dL_law_159 (by decide) ?_
  refine J_iadd dL_law_160 ?_
  refine J_sldE (j := 6 * i + 1) dL_law_161 scr_at (nI_add (6 * i) 1) (by omega) hL ?_
  refine J_aload_n dL_law_162 rfl ?_
  refine J_iload_n dL_law_163 rfl ?_
  refine J_iconst (v := 2) dL_law_164 (by decide) ?_
  refine J_iadd dL_law_165 ?_
  refine J_sldE (j := 6 * i + 2) dL_law_166 scr_at (nI_add (6 * i) 2) (by omega) hL ?_
  refine M_callV2 (mc := mX11_horse) dL_law_167 kL_13 oX11_horse (Nat.le_of_ble_eq_true rfl) (Nat.le_of_ble_eq_true rfl) rfl (by decide) rfl ?_
  refine M_post (fun r M1 hq => ?_) (hp M hM)
  obtain ⟨v, rfl, hq⟩ := hq
  dsimp only [pushR]
  refine J_aload_n dL_law_170 rfl ?_
  refine J_aload_n dL_law_171 rfl ?_
  refine J_iload_n dL_law_172 rfl ?_
  refine J_iconst (v := 1) dL_law_173 (by decide) ?_
  refine J_iadd dL_law_174 ?_
  refine J_sldE (j := 6 * i + 1) dL_law_175 scr_at (nI_add (6 * i) 1) (by omega) hL ?_
  refine J_aload_n dL_law_176 rfl ?_
  refine J_iload_n dL_law_177 rfl ?_
  refine J_iconst (v := 2) dL_law_178 (by decide) ?_
  refine J_iadd dL_law_179 ?_
  refine J_sldE (j := 6 * i + 2) dL_law_180 scr_at (nI_add (6 * i) 2) (by omega) hL ?_
  refine M_callV2 (mc := mX12_horse) dL_law_181 kL_17 oX12_horse (Nat.le_of_ble_eq_true rfl) (Nat.le_of_ble_eq_true rfl) rfl (by decide) rfl ?_
  refine M_post (fun r2 M2 hq2 => ?_) hq
  obtain ⟨rfl, hI⟩ := hq2
  dsimp only [pushR]
  exact J_icmp_eq (tgt := 1059) dL_law_184 (by decide) (fun _ => kl M2 hI) (fun c => absurd rfl c)
set_option maxRecDepth 100000 in
set_option maxHeartbeats 1000000 in
theorem law_c1 {INV : Mem → Prop} {L i : Nat} {xs : Nat → Int32} {M : Mem} {Ψ : Option Int32 → Mem → Prop} (hi : 6 * i + 6 ≤ L) (hL : L ≤ 3072) (hM : INV M) (hp : ∀ z : Int32, z = 0 ∨ z = 1 → Pair INV mX11_lame mX12_lame [.int (xs (6 * i + 1)), .int z]) (kl : ∀ M2, INV M2 → JM (scr L xs) 901 mL_law 1059 (lls i) [] M2 Ψ) : JM (scr L xs) 901 mL_law 189 (lls i) [] M Ψ := by
  refine J_aload_n dL_law_189 rfl ?_
  refine J_aload_n dL_law_190 rfl ?_
  refine J_iload_n dL_law_191 rfl ?_
  refine J_iconst (v := 1) dL_law_192 (by decide) ?_
  refine J_iadd dL_law_193 ?_
  refine J_sldE (j := 6 * i + 1) dL_law_194 scr_at (nI_add (6 * i) 1) (by omega) hL ?_
  refine J_aload_n dL_law_195 rfl ?_
  refine J_iload_n dL_law_196 rfl ?_
  refine J_iconst (v := 2) dL_law_197 (by decide) ?_
  refine J_iadd dL_law_198 ?_
  refine J_sldE (j := 6 * i + 2) dL_law_199 scr_at (nI_add (6 * i) 2) (by omega) hL ?_
  refine J_if_eq (tgt := 207) dL_law_200 (by decide) (fun c1 => ?_) (fun c1 => ?_)
  ·
    refine J_iconst (v := 0) dL_law_207 (by decide) ?_
    refine M_callV2 (mc := mX11_lame) dL_law_208 kL_18 oX11_lame (Nat.le_of_ble_eq_true rfl) (Nat.le_of_ble_eq_true rfl) rfl (by decide) rfl ?_
    refine M_post (fun r M1 hq => ?_) (hp 0 (Or.inl rfl) M hM)
    obtain ⟨v, rfl, hq⟩ := hq
    dsimp only [pushR]
    refine J_aload_n dL_law_211 rfl ?_
    refine J_aload_n dL_law_212 rfl ?_
    refine J_iload_n dL_law_213 rfl ?_
    refine J_iconst (v := 1) dL_law_214 (by decide) ?_
    refine J_iadd dL_law_215 ?_
    refine J_sldE (j := 6 * i + 1) dL_law_216 scr_at (nI_add (6 * i) 1) (by omega) hL ?_
    refine J_aload_n dL_law_217 rfl ?_
    refine J_iload_n dL_law_218 rfl ?_
    refine J_iconst (v := 2) dL_law_219 (by decide) ?_
    refine J_iadd dL_law_220 ?_
    refine J_sldE (j := 6 * i + 2) dL_law_221 scr_at (nI_add (6 * i) 2) (by omega) hL ?_
    refine J_if_eq (tgt := 229) dL_law_222 (by decide) (fun c2 => ?_) (fun c2 => absurd c1 c2)
    refine J_iconst (v := 0) dL_law_229 (by decide) ?_
    refine M_callV2 (mc := mX12_lame) dL_law_230 kL_22 oX12_lame (Nat.le_of_ble_eq_true rfl) (Nat.le_of_ble_eq_true rfl) rfl (by decide) rfl ?_
    refine M_post (fun r2 M2 hq2 => ?_) hq
    obtain ⟨rfl, hI⟩ := hq2
    dsimp only [pushR]
    exact J_icmp_eq (tgt := 1059) dL_law_233 (by decide) (fun _ => kl M2 hI) (fun c => absurd rfl c)
  ·
    refine J_iconst (v := 1) dL_law_203 (by decide) ?_
    refine J_goto (tgt := 208) dL_law_204 (by decide) ?_
    refine M_callV2 (mc := mX11_lame) dL_law_208 kL_18 oX11_lame (Nat.le_of_ble_eq_true rfl) (Nat.le_of_ble_eq_true rfl) rfl (by decide) rfl ?_
    refine M_post (fun r M1 hq => ?_) (hp 1 (Or.inr rfl) M hM)
    obtain ⟨v, rfl, hq⟩ := hq
    dsimp only [pushR]
    refine J_aload_n dL_law_211 rfl ?_
    refine J_aload_n dL_law_212 rfl ?_
    refine J_iload_n dL_law_213 rfl ?_
    refine J_iconst (v := 1) dL_law_214 (by decide) ?_
    refine J_iadd dL_law_215 ?_
    refine J_sldE (j := 6 * i + 1) dL_law_216 scr_at (nI_add (6 * i) 1) (by omega) hL ?_
    refine J_aload_n dL_law_217 rfl ?_
    refine J_iload_n dL_law_218 rfl ?_
    refine J_iconst (v := 2) dL_law_219 (by decide) ?_
    refine J_iadd dL_law_220 ?_
    refine J_sldE (j := 6 * i + 2) dL_law_221 scr_at (nI_add (6 * i) 2) (by omega) hL ?_
    refine J_if_eq (tgt := 229) dL_law_222 (by decide) (fun c2 => absurd c2 c1) (fun c2 => ?_)
    refine J_iconst (v := 1) dL_law_225 (by decide) ?_
    refine J_goto (tgt := 230) dL_law_226 (by decide) ?_
    refine M_callV2 (mc := mX12_lame) dL_law_230 kL_22 oX12_lame (Nat.le_of_ble_eq_true rfl) (Nat.le_of_ble_eq_true rfl) rfl (by decide) rfl ?_
    refine M_post (fun r2 M2 hq2 => ?_) hq
    obtain ⟨rfl, hI⟩ := hq2
    dsimp only [pushR]
    exact J_icmp_eq (tgt := 1059) dL_law_233 (by decide) (fun _ => kl M2 hI) (fun c => absurd rfl c)
set_option maxRecDepth 100000 in
set_option maxHeartbeats 1000000 in
theorem law_c2 {INV : Mem → Prop} {L i : Nat} {xs : Nat → Int32} {M : Mem} {Ψ : Option Int32 → Mem → Prop} (hi : 6 * i + 6 ≤ L) (hL : L ≤ 3072) (hM : INV M) (hp : Pair INV mX11_field mX12_field [.int (xs (6 * i + 1)), .int (xs (6 * i + 2)), .int (xs (6 * i + 3))]) (kl : ∀ M2, INV M2 → JM (scr L xs) 901 mL_law 1059 (lls i) [] M2 Ψ) : JM (scr L xs) 901 mL_law 238 (lls i) [] M Ψ := by
  refine J_aload_n dL_law_238 rfl ?_
  refine J_aload_n dL_law_239 rfl ?_
  refine J_iload_n dL_law_240 rfl ?_
  refine J_iconst (v := 1) dL_law_241 (by decide) ?_
  refine J_iadd dL_law_242 ?_
  refine J_sldE (j := 6 * i + 1) dL_law_243 scr_at (nI_add (6 * i) 1) (by omega) hL ?_
  refine J_aload_n dL_law_244 rfl ?_
  refine J_iload_n dL_law_245 rfl ?_
  refine J_iconst (v := 2) dL_law_246 (by decide) ?_
  refine J_iadd dL_law_247 ?_
  refine J_sldE (j := 6 * i + 2) dL_law_248 scr_at (nI_add (6 * i) 2) (by omega) hL ?_
  refine J_aload_n dL_law_249 rfl ?_
  refine J_iload_n dL_law_250 rfl ?_
  refine J_iconst (v := 3) dL_law_251 (by decide) ?_
  refine J_iadd dL_law_252 ?_
  refine J_sldE (j := 6 * i + 3) dL_law_253 scr_at (nI_add (6 * i) 3) (by omega) hL ?_
  refine M_callV3 (mc := mX11_field) dL_law_254 kL_23 oX11_field (Nat.le_of_ble_eq_true rfl) (Nat.le_of_ble_eq_true rfl) rfl (by decide) rfl ?_
  refine M_post (fun r M1 hq => ?_) (hp M hM)
  obtain ⟨v, rfl, hq⟩ := hq
  dsimp only [pushR]
  refine J_aload_n dL_law_257 rfl ?_
  refine J_aload_n dL_law_258 rfl ?_
  refine J_iload_n dL_law_259 rfl ?_
  refine J_iconst (v := 1) dL_law_260 (by decide) ?_
  refine J_iadd dL_law_261 ?_
  refine J_sldE (j := 6 * i + 1) dL_law_262 scr_at (nI_add (6 * i) 1) (by omega) hL ?_
  refine J_aload_n dL_law_263 rfl ?_
  refine J_iload_n dL_law_264 rfl ?_
  refine J_iconst (v := 2) dL_law_265 (by decide) ?_
  refine J_iadd dL_law_266 ?_
  refine J_sldE (j := 6 * i + 2) dL_law_267 scr_at (nI_add (6 * i) 2) (by omega) hL ?_
  refine J_aload_n dL_law_268 rfl ?_
  refine J_iload_n dL_law_269 rfl ?_
  refine J_iconst (v := 3) dL_law_270 (by decide) ?_
  refine J_iadd dL_law_271 ?_
  refine J_sldE (j := 6 * i + 3) dL_law_272 scr_at (nI_add (6 * i) 3) (by omega) hL ?_
  refine M_callV3 (mc := mX12_field) dL_law_273 kL_27 oX12_field (Nat.le_of_ble_eq_true rfl) (Nat.le_of_ble_eq_true rfl) rfl (by decide) rfl ?_
  refine M_post (fun r2 M2 hq2 => ?_) hq
  obtain ⟨rfl, hI⟩ := hq2
  dsimp only [pushR]
  exact J_icmp_eq (tgt := 1059) dL_law_276 (by decide) (fun _ => kl M2 hI) (fun c => absurd rfl c)
set_option maxRecDepth 100000 in
set_option maxHeartbeats 1000000 in
theorem law_c3 {INV : Mem → Prop} {L i : Nat} {xs : Nat → Int32} {M : Mem} {Ψ : Option Int32 → Mem → Prop} (hi : 6 * i + 6 ≤ L) (hL : L ≤ 3072) (hM : INV M) (hp : Pair INV mX11_shut mX12_shut [.int (xs (6 * i + 1)), .int (xs (6 * i + 2))]) (kl : ∀ M2, INV M2 → JM (scr L xs) 901 mL_law 1059 (lls i) [] M2 Ψ) : JM (scr L xs) 901 mL_law 281 (lls i) [] M Ψ := by
  refine J_aload_n dL_law_281 rfl ?_
  refine J_aload_n dL_law_282 rfl ?_
  refine J_iload_n dL_law_283 rfl ?_
  refine J_iconst (v := 1) dL_law_284 (by decide) ?_
  refine J_iadd dL_law_285 ?_
  refine J_sldE (j := 6 * i + 1) dL_law_286 scr_at (nI_add (6 * i) 1) (by omega) hL ?_
  refine J_aload_n dL_law_287 rfl ?_
  refine J_iload_n dL_law_288 rfl ?_
  refine J_iconst (v := 2) dL_law_289 (by decide) ?_
  refine J_iadd dL_law_290 ?_
  refine J_sldE (j := 6 * i + 2) dL_law_291 scr_at (nI_add (6 * i) 2) (by omega) hL ?_
  refine M_callV2 (mc := mX11_shut) dL_law_292 kL_28 oX11_shut (Nat.le_of_ble_eq_true rfl) (Nat.le_of_ble_eq_true rfl) rfl (by decide) rfl ?_
  refine M_post (fun r M1 hq => ?_) (hp M hM)
  obtain ⟨v, rfl, hq⟩ := hq
  dsimp only [pushR]
  refine J_aload_n dL_law_295 rfl ?_
  refine J_aload_n dL_law_296 rfl ?_
  refine J_iload_n dL_law_297 rfl ?_
  refine J_iconst (v := 1) dL_law_298 (by decide) ?_
  refine J_iadd dL_law_299 ?_
  refine J_sldE (j := 6 * i + 1) dL_law_300 scr_at (nI_add (6 * i) 1) (by omega) hL ?_
  refine J_aload_n dL_law_301 rfl ?_
  refine J_iload_n dL_law_302 rfl ?_
  refine J_iconst (v := 2) dL_law_303 (by decide) ?_
  refine J_iadd dL_law_304 ?_
  refine J_sldE (j := 6 * i + 2) dL_law_305 scr_at (nI_add (6 * i) 2) (by omega) hL ?_
  refine M_callV2 (mc := mX12_shut) dL_law_306 kL_32 oX12_shut (Nat.le_of_ble_eq_true rfl) (Nat.le_of_ble_eq_true rfl) rfl (by decide) rfl ?_
  refine M_post (fun r2 M2 hq2 => ?_) hq
  obtain ⟨rfl, hI⟩ := hq2
  dsimp only [pushR]
  exact J_icmp_eq (tgt := 1059) dL_law_309 (by decide) (fun _ => kl M2 hI) (fun c => absurd rfl c)
set_option maxRecDepth 100000 in
set_option maxHeartbeats 1000000 in
theorem law_c4 {INV : Mem → Prop} {L i : Nat} {xs : Nat → Int32} {M : Mem} {Ψ : Option Int32 → Mem → Prop} (hi : 6 * i + 6 ≤ L) (hL : L ≤ 3072) (hM : INV M) (hp : ∀ z : Int32, z = 0 ∨ z = 1 → Pair INV mX11_gate mX12_gate [.int (xs (6 * i + 1)), .int (xs (6 * i + 2)), .int z]) (kl : ∀ M2, INV M2 → JM (scr L xs) 901 mL_law 1059 (lls i) [] M2 Ψ) : JM (scr L xs) 901 mL_law 314 (lls i) [] M Ψ := by
  refine J_aload_n dL_law_314 rfl ?_
  refine J_aload_n dL_law_315 rfl ?_
  refine J_iload_n dL_law_316 rfl ?_
  refine J_iconst (v := 1) dL_law_317 (by decide) ?_
  refine J_iadd dL_law_318 ?_
  refine J_sldE (j := 6 * i + 1) dL_law_319 scr_at (nI_add (6 * i) 1) (by omega) hL ?_
  refine J_aload_n dL_law_320 rfl ?_
  refine J_iload_n dL_law_321 rfl ?_
  refine J_iconst (v := 2) dL_law_322 (by decide) ?_
  refine J_iadd dL_law_323 ?_
  refine J_sldE (j := 6 * i + 2) dL_law_324 scr_at (nI_add (6 * i) 2) (by omega) hL ?_
  refine J_aload_n dL_law_325 rfl ?_
  refine J_iload_n dL_law_326 rfl ?_
  refine J_iconst (v := 3) dL_law_327 (by decide) ?_
  refine J_iadd dL_law_328 ?_
  refine J_sldE (j := 6 * i + 3) dL_law_329 scr_at (nI_add (6 * i) 3) (by omega) hL ?_
  refine J_if_eq (tgt := 337) dL_law_330 (by decide) (fun c1 => ?_) (fun c1 => ?_)
  ·
    refine J_iconst (v := 0) dL_law_337 (by decide) ?_
    refine M_callV3 (mc := mX11_gate) dL_law_338 kL_33 oX11_gate (Nat.le_of_ble_eq_true rfl) (Nat.le_of_ble_eq_true rfl) rfl (by decide) rfl ?_
    refine M_post (fun r M1 hq => ?_) (hp 0 (Or.inl rfl) M hM)
    obtain ⟨v, rfl, hq⟩ := hq
    dsimp only [pushR]
    refine J_aload_n dL_law_341 rfl ?_
    refine J_aload_n dL_law_342 rfl ?_
    refine J_iload_n dL_law_343 rfl ?_
    refine J_iconst (v := 1) dL_law_344 (by decide) ?_
    refine J_iadd dL_law_345 ?_
    refine J_sldE (j := 6 * i + 1) dL_law_346 scr_at (nI_add (6 * i) 1) (by omega) hL ?_
    refine J_aload_n dL_law_347 rfl ?_
    refine J_iload_n dL_law_348 rfl ?_
    refine J_iconst (v := 2) dL_law_349 (by decide) ?_
    refine J_iadd dL_law_350 ?_
    refine J_sldE (j := 6 * i + 2) dL_law_351 scr_at (nI_add (6 * i) 2) (by omega) hL ?_
    refine J_aload_n dL_law_352 rfl ?_
    refine J_iload_n dL_law_353 rfl ?_
    refine J_iconst (v := 3) dL_law_354 (by decide) ?_
    refine J_iadd dL_law_355 ?_
    refine J_sldE (j := 6 * i + 3) dL_law_356 scr_at (nI_add (6 * i) 3) (by omega) hL ?_
    refine J_if_eq (tgt := 364) dL_law_357 (by decide) (fun c2 => ?_) (fun c2 => absurd c1 c2)
    refine J_iconst (v := 0) dL_law_364 (by decide) ?_
    refine M_callV3 (mc := mX12_gate) dL_law_365 kL_37 oX12_gate (Nat.le_of_ble_eq_true rfl) (Nat.le_of_ble_eq_true rfl) rfl (by decide) rfl ?_
    refine M_post (fun r2 M2 hq2 => ?_) hq
    obtain ⟨rfl, hI⟩ := hq2
    dsimp only [pushR]
    exact J_icmp_eq (tgt := 1059) dL_law_368 (by decide) (fun _ => kl M2 hI) (fun c => absurd rfl c)
  ·
    refine J_iconst (v := 1) dL_law_333 (by decide) ?_
    refine J_goto (tgt := 338) dL_law_334 (by decide) ?_
    refine M_callV3 (mc := mX11_gate) dL_law_338 kL_33 oX11_gate (Nat.le_of_ble_eq_true rfl) (Nat.le_of_ble_eq_true rfl) rfl (by decide) rfl ?_
    refine M_post (fun r M1 hq => ?_) (hp 1 (Or.inr rfl) M hM)
    obtain ⟨v, rfl, hq⟩ := hq
    dsimp only [pushR]
    refine J_aload_n dL_law_341 rfl ?_
    refine J_aload_n dL_law_342 rfl ?_
    refine J_iload_n dL_law_343 rfl ?_
    refine J_iconst (v := 1) dL_law_344 (by decide) ?_
    refine J_iadd dL_law_345 ?_
    refine J_sldE (j := 6 * i + 1) dL_law_346 scr_at (nI_add (6 * i) 1) (by omega) hL ?_
    refine J_aload_n dL_law_347 rfl ?_
    refine J_iload_n dL_law_348 rfl ?_
    refine J_iconst (v := 2) dL_law_349 (by decide) ?_
    refine J_iadd dL_law_350 ?_
    refine J_sldE (j := 6 * i + 2) dL_law_351 scr_at (nI_add (6 * i) 2) (by omega) hL ?_
    refine J_aload_n dL_law_352 rfl ?_
    refine J_iload_n dL_law_353 rfl ?_
    refine J_iconst (v := 3) dL_law_354 (by decide) ?_
    refine J_iadd dL_law_355 ?_
    refine J_sldE (j := 6 * i + 3) dL_law_356 scr_at (nI_add (6 * i) 3) (by omega) hL ?_
    refine J_if_eq (tgt := 364) dL_law_357 (by decide) (fun c2 => absurd c2 c1) (fun c2 => ?_)
    refine J_iconst (v := 1) dL_law_360 (by decide) ?_
    refine J_goto (tgt := 365) dL_law_361 (by decide) ?_
    refine M_callV3 (mc := mX12_gate) dL_law_365 kL_37 oX12_gate (Nat.le_of_ble_eq_true rfl) (Nat.le_of_ble_eq_true rfl) rfl (by decide) rfl ?_
    refine M_post (fun r2 M2 hq2 => ?_) hq
    obtain ⟨rfl, hI⟩ := hq2
    dsimp only [pushR]
    exact J_icmp_eq (tgt := 1059) dL_law_368 (by decide) (fun _ => kl M2 hI) (fun c => absurd rfl c)
set_option maxRecDepth 100000 in
set_option maxHeartbeats 1000000 in
theorem law_c5 {INV : Mem → Prop} {L i : Nat} {xs : Nat → Int32} {M : Mem} {Ψ : Option Int32 → Mem → Prop} (hi : 6 * i + 6 ≤ L) (hL : L ≤ 3072) (hM : INV M) (hp : Pair INV mX11_feed mX12_feed [.int (xs (6 * i + 1)), .int (xs (6 * i + 2)), .int (xs (6 * i + 3)), .int (xs (6 * i + 4)), .int (xs (6 * i + 5))]) (kl : ∀ M2, INV M2 → JM (scr L xs) 901 mL_law 1059 (lls i) [] M2 Ψ) : JM (scr L xs) 901 mL_law 373 (lls i) [] M Ψ := by
  refine J_aload_n dL_law_373 rfl ?_
  refine J_aload_n dL_law_374 rfl ?_
  refine J_iload_n dL_law_375 rfl ?_
  refine J_iconst (v := 1) dL_law_376 (by decide) ?_
  refine J_iadd dL_law_377 ?_
  refine J_sldE (j := 6 * i + 1) dL_law_378 scr_at (nI_add (6 * i) 1) (by omega) hL ?_
  refine J_aload_n dL_law_379 rfl ?_
  refine J_iload_n dL_law_380 rfl ?_
  refine J_iconst (v := 2) dL_law_381 (by decide) ?_
  refine J_iadd dL_law_382 ?_
  refine J_sldE (j := 6 * i + 2) dL_law_383 scr_at (nI_add (6 * i) 2) (by omega) hL ?_
  refine J_aload_n dL_law_384 rfl ?_
  refine J_iload_n dL_law_385 rfl ?_
  refine J_iconst (v := 3) dL_law_386 (by decide) ?_
  refine J_iadd dL_law_387 ?_
  refine J_sldE (j := 6 * i + 3) dL_law_388 scr_at (nI_add (6 * i) 3) (by omega) hL ?_
  refine J_aload_n dL_law_389 rfl ?_
  refine J_iload_n dL_law_390 rfl ?_
  refine J_iconst (v := 4) dL_law_391 (by decide) ?_
  refine J_iadd dL_law_392 ?_
  refine J_sldE (j := 6 * i + 4) dL_law_393 scr_at (nI_add (6 * i) 4) (by omega) hL ?_
  refine J_aload_n dL_law_394 rfl ?_
  refine J_iload_n dL_law_395 rfl ?_
  refine J_iconst (v := 5) dL_law_396 (by decide) ?_
  refine J_iadd dL_law_397 ?_
  refine J_sldE (j := 6 * i + 5) dL_law_398 scr_at (nI_add (6 * i) 5) (by omega) hL ?_
  refine M_callV5 (mc := mX11_feed) dL_law_399 kL_38 oX11_feed (Nat.le_of_ble_eq_true rfl) (Nat.le_of_ble_eq_true rfl) rfl (by decide) rfl ?_
  refine M_post (fun r M1 hq => ?_) (hp M hM)
  obtain ⟨v, rfl, hq⟩ := hq
  dsimp only [pushR]
  refine J_aload_n dL_law_402 rfl ?_
  refine J_aload_n dL_law_403 rfl ?_
  refine J_iload_n dL_law_404 rfl ?_
  refine J_iconst (v := 1) dL_law_405 (by decide) ?_
  refine J_iadd dL_law_406 ?_
  refine J_sldE (j := 6 * i + 1) dL_law_407 scr_at (nI_add (6 * i) 1) (by omega) hL ?_
  refine J_aload_n dL_law_408 rfl ?_
  refine J_iload_n dL_law_409 rfl ?_
  refine J_iconst (v := 2) dL_law_410 (by decide) ?_
  refine J_iadd dL_law_411 ?_
  refine J_sldE (j := 6 * i + 2) dL_law_412 scr_at (nI_add (6 * i) 2) (by omega) hL ?_
  refine J_aload_n dL_law_413 rfl ?_
  refine J_iload_n dL_law_414 rfl ?_
  refine J_iconst (v := 3) dL_law_415 (by decide) ?_
  refine J_iadd dL_law_416 ?_
  refine J_sldE (j := 6 * i + 3) dL_law_417 scr_at (nI_add (6 * i) 3) (by omega) hL ?_
  refine J_aload_n dL_law_418 rfl ?_
  refine J_iload_n dL_law_419 rfl ?_
  refine J_iconst (v := 4) dL_law_420 (by decide) ?_
  refine J_iadd dL_law_421 ?_
  refine J_sldE (j := 6 * i + 4) dL_law_422 scr_at (nI_add (6 * i) 4) (by omega) hL ?_
  refine J_aload_n dL_law_423 rfl ?_
  refine J_iload_n dL_law_424 rfl ?_
  refine J_iconst (v := 5) dL_law_425 (by decide) ?_
  refine J_iadd dL_law_426 ?_
  refine J_sldE (j := 6 * i + 5) dL_law_427 scr_at (nI_add (6 * i) 5) (by omega) hL ?_
  refine M_callV5 (mc := mX12_feed) dL_law_428 kL_42 oX12_feed (Nat.le_of_ble_eq_true rfl) (Nat.le_of_ble_eq_true rfl) rfl (by decide) rfl ?_
  refine M_post (fun r2 M2 hq2 => ?_) hq
  obtain ⟨rfl, hI⟩ := hq2
  dsimp only [pushR]
  exact J_icmp_eq (tgt := 1059) dL_law_431 (by decide) (fun _ => kl M2 hI) (fun c => absurd rfl c)
set_option maxRecDepth 100000 in
set_option maxHeartbeats 1000000 in
theorem law_c6 {INV : Mem → Prop} {L i : Nat} {xs : Nat → Int32} {M : Mem} {Ψ : Option Int32 → Mem → Prop} (hi : 6 * i + 6 ≤ L) (hL : L ≤ 3072) (hM : INV M) (hp : Pair INV mX11_end mX12_end [.int (xs (6 * i + 1))]) (kl : ∀ M2, INV M2 → JM (scr L xs) 901 mL_law 1059 (lls i) [] M2 Ψ) : JM (scr L xs) 901 mL_law 436 (lls i) [] M Ψ := by
  refine J_aload_n dL_law_436 rfl ?_
  refine J_aload_n dL_law_437 rfl ?_
  refine J_iload_n dL_law_438 rfl ?_
  refine J_iconst (v := 1) dL_law_439 (by decide) ?_
  refine J_iadd dL_law_440 ?_
  refine J_sldE (j := 6 * i + 1) dL_law_441 scr_at (nI_add (6 * i) 1) (by omega) hL ?_
  refine M_callV1 (mc := mX11_end) dL_law_442 kL_43 oX11_end (Nat.le_of_ble_eq_true rfl) (Nat.le_of_ble_eq_true rfl) rfl (by decide) rfl ?_
  refine M_post (fun r M1 hq => ?_) (hp M hM)
  obtain ⟨v, rfl, hq⟩ := hq
  dsimp only [pushR]
  refine J_aload_n dL_law_445 rfl ?_
  refine J_aload_n dL_law_446 rfl ?_
  refine J_iload_n dL_law_447 rfl ?_
  refine J_iconst (v := 1) dL_law_448 (by decide) ?_
  refine J_iadd dL_law_449 ?_
  refine J_sldE (j := 6 * i + 1) dL_law_450 scr_at (nI_add (6 * i) 1) (by omega) hL ?_
  refine M_callV1 (mc := mX12_end) dL_law_451 kL_47 oX12_end (Nat.le_of_ble_eq_true rfl) (Nat.le_of_ble_eq_true rfl) rfl (by decide) rfl ?_
  refine M_post (fun r2 M2 hq2 => ?_) hq
  obtain ⟨rfl, hI⟩ := hq2
  dsimp only [pushR]
  exact J_icmp_eq (tgt := 1059) dL_law_454 (by decide) (fun _ => kl M2 hI) (fun c => absurd rfl c)
set_option maxRecDepth 100000 in
set_option maxHeartbeats 1000000 in
theorem law_c7 {INV : Mem → Prop} {L i : Nat} {xs : Nat → Int32} {M : Mem} {Ψ : Option Int32 → Mem → Prop} (hi : 6 * i + 6 ≤ L) (hL : L ≤ 3072) (hM : INV M) (hp : Pair INV mX11_rules mX12_rules []) (kl : ∀ M2, INV M2 → JM (scr L xs) 901 mL_law 1059 (lls i) [] M2 Ψ) : JM (scr L xs) 901 mL_law 459 (lls i) [] M Ψ := by
  refine J_aload_n dL_law_459 rfl ?_
  refine M_callV0 (mc := mX11_rules) dL_law_460 kL_48 oX11_rules (Nat.le_of_ble_eq_true rfl) (Nat.le_of_ble_eq_true rfl) rfl (by decide) rfl ?_
  refine M_post (fun r M1 hq => ?_) (hp M hM)
  obtain ⟨v, rfl, hq⟩ := hq
  dsimp only [pushR]
  refine J_aload_n dL_law_463 rfl ?_
  refine M_callV0 (mc := mX12_rules) dL_law_464 kL_52 oX12_rules (Nat.le_of_ble_eq_true rfl) (Nat.le_of_ble_eq_true rfl) rfl (by decide) rfl ?_
  refine M_post (fun r2 M2 hq2 => ?_) hq
  obtain ⟨rfl, hI⟩ := hq2
  dsimp only [pushR]
  exact J_icmp_eq (tgt := 1059) dL_law_467 (by decide) (fun _ => kl M2 hI) (fun c => absurd rfl c)
set_option maxRecDepth 100000 in
set_option maxHeartbeats 1000000 in
theorem law_c8 {INV : Mem → Prop} {L i : Nat} {xs : Nat → Int32} {M : Mem} {Ψ : Option Int32 → Mem → Prop} (hi : 6 * i + 6 ≤ L) (hL : L ≤ 3072) (hM : INV M) (hp : Pair INV mX11_fault mX12_fault [.int (xs (6 * i + 1))]) (kl : ∀ M2, INV M2 → JM (scr L xs) 901 mL_law 1059 (lls i) [] M2 Ψ) : JM (scr L xs) 901 mL_law 472 (lls i) [] M Ψ := by
  refine J_aload_n dL_law_472 rfl ?_
  refine J_aload_n dL_law_473 rfl ?_
  refine J_iload_n dL_law_474 rfl ?_
  refine J_iconst (v := 1) dL_law_475 (by decide) ?_
  refine J_iadd dL_law_476 ?_
  refine J_sldE (j := 6 * i + 1) dL_law_477 scr_at (nI_add (6 * i) 1) (by omega) hL ?_
  refine M_callV1 (mc := mX11_fault) dL_law_478 kL_53 oX11_fault (Nat.le_of_ble_eq_true rfl) (Nat.le_of_ble_eq_true rfl) rfl (by decide) rfl ?_
  refine M_post (fun r M1 hq => ?_) (hp M hM)
  obtain ⟨v, rfl, hq⟩ := hq
  dsimp only [pushR]
  refine J_aload_n dL_law_481 rfl ?_
  refine J_aload_n dL_law_482 rfl ?_
  refine J_iload_n dL_law_483 rfl ?_
  refine J_iconst (v := 1) dL_law_484 (by decide) ?_
  refine J_iadd dL_law_485 ?_
  refine J_sldE (j := 6 * i + 1) dL_law_486 scr_at (nI_add (6 * i) 1) (by omega) hL ?_
  refine M_callV1 (mc := mX12_fault) dL_law_487 kL_56 oX12_fault (Nat.le_of_ble_eq_true rfl) (Nat.le_of_ble_eq_true rfl) rfl (by decide) rfl ?_
  refine M_post (fun r2 M2 hq2 => ?_) hq
  obtain ⟨rfl, hI⟩ := hq2
  dsimp only [pushR]
  exact J_icmp_eq (tgt := 1059) dL_law_490 (by decide) (fun _ => kl M2 hI) (fun c => absurd rfl c)
set_option maxRecDepth 100000 in
set_option maxHeartbeats 1000000 in
theorem law_c9 {INV : Mem → Prop} {L i : Nat} {xs : Nat → Int32} {M : Mem} {Ψ : Option Int32 → Mem → Prop} (hi : 6 * i + 6 ≤ L) (hL : L ≤ 3072) (hM : INV M) (hp : Pair INV mX11_may mX12_may [.int (xs (6 * i + 1)), .int (xs (6 * i + 2)), .int (xs (6 * i + 3))]) (kl : ∀ M2, INV M2 → JM (scr L xs) 901 mL_law 1059 (lls i) [] M2 Ψ) : JM (scr L xs) 901 mL_law 495 (lls i) [] M Ψ := by
  refine J_aload_n dL_law_495 rfl ?_
  refine J_aload_n dL_law_496 rfl ?_
  refine J_iload_n dL_law_497 rfl ?_
  refine J_iconst (v := 1) dL_law_498 (by decide) ?_
  refine J_iadd dL_law_499 ?_
  refine J_sldE (j := 6 * i + 1) dL_law_500 scr_at (nI_add (6 * i) 1) (by omega) hL ?_
  refine J_aload_n dL_law_501 rfl ?_
  refine J_iload_n dL_law_502 rfl ?_
  refine J_iconst (v := 2) dL_law_503 (by decide) ?_
  refine J_iadd dL_law_504 ?_
  refine J_sldE (j := 6 * i + 2) dL_law_505 scr_at (nI_add (6 * i) 2) (by omega) hL ?_
  refine J_aload_n dL_law_506 rfl ?_
  refine J_iload_n dL_law_507 rfl ?_
  refine J_iconst (v := 3) dL_law_508 (by decide) ?_
  refine J_iadd dL_law_509 ?_
  refine J_sldE (j := 6 * i + 3) dL_law_510 scr_at (nI_add (6 * i) 3) (by omega) hL ?_
  refine M_callV3 (mc := mX11_may) dL_law_511 kL_57 oX11_may (Nat.le_of_ble_eq_true rfl) (Nat.le_of_ble_eq_true rfl) rfl (by decide) rfl ?_
  refine M_post (fun r M1 hq => ?_) (hp M hM)
  obtain ⟨v, rfl, hq⟩ := hq
  dsimp only [pushR]
  refine J_aload_n dL_law_514 rfl ?_
  refine J_aload_n dL_law_515 rfl ?_
  refine J_iload_n dL_law_516 rfl ?_
  refine J_iconst (v := 1) dL_law_517 (by decide) ?_
  refine J_iadd dL_law_518 ?_
  refine J_sldE (j := 6 * i + 1) dL_law_519 scr_at (nI_add (6 * i) 1) (by omega) hL ?_
  refine J_aload_n dL_law_520 rfl ?_
  refine J_iload_n dL_law_521 rfl ?_
  refine J_iconst (v := 2) dL_law_522 (by decide) ?_
  refine J_iadd dL_law_523 ?_
  refine J_sldE (j := 6 * i + 2) dL_law_524 scr_at (nI_add (6 * i) 2) (by omega) hL ?_
  refine J_aload_n dL_law_525 rfl ?_
  refine J_iload_n dL_law_526 rfl ?_
  refine J_iconst (v := 3) dL_law_527 (by decide) ?_
  refine J_iadd dL_law_528 ?_
  refine J_sldE (j := 6 * i + 3) dL_law_529 scr_at (nI_add (6 * i) 3) (by omega) hL ?_
  refine M_callV3 (mc := mX12_may) dL_law_530 kL_60 oX12_may (Nat.le_of_ble_eq_true rfl) (Nat.le_of_ble_eq_true rfl) rfl (by decide) rfl ?_
  refine M_post (fun r2 M2 hq2 => ?_) hq
  obtain ⟨rfl, hI⟩ := hq2
  dsimp only [pushR]
  exact J_icmp_eq (tgt := 1059) dL_law_533 (by decide) (fun _ => kl M2 hI) (fun c => absurd rfl c)
set_option maxRecDepth 100000 in
set_option maxHeartbeats 1000000 in
theorem law_c10 {INV : Mem → Prop} {L i : Nat} {xs : Nat → Int32} {M : Mem} {Ψ : Option Int32 → Mem → Prop} (hi : 6 * i + 6 ≤ L) (hL : L ≤ 3072) (hM : INV M) (hp : Pair INV mX11_meet mX12_meet [.int (xs (6 * i + 1)), .int (xs (6 * i + 2)), .int (xs (6 * i + 3)), .int (xs (6 * i + 4)), .int (xs (6 * i + 5))]) (kl : ∀ M2, INV M2 → JM (scr L xs) 901 mL_law 1059 (lls i) [] M2 Ψ) : JM (scr L xs) 901 mL_law 538 (lls i) [] M Ψ := by
  refine J_aload_n dL_law_538 rfl ?_
  refine J_aload_n dL_law_539 rfl ?_
  refine J_iload_n dL_law_540 rfl ?_
  refine J_iconst (v := 1) dL_law_541 (by decide) ?_
  refine J_iadd dL_law_542 ?_
  refine J_sldE (j := 6 * i + 1) dL_law_543 scr_at (nI_add (6 * i) 1) (by omega) hL ?_
  refine J_aload_n dL_law_544 rfl ?_
  refine J_iload_n dL_law_545 rfl ?_
  refine J_iconst (v := 2) dL_law_546 (by decide) ?_
  refine J_iadd dL_law_547 ?_
  refine J_sldE (j := 6 * i + 2) dL_law_548 scr_at (nI_add (6 * i) 2) (by omega) hL ?_
  refine J_aload_n dL_law_549 rfl ?_
  refine J_iload_n dL_law_550 rfl ?_
  refine J_iconst (v := 3) dL_law_551 (by decide) ?_
  refine J_iadd dL_law_552 ?_
  refine J_sldE (j := 6 * i + 3) dL_law_553 scr_at (nI_add (6 * i) 3) (by omega) hL ?_
  refine J_aload_n dL_law_554 rfl ?_
  refine J_iload_n dL_law_555 rfl ?_
  refine J_iconst (v := 4) dL_law_556 (by decide) ?_
  refine J_iadd dL_law_557 ?_
  refine J_sldE (j := 6 * i + 4) dL_law_558 scr_at (nI_add (6 * i) 4) (by omega) hL ?_
  refine J_aload_n dL_law_559 rfl ?_
  refine J_iload_n dL_law_560 rfl ?_
  refine J_iconst (v := 5) dL_law_561 (by decide) ?_
  refine J_iadd dL_law_562 ?_
  refine J_sldE (j := 6 * i + 5) dL_law_563 scr_at (nI_add (6 * i) 5) (by omega) hL ?_
  refine M_callV5 (mc := mX11_meet) dL_law_564 kL_61 oX11_meet (Nat.le_of_ble_eq_true rfl) (Nat.le_of_ble_eq_true rfl) rfl (by decide) rfl ?_
  refine M_post (fun r M1 hq => ?_) (hp M hM)
  obtain ⟨v, rfl, hq⟩ := hq
  dsimp only [pushR]
  refine J_aload_n dL_law_567 rfl ?_
  refine J_aload_n dL_law_568 rfl ?_
  refine J_iload_n dL_law_569 rfl ?_
  refine J_iconst (v := 1) dL_law_570 (by decide) ?_
  refine J_iadd dL_law_571 ?_
  refine J_sldE (j := 6 * i + 1) dL_law_572 scr_at (nI_add (6 * i) 1) (by omega) hL ?_
  refine J_aload_n dL_law_573 rfl ?_
  refine J_iload_n dL_law_574 rfl ?_
  refine J_iconst (v := 2) dL_law_575 (by decide) ?_
  refine J_iadd dL_law_576 ?_
  refine J_sldE (j := 6 * i + 2) dL_law_577 scr_at (nI_add (6 * i) 2) (by omega) hL ?_
  refine J_aload_n dL_law_578 rfl ?_
  refine J_iload_n dL_law_579 rfl ?_
  refine J_iconst (v := 3) dL_law_580 (by decide) ?_
  refine J_iadd dL_law_581 ?_
  refine J_sldE (j := 6 * i + 3) dL_law_582 scr_at (nI_add (6 * i) 3) (by omega) hL ?_
  refine J_aload_n dL_law_583 rfl ?_
  refine J_iload_n dL_law_584 rfl ?_
  refine J_iconst (v := 4) dL_law_585 (by decide) ?_
  refine J_iadd dL_law_586 ?_
  refine J_sldE (j := 6 * i + 4) dL_law_587 scr_at (nI_add (6 * i) 4) (by omega) hL ?_
  refine J_aload_n dL_law_588 rfl ?_
  refine J_iload_n dL_law_589 rfl ?_
  refine J_iconst (v := 5) dL_law_590 (by decide) ?_
  refine J_iadd dL_law_591 ?_
  refine J_sldE (j := 6 * i + 5) dL_law_592 scr_at (nI_add (6 * i) 5) (by omega) hL ?_
  refine M_callV5 (mc := mX12_meet) dL_law_593 kL_65 oX12_meet (Nat.le_of_ble_eq_true rfl) (Nat.le_of_ble_eq_true rfl) rfl (by decide) rfl ?_
  refine M_post (fun r2 M2 hq2 => ?_) hq
  obtain ⟨rfl, hI⟩ := hq2
  dsimp only [pushR]
  exact J_icmp_eq (tgt := 1059) dL_law_596 (by decide) (fun _ => kl M2 hI) (fun c => absurd rfl c)
set_option maxRecDepth 100000 in
set_option maxHeartbeats 1000000 in
theorem law_c11 {INV : Mem → Prop} {L i : Nat} {xs : Nat → Int32} {M : Mem} {Ψ : Option Int32 → Mem → Prop} (hi : 6 * i + 6 ≤ L) (hL : L ≤ 3072) (hM : INV M) (hp : Pair INV mX11_plan mX12_plan []) (kl : ∀ M2, INV M2 → JM (scr L xs) 901 mL_law 1059 (lls i) [] M2 Ψ) : JM (scr L xs) 901 mL_law 601 (lls i) [] M Ψ := by
  refine J_aload_n dL_law_601 rfl ?_
  refine M_callV0 (mc := mX11_plan) dL_law_602 kL_66 oX11_plan (Nat.le_of_ble_eq_true rfl) (Nat.le_of_ble_eq_true rfl) rfl (by decide) rfl ?_
  refine M_post (fun r M1 hq => ?_) (hp M hM)
  obtain ⟨v, rfl, hq⟩ := hq
  dsimp only [pushR]
  refine J_aload_n dL_law_605 rfl ?_
  refine M_callV0 (mc := mX12_plan) dL_law_606 kL_69 oX12_plan (Nat.le_of_ble_eq_true rfl) (Nat.le_of_ble_eq_true rfl) rfl (by decide) rfl ?_
  refine M_post (fun r2 M2 hq2 => ?_) hq
  obtain ⟨rfl, hI⟩ := hq2
  dsimp only [pushR]
  exact J_icmp_eq (tgt := 1059) dL_law_609 (by decide) (fun _ => kl M2 hI) (fun c => absurd rfl c)
set_option maxRecDepth 100000 in
set_option maxHeartbeats 1000000 in
theorem law_c12 {INV : Mem → Prop} {L i : Nat} {xs : Nat → Int32} {M : Mem} {Ψ : Option Int32 → Mem → Prop} (hi : 6 * i + 6 ≤ L) (hL : L ≤ 3072) (hM : INV M) (hp : Pair INV mX11_tries mX12_tries []) (kl : ∀ M2, INV M2 → JM (scr L xs) 901 mL_law 1059 (lls i) [] M2 Ψ) : JM (scr L xs) 901 mL_law 614 (lls i) [] M Ψ := by
  refine J_aload_n dL_law_614 rfl ?_
  refine M_callV0 (mc := mX11_tries) dL_law_615 kL_70 oX11_tries (Nat.le_of_ble_eq_true rfl) (Nat.le_of_ble_eq_true rfl) rfl (by decide) rfl ?_
  refine M_post (fun r M1 hq => ?_) (hp M hM)
  obtain ⟨v, rfl, hq⟩ := hq
  dsimp only [pushR]
  refine J_aload_n dL_law_618 rfl ?_
  refine M_callV0 (mc := mX12_tries) dL_law_619 kL_73 oX12_tries (Nat.le_of_ble_eq_true rfl) (Nat.le_of_ble_eq_true rfl) rfl (by decide) rfl ?_
  refine M_post (fun r2 M2 hq2 => ?_) hq
  obtain ⟨rfl, hI⟩ := hq2
  dsimp only [pushR]
  exact J_icmp_eq (tgt := 1059) dL_law_622 (by decide) (fun _ => kl M2 hI) (fun c => absurd rfl c)
set_option maxRecDepth 100000 in
set_option maxHeartbeats 1000000 in
theorem law_c13 {INV : Mem → Prop} {L i : Nat} {xs : Nat → Int32} {M : Mem} {Ψ : Option Int32 → Mem → Prop} (hi : 6 * i + 6 ≤ L) (hL : L ≤ 3072) (hM : INV M) (hp : Pair INV mX11_out mX12_out [.int (xs (6 * i + 1))]) (kl : ∀ M2, INV M2 → JM (scr L xs) 901 mL_law 1059 (lls i) [] M2 Ψ) : JM (scr L xs) 901 mL_law 627 (lls i) [] M Ψ := by
  refine J_aload_n dL_law_627 rfl ?_
  refine J_aload_n dL_law_628 rfl ?_
  refine J_iload_n dL_law_629 rfl ?_
  refine J_iconst (v := 1) dL_law_630 (by decide) ?_
  refine J_iadd dL_law_631 ?_
  refine J_sldE (j := 6 * i + 1) dL_law_632 scr_at (nI_add (6 * i) 1) (by omega) hL ?_
  refine M_callV1 (mc := mX11_out) dL_law_633 kL_74 oX11_out (Nat.le_of_ble_eq_true rfl) (Nat.le_of_ble_eq_true rfl) rfl (by decide) rfl ?_
  refine M_post (fun r M1 hq => ?_) (hp M hM)
  obtain ⟨v, rfl, hq⟩ := hq
  dsimp only [pushR]
  refine J_aload_n dL_law_636 rfl ?_
  refine J_aload_n dL_law_637 rfl ?_
  refine J_iload_n dL_law_638 rfl ?_
  refine J_iconst (v := 1) dL_law_639 (by decide) ?_
  refine J_iadd dL_law_640 ?_
  refine J_sldE (j := 6 * i + 1) dL_law_641 scr_at (nI_add (6 * i) 1) (by omega) hL ?_
  refine M_callV1 (mc := mX12_out) dL_law_642 kL_77 oX12_out (Nat.le_of_ble_eq_true rfl) (Nat.le_of_ble_eq_true rfl) rfl (by decide) rfl ?_
  refine M_post (fun r2 M2 hq2 => ?_) hq
  obtain ⟨rfl, hI⟩ := hq2
  dsimp only [pushR]
  exact J_icmp_eq (tgt := 1059) dL_law_645 (by decide) (fun _ => kl M2 hI) (fun c => absurd rfl c)
set_option maxRecDepth 100000 in
set_option maxHeartbeats 1000000 in
theorem law_c14 {INV : Mem → Prop} {L i : Nat} {xs : Nat → Int32} {M : Mem} {Ψ : Option Int32 → Mem → Prop} (hi : 6 * i + 6 ≤ L) (hL : L ≤ 3072) (hM : INV M) (hp : Pair INV mX11_stuck mX12_stuck []) (kl : ∀ M2, INV M2 → JM (scr L xs) 901 mL_law 1059 (lls i) [] M2 Ψ) : JM (scr L xs) 901 mL_law 650 (lls i) [] M Ψ := by
  refine J_aload_n dL_law_650 rfl ?_
  refine M_callV0 (mc := mX11_stuck) dL_law_651 kL_78 oX11_stuck (Nat.le_of_ble_eq_true rfl) (Nat.le_of_ble_eq_true rfl) rfl (by decide) rfl ?_
  refine M_post (fun r M1 hq => ?_) (hp M hM)
  obtain ⟨v, rfl, hq⟩ := hq
  dsimp only [pushR]
  refine J_aload_n dL_law_654 rfl ?_
  refine M_callV0 (mc := mX12_stuck) dL_law_655 kL_81 oX12_stuck (Nat.le_of_ble_eq_true rfl) (Nat.le_of_ble_eq_true rfl) rfl (by decide) rfl ?_
  refine M_post (fun r2 M2 hq2 => ?_) hq
  obtain ⟨rfl, hI⟩ := hq2
  dsimp only [pushR]
  exact J_icmp_eq (tgt := 1059) dL_law_658 (by decide) (fun _ => kl M2 hI) (fun c => absurd rfl c)
set_option maxRecDepth 100000 in
set_option maxHeartbeats 1000000 in
theorem law_c15 {INV : Mem → Prop} {L i : Nat} {xs : Nat → Int32} {M : Mem} {Ψ : Option Int32 → Mem → Prop} (hi : 6 * i + 6 ≤ L) (hL : L ≤ 3072) (hM : INV M) (hp : Pair INV mX11_lot mX12_lot [.int (xs (6 * i + 1)), .int (xs (6 * i + 2)), .int (xs (6 * i + 3))]) (kl : ∀ M2, INV M2 → JM (scr L xs) 901 mL_law 1059 (lls i) [] M2 Ψ) : JM (scr L xs) 901 mL_law 663 (lls i) [] M Ψ := by
  refine J_aload_n dL_law_663 rfl ?_
  refine J_aload_n dL_law_664 rfl ?_
  refine J_iload_n dL_law_665 rfl ?_
  refine J_iconst (v := 1) dL_law_666 (by decide) ?_
  refine J_iadd dL_law_667 ?_
  refine J_sldE (j := 6 * i + 1) dL_law_668 scr_at (nI_add (6 * i) 1) (by omega) hL ?_
  refine J_aload_n dL_law_669 rfl ?_
  refine J_iload_n dL_law_670 rfl ?_
  refine J_iconst (v := 2) dL_law_671 (by decide) ?_
  refine J_iadd dL_law_672 ?_
  refine J_sldE (j := 6 * i + 2) dL_law_673 scr_at (nI_add (6 * i) 2) (by omega) hL ?_
  refine J_aload_n dL_law_674 rfl ?_
  refine J_iload_n dL_law_675 rfl ?_
  refine J_iconst (v := 3) dL_law_676 (by decide) ?_
  refine J_iadd dL_law_677 ?_
  refine J_sldE (j := 6 * i + 3) dL_law_678 scr_at (nI_add (6 * i) 3) (by omega) hL ?_
  refine M_callV3 (mc := mX11_lot) dL_law_679 kL_82 oX11_lot (Nat.le_of_ble_eq_true rfl) (Nat.le_of_ble_eq_true rfl) rfl (by decide) rfl ?_
  refine M_post (fun r M1 hq => ?_) (hp M hM)
  obtain ⟨v, rfl, hq⟩ := hq
  dsimp only [pushR]
  refine J_aload_n dL_law_682 rfl ?_
  refine J_aload_n dL_law_683 rfl ?_
  refine J_iload_n dL_law_684 rfl ?_
  refine J_iconst (v := 1) dL_law_685 (by decide) ?_
  refine J_iadd dL_law_686 ?_
  refine J_sldE (j := 6 * i + 1) dL_law_687 scr_at (nI_add (6 * i) 1) (by omega) hL ?_
  refine J_aload_n dL_law_688 rfl ?_
  refine J_iload_n dL_law_689 rfl ?_
  refine J_iconst (v := 2) dL_law_690 (by decide) ?_
  refine J_iadd dL_law_691 ?_
  refine J_sldE (j := 6 * i + 2) dL_law_692 scr_at (nI_add (6 * i) 2) (by omega) hL ?_
  refine J_aload_n dL_law_693 rfl ?_
  refine J_iload_n dL_law_694 rfl ?_
  refine J_iconst (v := 3) dL_law_695 (by decide) ?_
  refine J_iadd dL_law_696 ?_
  refine J_sldE (j := 6 * i + 3) dL_law_697 scr_at (nI_add (6 * i) 3) (by omega) hL ?_
  refine M_callV3 (mc := mX12_lot) dL_law_698 kL_86 oX12_lot (Nat.le_of_ble_eq_true rfl) (Nat.le_of_ble_eq_true rfl) rfl (by decide) rfl ?_
  refine M_post (fun r2 M2 hq2 => ?_) hq
  obtain ⟨rfl, hI⟩ := hq2
  dsimp only [pushR]
  exact J_icmp_eq (tgt := 1059) dL_law_701 (by decide) (fun _ => kl M2 hI) (fun c => absurd rfl c)
set_option maxRecDepth 100000 in
set_option maxHeartbeats 1000000 in
theorem law_c16 {INV : Mem → Prop} {L i : Nat} {xs : Nat → Int32} {M : Mem} {Ψ : Option Int32 → Mem → Prop} (hi : 6 * i + 6 ≤ L) (hL : L ≤ 3072) (hM : INV M) (hp : Pair INV mX11_takes mX12_takes [.int (xs (6 * i + 1)), .int (xs (6 * i + 2)), .int (xs (6 * i + 3))]) (kl : ∀ M2, INV M2 → JM (scr L xs) 901 mL_law 1059 (lls i) [] M2 Ψ) : JM (scr L xs) 901 mL_law 706 (lls i) [] M Ψ := by
  refine J_aload_n dL_law_706 rfl ?_
  refine J_aload_n dL_law_707 rfl ?_
  refine J_iload_n dL_law_708 rfl ?_
  refine J_iconst (v := 1) dL_law_709 (by decide) ?_
  refine J_iadd dL_law_710 ?_
  refine J_sldE (j := 6 * i + 1) dL_law_711 scr_at (nI_add (6 * i) 1) (by omega) hL ?_
  refine J_aload_n dL_law_712 rfl ?_
  refine J_iload_n dL_law_713 rfl ?_
  refine J_iconst (v := 2) dL_law_714 (by decide) ?_
  refine J_iadd dL_law_715 ?_
  refine J_sldE (j := 6 * i + 2) dL_law_716 scr_at (nI_add (6 * i) 2) (by omega) hL ?_
  refine J_aload_n dL_law_717 rfl ?_
  refine J_iload_n dL_law_718 rfl ?_
  refine J_iconst (v := 3) dL_law_719 (by decide) ?_
  refine J_iadd dL_law_720 ?_
  refine J_sldE (j := 6 * i + 3) dL_law_721 scr_at (nI_add (6 * i) 3) (by omega) hL ?_
  refine M_callV3 (mc := mX11_takes) dL_law_722 kL_87 oX11_takes (Nat.le_of_ble_eq_true rfl) (Nat.le_of_ble_eq_true rfl) rfl (by decide) rfl ?_
  refine M_post (fun r M1 hq => ?_) (hp M hM)
  obtain ⟨v, rfl, hq⟩ := hq
  dsimp only [pushR]
  refine J_aload_n dL_law_725 rfl ?_
  refine J_aload_n dL_law_726 rfl ?_
  refine J_iload_n dL_law_727 rfl ?_
  refine J_iconst (v := 1) dL_law_728 (by decide) ?_
  refine J_iadd dL_law_729 ?_
  refine J_sldE (j := 6 * i + 1) dL_law_730 scr_at (nI_add (6 * i) 1) (by omega) hL ?_
  refine J_aload_n dL_law_731 rfl ?_
  refine J_iload_n dL_law_732 rfl ?_
  refine J_iconst (v := 2) dL_law_733 (by decide) ?_
  refine J_iadd dL_law_734 ?_
  refine J_sldE (j := 6 * i + 2) dL_law_735 scr_at (nI_add (6 * i) 2) (by omega) hL ?_
  refine J_aload_n dL_law_736 rfl ?_
  refine J_iload_n dL_law_737 rfl ?_
  refine J_iconst (v := 3) dL_law_738 (by decide) ?_
  refine J_iadd dL_law_739 ?_
  refine J_sldE (j := 6 * i + 3) dL_law_740 scr_at (nI_add (6 * i) 3) (by omega) hL ?_
  refine M_callV3 (mc := mX12_takes) dL_law_741 kL_90 oX12_takes (Nat.le_of_ble_eq_true rfl) (Nat.le_of_ble_eq_true rfl) rfl (by decide) rfl ?_
  refine M_post (fun r2 M2 hq2 => ?_) hq
  obtain ⟨rfl, hI⟩ := hq2
  dsimp only [pushR]
  exact J_icmp_eq (tgt := 1059) dL_law_744 (by decide) (fun _ => kl M2 hI) (fun c => absurd rfl c)
set_option maxRecDepth 100000 in
set_option maxHeartbeats 1000000 in
theorem law_c17 {INV : Mem → Prop} {L i : Nat} {xs : Nat → Int32} {M : Mem} {Ψ : Option Int32 → Mem → Prop} (hi : 6 * i + 6 ≤ L) (hL : L ≤ 3072) (hM : INV M) (hp : Pair INV mX11_price mX12_price [.int (xs (6 * i + 1)), .int (xs (6 * i + 2))]) (kl : ∀ M2, INV M2 → JM (scr L xs) 901 mL_law 1059 (lls i) [] M2 Ψ) : JM (scr L xs) 901 mL_law 749 (lls i) [] M Ψ := by
  refine J_aload_n dL_law_749 rfl ?_
  refine J_aload_n dL_law_750 rfl ?_
  refine J_iload_n dL_law_751 rfl ?_
  refine J_iconst (v := 1) dL_law_752 (by decide) ?_
  refine J_iadd dL_law_753 ?_
  refine J_sldE (j := 6 * i + 1) dL_law_754 scr_at (nI_add (6 * i) 1) (by omega) hL ?_
  refine J_aload_n dL_law_755 rfl ?_
  refine J_iload_n dL_law_756 rfl ?_
  refine J_iconst (v := 2) dL_law_757 (by decide) ?_
  refine J_iadd dL_law_758 ?_
  refine J_sldE (j := 6 * i + 2) dL_law_759 scr_at (nI_add (6 * i) 2) (by omega) hL ?_
  refine M_callV2 (mc := mX11_price) dL_law_760 kL_91 oX11_price (Nat.le_of_ble_eq_true rfl) (Nat.le_of_ble_eq_true rfl) rfl (by decide) rfl ?_
  refine M_post (fun r M1 hq => ?_) (hp M hM)
  obtain ⟨v, rfl, hq⟩ := hq
  dsimp only [pushR]
  refine J_aload_n dL_law_763 rfl ?_
  refine J_aload_n dL_law_764 rfl ?_
  refine J_iload_n dL_law_765 rfl ?_
  refine J_iconst (v := 1) dL_law_766 (by decide) ?_
  refine J_iadd dL_law_767 ?_
  refine J_sldE (j := 6 * i + 1) dL_law_768 scr_at (nI_add (6 * i) 1) (by omega) hL ?_
  refine J_aload_n dL_law_769 rfl ?_
  refine J_iload_n dL_law_770 rfl ?_
  refine J_iconst (v := 2) dL_law_771 (by decide) ?_
  refine J_iadd dL_law_772 ?_
  refine J_sldE (j := 6 * i + 2) dL_law_773 scr_at (nI_add (6 * i) 2) (by omega) hL ?_
  refine M_callV2 (mc := mX12_price) dL_law_774 kL_94 oX12_price (Nat.le_of_ble_eq_true rfl) (Nat.le_of_ble_eq_true rfl) rfl (by decide) rfl ?_
  refine M_post (fun r2 M2 hq2 => ?_) hq
  obtain ⟨rfl, hI⟩ := hq2
  dsimp only [pushR]
  exact J_icmp_eq (tgt := 1059) dL_law_777 (by decide) (fun _ => kl M2 hI) (fun c => absurd rfl c)
set_option maxRecDepth 100000 in
set_option maxHeartbeats 1000000 in
theorem law_c18 {INV : Mem → Prop} {L i : Nat} {xs : Nat → Int32} {M : Mem} {Ψ : Option Int32 → Mem → Prop} (hi : 6 * i + 6 ≤ L) (hL : L ≤ 3072) (hM : INV M) (hp : Pair INV mX11_falls mX12_falls [.int (xs (6 * i + 1)), .int (xs (6 * i + 2))]) (kl : ∀ M2, INV M2 → JM (scr L xs) 901 mL_law 1059 (lls i) [] M2 Ψ) : JM (scr L xs) 901 mL_law 782 (lls i) [] M Ψ := by
  refine J_aload_n dL_law_782 rfl ?_
  refine J_aload_n dL_law_783 rfl ?_
  refine J_iload_n dL_law_784 rfl ?_
  refine J_iconst (v := 1) dL_law_785 (by decide) ?_
  refine J_iadd dL_law_786 ?_
  refine J_sldE (j := 6 * i + 1) dL_law_787 scr_at (nI_add (6 * i) 1) (by omega) hL ?_
  refine J_aload_n dL_law_788 rfl ?_
  refine J_iload_n dL_law_789 rfl ?_
  refine J_iconst (v := 2) dL_law_790 (by decide) ?_
  refine J_iadd dL_law_791 ?_
  refine J_sldE (j := 6 * i + 2) dL_law_792 scr_at (nI_add (6 * i) 2) (by omega) hL ?_
  refine M_callV2 (mc := mX11_falls) dL_law_793 kL_95 oX11_falls (Nat.le_of_ble_eq_true rfl) (Nat.le_of_ble_eq_true rfl) rfl (by decide) rfl ?_
  refine M_post (fun r M1 hq => ?_) (hp M hM)
  obtain ⟨v, rfl, hq⟩ := hq
  dsimp only [pushR]
  refine J_aload_n dL_law_796 rfl ?_
  refine J_aload_n dL_law_797 rfl ?_
  refine J_iload_n dL_law_798 rfl ?_
  refine J_iconst (v := 1) dL_law_799 (by decide) ?_
  refine J_iadd dL_law_800 ?_
  refine J_sldE (j := 6 * i + 1) dL_law_801 scr_at (nI_add (6 * i) 1) (by omega) hL ?_
  refine J_aload_n dL_law_802 rfl ?_
  refine J_iload_n dL_law_803 rfl ?_
  refine J_iconst (v := 2) dL_law_804 (by decide) ?_
  refine J_iadd dL_law_805 ?_
  refine J_sldE (j := 6 * i + 2) dL_law_806 scr_at (nI_add (6 * i) 2) (by omega) hL ?_
  refine M_callV2 (mc := mX12_falls) dL_law_807 kL_98 oX12_falls (Nat.le_of_ble_eq_true rfl) (Nat.le_of_ble_eq_true rfl) rfl (by decide) rfl ?_
  refine M_post (fun r2 M2 hq2 => ?_) hq
  obtain ⟨rfl, hI⟩ := hq2
  dsimp only [pushR]
  exact J_icmp_eq (tgt := 1059) dL_law_810 (by decide) (fun _ => kl M2 hI) (fun c => absurd rfl c)
set_option maxRecDepth 100000 in
set_option maxHeartbeats 1000000 in
theorem law_c19 {INV : Mem → Prop} {L i : Nat} {xs : Nat → Int32} {M : Mem} {Ψ : Option Int32 → Mem → Prop} (hi : 6 * i + 6 ≤ L) (hL : L ≤ 3072) (hM : INV M) (hp : Pair INV mX11_night mX12_night []) (kl : ∀ M2, INV M2 → JM (scr L xs) 901 mL_law 1059 (lls i) [] M2 Ψ) : JM (scr L xs) 901 mL_law 815 (lls i) [] M Ψ := by
  refine J_aload_n dL_law_815 rfl ?_
  refine M_callV0 (mc := mX11_night) dL_law_816 kL_99 oX11_night (Nat.le_of_ble_eq_true rfl) (Nat.le_of_ble_eq_true rfl) rfl (by decide) rfl ?_
  refine M_post (fun r M1 hq => ?_) (hp M hM)
  obtain ⟨v, rfl, hq⟩ := hq
  dsimp only [pushR]
  refine J_aload_n dL_law_819 rfl ?_
  refine M_callV0 (mc := mX12_night) dL_law_820 kL_102 oX12_night (Nat.le_of_ble_eq_true rfl) (Nat.le_of_ble_eq_true rfl) rfl (by decide) rfl ?_
  refine M_post (fun r2 M2 hq2 => ?_) hq
  obtain ⟨rfl, hI⟩ := hq2
  dsimp only [pushR]
  exact J_icmp_eq (tgt := 1059) dL_law_823 (by decide) (fun _ => kl M2 hI) (fun c => absurd rfl c)
set_option maxRecDepth 100000 in
set_option maxHeartbeats 1000000 in
theorem law_c20 {INV : Mem → Prop} {L i : Nat} {xs : Nat → Int32} {M : Mem} {Ψ : Option Int32 → Mem → Prop} (hi : 6 * i + 6 ≤ L) (hL : L ≤ 3072) (hM : INV M) (hp : Pair INV mX11_bin mX12_bin [.int (xs (6 * i + 1)), .int (xs (6 * i + 2))]) (kl : ∀ M2, INV M2 → JM (scr L xs) 901 mL_law 1059 (lls i) [] M2 Ψ) : JM (scr L xs) 901 mL_law 828 (lls i) [] M Ψ := by
  refine J_aload_n dL_law_828 rfl ?_
  refine J_aload_n dL_law_829 rfl ?_
  refine J_iload_n dL_law_830 rfl ?_
  refine J_iconst (v := 1) dL_law_831 (by decide) ?_
  refine J_iadd dL_law_832 ?_
  refine J_sldE (j := 6 * i + 1) dL_law_833 scr_at (nI_add (6 * i) 1) (by omega) hL ?_
  refine J_aload_n dL_law_834 rfl ?_
  refine J_iload_n dL_law_835 rfl ?_
  refine J_iconst (v := 2) dL_law_836 (by decide) ?_
  refine J_iadd dL_law_837 ?_
  refine J_sldE (j := 6 * i + 2) dL_law_838 scr_at (nI_add (6 * i) 2) (by omega) hL ?_
  refine M_callV2 (mc := mX11_bin) dL_law_839 kL_103 oX11_bin (Nat.le_of_ble_eq_true rfl) (Nat.le_of_ble_eq_true rfl) rfl (by decide) rfl ?_
  refine M_post (fun r M1 hq => ?_) (hp M hM)
  obtain ⟨v, rfl, hq⟩ := hq
  dsimp only [pushR]
  refine J_aload_n dL_law_842 rfl ?_
  refine J_aload_n dL_law_843 rfl ?_
  refine J_iload_n dL_law_844 rfl ?_
  refine J_iconst (v := 1) dL_law_845 (by decide) ?_
  refine J_iadd dL_law_846 ?_
  refine J_sldE (j := 6 * i + 1) dL_law_847 scr_at (nI_add (6 * i) 1) (by omega) hL ?_
  refine J_aload_n dL_law_848 rfl ?_
  refine J_iload_n dL_law_849 rfl ?_
  refine J_iconst (v := 2) dL_law_850 (by decide) ?_
  refine J_iadd dL_law_851 ?_
  refine J_sldE (j := 6 * i + 2) dL_law_852 scr_at (nI_add (6 * i) 2) (by omega) hL ?_
  refine M_callV2 (mc := mX12_bin) dL_law_853 kL_106 oX12_bin (Nat.le_of_ble_eq_true rfl) (Nat.le_of_ble_eq_true rfl) rfl (by decide) rfl ?_
  refine M_post (fun r2 M2 hq2 => ?_) hq
  obtain ⟨rfl, hI⟩ := hq2
  dsimp only [pushR]
  exact J_icmp_eq (tgt := 1059) dL_law_856 (by decide) (fun _ => kl M2 hI) (fun c => absurd rfl c)
set_option maxRecDepth 100000 in
set_option maxHeartbeats 1000000 in
theorem law_c21 {INV : Mem → Prop} {L i : Nat} {xs : Nat → Int32} {M : Mem} {Ψ : Option Int32 → Mem → Prop} (hi : 6 * i + 6 ≤ L) (hL : L ≤ 3072) (hM : INV M) (hp : Pair INV mX11_foretold mX12_foretold [.int (xs (6 * i + 1))]) (kl : ∀ M2, INV M2 → JM (scr L xs) 901 mL_law 1059 (lls i) [] M2 Ψ) : JM (scr L xs) 901 mL_law 861 (lls i) [] M Ψ := by
  refine J_aload_n dL_law_861 rfl ?_
  refine J_aload_n dL_law_862 rfl ?_
  refine J_iload_n dL_law_863 rfl ?_
  refine J_iconst (v := 1) dL_law_864 (by decide) ?_
  refine J_iadd dL_law_865 ?_
  refine J_sldE (j := 6 * i + 1) dL_law_866 scr_at (nI_add (6 * i) 1) (by omega) hL ?_
  refine M_callV1 (mc := mX11_foretold) dL_law_867 kL_107 oX11_foretold (Nat.le_of_ble_eq_true rfl) (Nat.le_of_ble_eq_true rfl) rfl (by decide) rfl ?_
  refine M_post (fun r M1 hq => ?_) (hp M hM)
  obtain ⟨v, rfl, hq⟩ := hq
  dsimp only [pushR]
  refine J_aload_n dL_law_870 rfl ?_
  refine J_aload_n dL_law_871 rfl ?_
  refine J_iload_n dL_law_872 rfl ?_
  refine J_iconst (v := 1) dL_law_873 (by decide) ?_
  refine J_iadd dL_law_874 ?_
  refine J_sldE (j := 6 * i + 1) dL_law_875 scr_at (nI_add (6 * i) 1) (by omega) hL ?_
  refine M_callV1 (mc := mX12_foretold) dL_law_876 kL_110 oX12_foretold (Nat.le_of_ble_eq_true rfl) (Nat.le_of_ble_eq_true rfl) rfl (by decide) rfl ?_
  refine M_post (fun r2 M2 hq2 => ?_) hq
  obtain ⟨rfl, hI⟩ := hq2
  dsimp only [pushR]
  exact J_icmp_eq (tgt := 1059) dL_law_879 (by decide) (fun _ => kl M2 hI) (fun c => absurd rfl c)
set_option maxRecDepth 100000 in
set_option maxHeartbeats 1000000 in
theorem law_c22 {INV : Mem → Prop} {L i : Nat} {xs : Nat → Int32} {M : Mem} {Ψ : Option Int32 → Mem → Prop} (hi : 6 * i + 6 ≤ L) (hL : L ≤ 3072) (hM : INV M) (hp : Pair INV mX11_work mX12_work [.int (xs (6 * i + 1)), .int (xs (6 * i + 2)), .int (xs (6 * i + 3))]) (kl : ∀ M2, INV M2 → JM (scr L xs) 901 mL_law 1059 (lls i) [] M2 Ψ) : JM (scr L xs) 901 mL_law 884 (lls i) [] M Ψ := by
  refine J_aload_n dL_law_884 rfl ?_
  refine J_aload_n dL_law_885 rfl ?_
  refine J_iload_n dL_law_886 rfl ?_
  refine J_iconst (v := 1) dL_law_887 (by decide) ?_
  refine J_iadd dL_law_888 ?_
  refine J_sldE (j := 6 * i + 1) dL_law_889 scr_at (nI_add (6 * i) 1) (by omega) hL ?_
  refine J_aload_n dL_law_890 rfl ?_
  refine J_iload_n dL_law_891 rfl ?_
  refine J_iconst (v := 2) dL_law_892 (by decide) ?_
  refine J_iadd dL_law_893 ?_
  refine J_sldE (j := 6 * i + 2) dL_law_894 scr_at (nI_add (6 * i) 2) (by omega) hL ?_
  refine J_aload_n dL_law_895 rfl ?_
  refine J_iload_n dL_law_896 rfl ?_
  refine J_iconst (v := 3) dL_law_897 (by decide) ?_
  refine J_iadd dL_law_898 ?_
  refine J_sldE (j := 6 * i + 3) dL_law_899 scr_at (nI_add (6 * i) 3) (by omega) hL ?_
  refine M_callV3 (mc := mX11_work) dL_law_900 kL_111 oX11_work (Nat.le_of_ble_eq_true rfl) (Nat.le_of_ble_eq_true rfl) rfl (by decide) rfl ?_
  refine M_post (fun r M1 hq => ?_) (hp M hM)
  obtain ⟨v, rfl, hq⟩ := hq
  dsimp only [pushR]
  refine J_aload_n dL_law_903 rfl ?_
  refine J_aload_n dL_law_904 rfl ?_
  refine J_iload_n dL_law_905 rfl ?_
  refine J_iconst (v := 1) dL_law_906 (by decide) ?_
  refine J_iadd dL_law_907 ?_
  refine J_sldE (j := 6 * i + 1) dL_law_908 scr_at (nI_add (6 * i) 1) (by omega) hL ?_
  refine J_aload_n dL_law_909 rfl ?_
  refine J_iload_n dL_law_910 rfl ?_
  refine J_iconst (v := 2) dL_law_911 (by decide) ?_
  refine J_iadd dL_law_912 ?_
  refine J_sldE (j := 6 * i + 2) dL_law_913 scr_at (nI_add (6 * i) 2) (by omega) hL ?_
  refine J_aload_n dL_law_914 rfl ?_
  refine J_iload_n dL_law_915 rfl ?_
  refine J_iconst (v := 3) dL_law_916 (by decide) ?_
  refine J_iadd dL_law_917 ?_
  refine J_sldE (j := 6 * i + 3) dL_law_918 scr_at (nI_add (6 * i) 3) (by omega) hL ?_
  refine M_callV3 (mc := mX12_work) dL_law_919 kL_114 oX12_work (Nat.le_of_ble_eq_true rfl) (Nat.le_of_ble_eq_true rfl) rfl (by decide) rfl ?_
  refine M_post (fun r2 M2 hq2 => ?_) hq
  obtain ⟨rfl, hI⟩ := hq2
  dsimp only [pushR]
  exact J_icmp_eq (tgt := 1059) dL_law_922 (by decide) (fun _ => kl M2 hI) (fun c => absurd rfl c)
set_option maxRecDepth 100000 in
set_option maxHeartbeats 1000000 in
theorem law_c23 {INV : Mem → Prop} {L i : Nat} {xs : Nat → Int32} {M : Mem} {Ψ : Option Int32 → Mem → Prop} (hi : 6 * i + 6 ≤ L) (hL : L ≤ 3072) (hM : INV M) (hp : Pair INV mX11_due mX12_due [.int (xs (6 * i + 1)), .int (xs (6 * i + 2))]) (kl : ∀ M2, INV M2 → JM (scr L xs) 901 mL_law 1059 (lls i) [] M2 Ψ) : JM (scr L xs) 901 mL_law 927 (lls i) [] M Ψ := by
  refine J_aload_n dL_law_927 rfl ?_
  refine J_aload_n dL_law_928 rfl ?_
  refine J_iload_n dL_law_929 rfl ?_
  refine J_iconst (v := 1) dL_law_930 (by decide) ?_
  refine J_iadd dL_law_931 ?_
  refine J_sldE (j := 6 * i + 1) dL_law_932 scr_at (nI_add (6 * i) 1) (by omega) hL ?_
  refine J_aload_n dL_law_933 rfl ?_
  refine J_iload_n dL_law_934 rfl ?_
  refine J_iconst (v := 2) dL_law_935 (by decide) ?_
  refine J_iadd dL_law_936 ?_
  refine J_sldE (j := 6 * i + 2) dL_law_937 scr_at (nI_add (6 * i) 2) (by omega) hL ?_
  refine M_callV2 (mc := mX11_due) dL_law_938 kL_115 oX11_due (Nat.le_of_ble_eq_true rfl) (Nat.le_of_ble_eq_true rfl) rfl (by decide) rfl ?_
  refine M_post (fun r M1 hq => ?_) (hp M hM)
  obtain ⟨v, rfl, hq⟩ := hq
  dsimp only [pushR]
  refine J_aload_n dL_law_941 rfl ?_
  refine J_aload_n dL_law_942 rfl ?_
  refine J_iload_n dL_law_943 rfl ?_
  refine J_iconst (v := 1) dL_law_944 (by decide) ?_
  refine J_iadd dL_law_945 ?_
  refine J_sldE (j := 6 * i + 1) dL_law_946 scr_at (nI_add (6 * i) 1) (by omega) hL ?_
  refine J_aload_n dL_law_947 rfl ?_
  refine J_iload_n dL_law_948 rfl ?_
  refine J_iconst (v := 2) dL_law_949 (by decide) ?_
  refine J_iadd dL_law_950 ?_
  refine J_sldE (j := 6 * i + 2) dL_law_951 scr_at (nI_add (6 * i) 2) (by omega) hL ?_
  refine M_callV2 (mc := mX12_due) dL_law_952 kL_118 oX12_due (Nat.le_of_ble_eq_true rfl) (Nat.le_of_ble_eq_true rfl) rfl (by decide) rfl ?_
  refine M_post (fun r2 M2 hq2 => ?_) hq
  obtain ⟨rfl, hI⟩ := hq2
  dsimp only [pushR]
  exact J_icmp_eq (tgt := 1059) dL_law_955 (by decide) (fun _ => kl M2 hI) (fun c => absurd rfl c)
set_option maxRecDepth 100000 in
set_option maxHeartbeats 1000000 in
theorem law_c24 {INV : Mem → Prop} {L i : Nat} {xs : Nat → Int32} {M : Mem} {Ψ : Option Int32 → Mem → Prop} (hi : 6 * i + 6 ≤ L) (hL : L ≤ 3072) (hM : INV M) (hp : Pair INV mX11_bill mX12_bill [.int (xs (6 * i + 1)), .int (xs (6 * i + 2)), .int (xs (6 * i + 3)), .int (xs (6 * i + 4))]) (kl : ∀ M2, INV M2 → JM (scr L xs) 901 mL_law 1059 (lls i) [] M2 Ψ) : JM (scr L xs) 901 mL_law 960 (lls i) [] M Ψ := by
  refine J_aload_n dL_law_960 rfl ?_
  refine J_aload_n dL_law_961 rfl ?_
  refine J_iload_n dL_law_962 rfl ?_
  refine J_iconst (v := 1) dL_law_963 (by decide) ?_
  refine J_iadd dL_law_964 ?_
  refine J_sldE (j := 6 * i + 1) dL_law_965 scr_at (nI_add (6 * i) 1) (by omega) hL ?_
  refine J_aload_n dL_law_966 rfl ?_
  refine J_iload_n dL_law_967 rfl ?_
  refine J_iconst (v := 2) dL_law_968 (by decide) ?_
  refine J_iadd dL_law_969 ?_
  refine J_sldE (j := 6 * i + 2) dL_law_970 scr_at (nI_add (6 * i) 2) (by omega) hL ?_
  refine J_aload_n dL_law_971 rfl ?_
  refine J_iload_n dL_law_972 rfl ?_
  refine J_iconst (v := 3) dL_law_973 (by decide) ?_
  refine J_iadd dL_law_974 ?_
  refine J_sldE (j := 6 * i + 3) dL_law_975 scr_at (nI_add (6 * i) 3) (by omega) hL ?_
  refine J_aload_n dL_law_976 rfl ?_
  refine J_iload_n dL_law_977 rfl ?_
  refine J_iconst (v := 4) dL_law_978 (by decide) ?_
  refine J_iadd dL_law_979 ?_
  refine J_sldE (j := 6 * i + 4) dL_law_980 scr_at (nI_add (6 * i) 4) (by omega) hL ?_
  refine M_callV4 (mc := mX11_bill) dL_law_981 kL_119 oX11_bill (Nat.le_of_ble_eq_true rfl) (Nat.le_of_ble_eq_true rfl) rfl (by decide) rfl ?_
  refine M_post (fun r M1 hq => ?_) (hp M hM)
  obtain ⟨v, rfl, hq⟩ := hq
  dsimp only [pushR]
  refine J_aload_n dL_law_984 rfl ?_
  refine J_aload_n dL_law_985 rfl ?_
  refine J_iload_n dL_law_986 rfl ?_
  refine J_iconst (v := 1) dL_law_987 (by decide) ?_
  refine J_iadd dL_law_988 ?_
  refine J_sldE (j := 6 * i + 1) dL_law_989 scr_at (nI_add (6 * i) 1) (by omega) hL ?_
  refine J_aload_n dL_law_990 rfl ?_
  refine J_iload_n dL_law_991 rfl ?_
  refine J_iconst (v := 2) dL_law_992 (by decide) ?_
  refine J_iadd dL_law_993 ?_
  refine J_sldE (j := 6 * i + 2) dL_law_994 scr_at (nI_add (6 * i) 2) (by omega) hL ?_
  refine J_aload_n dL_law_995 rfl ?_
  refine J_iload_n dL_law_996 rfl ?_
  refine J_iconst (v := 3) dL_law_997 (by decide) ?_
  refine J_iadd dL_law_998 ?_
  refine J_sldE (j := 6 * i + 3) dL_law_999 scr_at (nI_add (6 * i) 3) (by omega) hL ?_
  refine J_aload_n dL_law_1000 rfl ?_
  refine J_iload_n dL_law_1001 rfl ?_
  refine J_iconst (v := 4) dL_law_1002 (by decide) ?_
  refine J_iadd dL_law_1003 ?_
  refine J_sldE (j := 6 * i + 4) dL_law_1004 scr_at (nI_add (6 * i) 4) (by omega) hL ?_
  refine M_callV4 (mc := mX12_bill) dL_law_1005 kL_123 oX12_bill (Nat.le_of_ble_eq_true rfl) (Nat.le_of_ble_eq_true rfl) rfl (by decide) rfl ?_
  refine M_post (fun r2 M2 hq2 => ?_) hq
  obtain ⟨rfl, hI⟩ := hq2
  dsimp only [pushR]
  exact J_icmp_eq (tgt := 1059) dL_law_1008 (by decide) (fun _ => kl M2 hI) (fun c => absurd rfl c)
set_option maxRecDepth 100000 in
set_option maxHeartbeats 1000000 in
theorem law_c25 {INV : Mem → Prop} {L i : Nat} {xs : Nat → Int32} {M : Mem} {Ψ : Option Int32 → Mem → Prop} (hi : 6 * i + 6 ≤ L) (hL : L ≤ 3072) (hM : INV M) (hp : Pair INV mX11_lacked mX12_lacked [.int (xs (6 * i + 1))]) (kl : ∀ M2, INV M2 → JM (scr L xs) 901 mL_law 1059 (lls i) [] M2 Ψ) : JM (scr L xs) 901 mL_law 1013 (lls i) [] M Ψ := by
  refine J_aload_n dL_law_1013 rfl ?_
  refine J_aload_n dL_law_1014 rfl ?_
  refine J_iload_n dL_law_1015 rfl ?_
  refine J_iconst (v := 1) dL_law_1016 (by decide) ?_
  refine J_iadd dL_law_1017 ?_
  refine J_sldE (j := 6 * i + 1) dL_law_1018 scr_at (nI_add (6 * i) 1) (by omega) hL ?_
  refine M_callV1 (mc := mX11_lacked) dL_law_1019 kL_124 oX11_lacked (Nat.le_of_ble_eq_true rfl) (Nat.le_of_ble_eq_true rfl) rfl (by decide) rfl ?_
  refine M_post (fun r M1 hq => ?_) (hp M hM)
  obtain ⟨v, rfl, hq⟩ := hq
  dsimp only [pushR]
  refine J_aload_n dL_law_1022 rfl ?_
  refine J_aload_n dL_law_1023 rfl ?_
  refine J_iload_n dL_law_1024 rfl ?_
  refine J_iconst (v := 1) dL_law_1025 (by decide) ?_
  refine J_iadd dL_law_1026 ?_
  refine J_sldE (j := 6 * i + 1) dL_law_1027 scr_at (nI_add (6 * i) 1) (by omega) hL ?_
  refine M_callV1 (mc := mX12_lacked) dL_law_1028 kL_127 oX12_lacked (Nat.le_of_ble_eq_true rfl) (Nat.le_of_ble_eq_true rfl) rfl (by decide) rfl ?_
  refine M_post (fun r2 M2 hq2 => ?_) hq
  obtain ⟨rfl, hI⟩ := hq2
  dsimp only [pushR]
  exact J_icmp_eq (tgt := 1059) dL_law_1031 (by decide) (fun _ => kl M2 hI) (fun c => absurd rfl c)
set_option maxRecDepth 100000 in
set_option maxHeartbeats 1000000 in
theorem law_c26 {INV : Mem → Prop} {L i : Nat} {xs : Nat → Int32} {M : Mem} {Ψ : Option Int32 → Mem → Prop} (hi : 6 * i + 6 ≤ L) (hL : L ≤ 3072) (hM : INV M) (hp : Pair INV mX11_about mX12_about [.int (xs (6 * i + 1))]) (kl : ∀ M2, INV M2 → JM (scr L xs) 901 mL_law 1059 (lls i) [] M2 Ψ) : JM (scr L xs) 901 mL_law 1036 (lls i) [] M Ψ := by
  refine J_aload_n dL_law_1036 rfl ?_
  refine J_aload_n dL_law_1037 rfl ?_
  refine J_iload_n dL_law_1038 rfl ?_
  refine J_iconst (v := 1) dL_law_1039 (by decide) ?_
  refine J_iadd dL_law_1040 ?_
  refine J_sldE (j := 6 * i + 1) dL_law_1041 scr_at (nI_add (6 * i) 1) (by omega) hL ?_
  refine M_callV1 (mc := mX11_about) dL_law_1042 kL_128 oX11_about (Nat.le_of_ble_eq_true rfl) (Nat.le_of_ble_eq_true rfl) rfl (by decide) rfl ?_
  refine M_post (fun r M1 hq => ?_) (hp M hM)
  obtain ⟨v, rfl, hq⟩ := hq
  dsimp only [pushR]
  refine J_aload_n dL_law_1045 rfl ?_
  refine J_aload_n dL_law_1046 rfl ?_
  refine J_iload_n dL_law_1047 rfl ?_
  refine J_iconst (v := 1) dL_law_1048 (by decide) ?_
  refine J_iadd dL_law_1049 ?_
  refine J_sldE (j := 6 * i + 1) dL_law_1050 scr_at (nI_add (6 * i) 1) (by omega) hL ?_
  refine M_callV1 (mc := mX12_about) dL_law_1051 kL_131 oX12_about (Nat.le_of_ble_eq_true rfl) (Nat.le_of_ble_eq_true rfl) rfl (by decide) rfl ?_
  refine M_post (fun r2 M2 hq2 => ?_) hq
  obtain ⟨rfl, hI⟩ := hq2
  dsimp only [pushR]
  exact J_icmp_eq (tgt := 1059) dL_law_1054 (by decide) (fun _ => kl M2 hI) (fun c => absurd rfl c)
set_option maxRecDepth 100000 in
set_option maxHeartbeats 1000000 in
theorem law_loop {INV : Mem → Prop} (p0 : ∀ x1 x2 : Int32, Pair INV mX11_horse mX12_horse [.int x1, .int x2]) (p1 : ∀ x1 : Int32, ∀ z : Int32, z = 0 ∨ z = 1 → Pair INV mX11_lame mX12_lame [.int x1, .int z]) (p2 : ∀ x1 x2 x3 : Int32, Pair INV mX11_field mX12_field [.int x1, .int x2, .int x3]) (p3 : ∀ x1 x2 : Int32, Pair INV mX11_shut mX12_shut [.int x1, .int x2]) (p4 : ∀ x1 x2 : Int32, ∀ z : Int32, z = 0 ∨ z = 1 → Pair INV mX11_gate mX12_gate [.int x1, .int x2, .int z]) (p5 : ∀ x1 x2 x3 x4 x5 : Int32, Pair INV mX11_feed mX12_feed [.int x1, .int x2, .int x3, .int x4, .int x5]) (p6 : ∀ x1 : Int32, Pair INV mX11_end mX12_end [.int x1]) (p7 : Pair INV mX11_rules mX12_rules []) (p8 : ∀ x1 : Int32, Pair INV mX11_fault mX12_fault [.int x1]) (p9 : ∀ x1 x2 x3 : Int32, Pair INV mX11_may mX12_may [.int x1, .int x2, .int x3]) (p10 : ∀ x1 x2 x3 x4 x5 : Int32, Pair INV mX11_meet mX12_meet [.int x1, .int x2, .int x3, .int x4, .int x5]) (p11 : Pair INV mX11_plan mX12_plan []) (p12 : Pair INV mX11_tries mX12_tries []) (p13 : ∀ x1 : Int32, Pair INV mX11_out mX12_out [.int x1]) (p14 : Pair INV mX11_stuck mX12_stuck []) (p15 : ∀ x1 x2 x3 : Int32, Pair INV mX11_lot mX12_lot [.int x1, .int x2, .int x3]) (p16 : ∀ x1 x2 x3 : Int32, Pair INV mX11_takes mX12_takes [.int x1, .int x2, .int x3]) (p17 : ∀ x1 x2 : Int32, Pair INV mX11_price mX12_price [.int x1, .int x2]) (p18 : ∀ x1 x2 : Int32, Pair INV mX11_falls mX12_falls [.int x1, .int x2]) (p19 : Pair INV mX11_night mX12_night []) (p20 : ∀ x1 x2 : Int32, Pair INV mX11_bin mX12_bin [.int x1, .int x2]) (p21 : ∀ x1 : Int32, Pair INV mX11_foretold mX12_foretold [.int x1]) (p22 : ∀ x1 x2 x3 : Int32, Pair INV mX11_work mX12_work [.int x1, .int x2, .int x3]) (p23 : ∀ x1 x2 : Int32, Pair INV mX11_due mX12_due [.int x1, .int x2]) (p24 : ∀ x1 x2 x3 x4 : Int32, Pair INV mX11_bill mX12_bill [.int x1, .int x2, .int x3, .int x4]) (p25 : ∀ x1 : Int32, Pair INV mX11_lacked mX12_lacked [.int x1]) (p26 : ∀ x1 : Int32, Pair INV mX11_about mX12_about [.int x1]) {L : Nat} {xs : Nat → Int32} (hL : L ≤ 3072) : ∀ (n i : Nat) (M : Mem), 6 * i ≤ L → L + 1 ≤ 6 * i + n → INV M → JM (scr L xs) 901 mL_law 18 (lls i) [] M (fun v _ => v = some 1) := by
  intro n
  induction n with
  | zero => intro i M h1 h2; exact absurd h2 (by omega)
  | succ n ih =>
    intro i M h1 h2 hM
    refine J_iload_n dL_law_18 rfl ?_
    refine J_aload_n dL_law_19 rfl ?_
    refine J_slen dL_law_20 scr_at ?_
    refine J_bipush (v := 6) dL_law_21 (by decide) ?_
    refine J_isub dL_law_23 ?_
    have hcmp : nI L - 6 < nI (6 * i) ↔ L < 6 * i + 6 := by
      rw [Int32.lt_iff_toInt_lt, show (nI L - 6).toInt = (L : Int) - 6 from pk_sub_toInt (a := L) (b := 6) (by omega) (by decide), nI_toInt (by omega)]
      omega
    refine J_icmp_gt (tgt := 1065) dL_law_24 (by decide) (fun c1 => ?_) (fun c1 => ?_)
    · refine J_iconst (v := 1) dL_law_1065 (by decide) ?_
      exact M_zret dL_law_1066 rfl (Or.inr rfl) rfl
    · have hi : 6 * i + 6 ≤ L := by
        rcases Nat.lt_or_ge L (6 * i + 6) with q | q
        · exact absurd (hcmp.mpr q) c1
        · exact q
      have kl : ∀ M2, INV M2 → JM (scr L xs) 901 mL_law 1059 (lls i) [] M2 (fun v _ => v = some 1) := fun M2 hI => by
        refine J_iinc (v := nI (6 * (i + 1))) dL_law_1059 rfl (nI_add (6 * i) 6) (by decide) rfl ?_
        exact J_goto (tgt := 18) dL_law_1062 (by decide) (ih (i + 1) M2 (by omega) (by omega) hI)
      refine J_aload_n dL_law_27 rfl ?_
      refine J_iload_n dL_law_28 rfl ?_
      refine J_sldE (j := 6 * i) dL_law_29 scr_at rfl (by omega) hL ?_
      refine J_bipush (v := 31) dL_law_30 (by decide) ?_
      refine J_iand dL_law_32 ?_
      obtain ⟨w, hw, ew⟩ := pk_andE (xs (6 * i)) (m := 31) 5 (by decide)
      rw [ew]
      match w, hw with
      | 0, _ =>
        refine J_tabIn (off := 123) (tgt := 156) dL_law_33 (by decide) (by decide) rfl (by decide) ?_
        exact law_c0 hi hL hM (p0 _ _) kl
      | 1, _ =>
        refine J_tabIn (off := 156) (tgt := 189) dL_law_33 (by decide) (by decide) rfl (by decide) ?_
        exact law_c1 hi hL hM (p1 _) kl
      | 2, _ =>
        refine J_tabIn (off := 205) (tgt := 238) dL_law_33 (by decide) (by decide) rfl (by decide) ?_
        exact law_c2 hi hL hM (p2 _ _ _) kl
      | 3, _ =>
        refine J_tabIn (off := 248) (tgt := 281) dL_law_33 (by decide) (by decide) rfl (by decide) ?_
        exact law_c3 hi hL hM (p3 _ _) kl
      | 4, _ =>
        refine J_tabIn (off := 281) (tgt := 314) dL_law_33 (by decide) (by decide) rfl (by decide) ?_
        exact law_c4 hi hL hM (p4 _ _) kl
      | 5, _ =>
        refine J_tabIn (off := 340) (tgt := 373) dL_law_33 (by decide) (by decide) rfl (by decide) ?_
        exact law_c5 hi hL hM (p5 _ _ _ _ _) kl
      | 6, _ =>
        refine J_tabIn (off := 403) (tgt := 436) dL_law_33 (by decide) (by decide) rfl (by decide) ?_
        exact law_c6 hi hL hM (p6 _) kl
      | 7, _ =>
        refine J_tabIn (off := 426) (tgt := 459) dL_law_33 (by decide) (by decide) rfl (by decide) ?_
        exact law_c7 hi hL hM (p7 ) kl
      | 8, _ =>
        refine J_tabIn (off := 439) (tgt := 472) dL_law_33 (by decide) (by decide) rfl (by decide) ?_
        exact law_c8 hi hL hM (p8 _) kl
      | 9, _ =>
        refine J_tabIn (off := 462) (tgt := 495) dL_law_33 (by decide) (by decide) rfl (by decide) ?_
        exact law_c9 hi hL hM (p9 _ _ _) kl
      | 10, _ =>
        refine J_tabIn (off := 505) (tgt := 538) dL_law_33 (by decide) (by decide) rfl (by decide) ?_
        exact law_c10 hi hL hM (p10 _ _ _ _ _) kl
      | 11, _ =>
        refine J_tabIn (off := 568) (tgt := 601) dL_law_33 (by decide) (by decide) rfl (by decide) ?_
        exact law_c11 hi hL hM (p11 ) kl
      | 12, _ =>
        refine J_tabIn (off := 581) (tgt := 614) dL_law_33 (by decide) (by decide) rfl (by decide) ?_
        exact law_c12 hi hL hM (p12 ) kl
      | 13, _ =>
        refine J_tabIn (off := 594) (tgt := 627) dL_law_33 (by decide) (by decide) rfl (by decide) ?_
        exact law_c13 hi hL hM (p13 _) kl
      | 14, _ =>
        refine J_tabIn (off := 617) (tgt := 650) dL_law_33 (by decide) (by decide) rfl (by decide) ?_
        exact law_c14 hi hL hM (p14 ) kl
      | 15, _ =>
        refine J_tabIn (off := 630) (tgt := 663) dL_law_33 (by decide) (by decide) rfl (by decide) ?_
        exact law_c15 hi hL hM (p15 _ _ _) kl
      | 16, _ =>
        refine J_tabIn (off := 673) (tgt := 706) dL_law_33 (by decide) (by decide) rfl (by decide) ?_
        exact law_c16 hi hL hM (p16 _ _ _) kl
      | 17, _ =>
        refine J_tabIn (off := 716) (tgt := 749) dL_law_33 (by decide) (by decide) rfl (by decide) ?_
        exact law_c17 hi hL hM (p17 _ _) kl
      | 18, _ =>
        refine J_tabIn (off := 749) (tgt := 782) dL_law_33 (by decide) (by decide) rfl (by decide) ?_
        exact law_c18 hi hL hM (p18 _ _) kl
      | 19, _ =>
        refine J_tabIn (off := 782) (tgt := 815) dL_law_33 (by decide) (by decide) rfl (by decide) ?_
        exact law_c19 hi hL hM (p19 ) kl
      | 20, _ =>
        refine J_tabIn (off := 795) (tgt := 828) dL_law_33 (by decide) (by decide) rfl (by decide) ?_
        exact law_c20 hi hL hM (p20 _ _) kl
      | 21, _ =>
        refine J_tabIn (off := 828) (tgt := 861) dL_law_33 (by decide) (by decide) rfl (by decide) ?_
        exact law_c21 hi hL hM (p21 _) kl
      | 22, _ =>
        refine J_tabIn (off := 851) (tgt := 884) dL_law_33 (by decide) (by decide) rfl (by decide) ?_
        exact law_c22 hi hL hM (p22 _ _ _) kl
      | 23, _ =>
        refine J_tabIn (off := 894) (tgt := 927) dL_law_33 (by decide) (by decide) rfl (by decide) ?_
        exact law_c23 hi hL hM (p23 _ _) kl
      | 24, _ =>
        refine J_tabIn (off := 927) (tgt := 960) dL_law_33 (by decide) (by decide) rfl (by decide) ?_
        exact law_c24 hi hL hM (p24 _ _ _ _) kl
      | 25, _ =>
        refine J_tabIn (off := 980) (tgt := 1013) dL_law_33 (by decide) (by decide) rfl (by decide) ?_
        exact law_c25 hi hL hM (p25 _) kl
      | 26, _ =>
        refine J_tabIn (off := 1003) (tgt := 1036) dL_law_33 (by decide) (by decide) rfl (by decide) ?_
        exact law_c26 hi hL hM (p26 _) kl
      | w + 27, hw =>
        refine J_tabOut (tgt := 1059) dL_law_33 (Or.inr (by rw [nI_toInt (by omega)]; omega)) (by decide) ?_
        exact kl M hM
set_option maxRecDepth 100000 in
set_option maxHeartbeats 1000000 in
theorem law_pure {INV : Mem → Prop} (h0 : INV M0) (p0 : ∀ x1 x2 : Int32, Pair INV mX11_horse mX12_horse [.int x1, .int x2]) (p1 : ∀ x1 : Int32, ∀ z : Int32, z = 0 ∨ z = 1 → Pair INV mX11_lame mX12_lame [.int x1, .int z]) (p2 : ∀ x1 x2 x3 : Int32, Pair INV mX11_field mX12_field [.int x1, .int x2, .int x3]) (p3 : ∀ x1 x2 : Int32, Pair INV mX11_shut mX12_shut [.int x1, .int x2]) (p4 : ∀ x1 x2 : Int32, ∀ z : Int32, z = 0 ∨ z = 1 → Pair INV mX11_gate mX12_gate [.int x1, .int x2, .int z]) (p5 : ∀ x1 x2 x3 x4 x5 : Int32, Pair INV mX11_feed mX12_feed [.int x1, .int x2, .int x3, .int x4, .int x5]) (p6 : ∀ x1 : Int32, Pair INV mX11_end mX12_end [.int x1]) (p7 : Pair INV mX11_rules mX12_rules []) (p8 : ∀ x1 : Int32, Pair INV mX11_fault mX12_fault [.int x1]) (p9 : ∀ x1 x2 x3 : Int32, Pair INV mX11_may mX12_may [.int x1, .int x2, .int x3]) (p10 : ∀ x1 x2 x3 x4 x5 : Int32, Pair INV mX11_meet mX12_meet [.int x1, .int x2, .int x3, .int x4, .int x5]) (p11 : Pair INV mX11_plan mX12_plan []) (p12 : Pair INV mX11_tries mX12_tries []) (p13 : ∀ x1 : Int32, Pair INV mX11_out mX12_out [.int x1]) (p14 : Pair INV mX11_stuck mX12_stuck []) (p15 : ∀ x1 x2 x3 : Int32, Pair INV mX11_lot mX12_lot [.int x1, .int x2, .int x3]) (p16 : ∀ x1 x2 x3 : Int32, Pair INV mX11_takes mX12_takes [.int x1, .int x2, .int x3]) (p17 : ∀ x1 x2 : Int32, Pair INV mX11_price mX12_price [.int x1, .int x2]) (p18 : ∀ x1 x2 : Int32, Pair INV mX11_falls mX12_falls [.int x1, .int x2]) (p19 : Pair INV mX11_night mX12_night []) (p20 : ∀ x1 x2 : Int32, Pair INV mX11_bin mX12_bin [.int x1, .int x2]) (p21 : ∀ x1 : Int32, Pair INV mX11_foretold mX12_foretold [.int x1]) (p22 : ∀ x1 x2 x3 : Int32, Pair INV mX11_work mX12_work [.int x1, .int x2, .int x3]) (p23 : ∀ x1 x2 : Int32, Pair INV mX11_due mX12_due [.int x1, .int x2]) (p24 : ∀ x1 x2 x3 x4 : Int32, Pair INV mX11_bill mX12_bill [.int x1, .int x2, .int x3, .int x4]) (p25 : ∀ x1 : Int32, Pair INV mX11_lacked mX12_lacked [.int x1]) (p26 : ∀ x1 : Int32, Pair INV mX11_about mX12_about [.int x1]) (L : Nat) (xs : Nat → Int32) (hL : L ≤ 3072) : J (scr L xs) 1000 600000 7302249 mL_law 0 [some (.ref jBig)] [] (0, HS M0) (fun v _ => v = some 1) := by
  refine J_new (bc := 599999) (bs := 7302236) (N := 13) dL_law_0 nL_7 (by show 0 < jBig; decide) ?_
  refine J_dup dL_law_3 rfl ?_
  refine J_callI (k := 0) (As := []) (rest := [.ref 0]) (mc := mX11_init) (n := 0) (bc := 61) (bs := 12505) (bc2 := 599938) (bs2 := 7289731) dL_law_4 kL_9 oX11_init rfl (Nat.le_of_ble_eq_true rfl) (Nat.le_of_ble_eq_true rfl) ?_
  refine iYard (d := 997) (G := HS M0) (fun _ _ _ => rfl) ?_
  show J (scr L xs) 1000 599938 7289731 mL_law 7 [some (.ref jBig)] [.ref 0] (62, HS M0) _
  refine J_astore_n dL_law_7 (by decide) rfl ?_
  dsimp only [setL]
  refine J_new (bc := 599937) (bs := 7289671) (N := 60) dL_law_8 nL_10 (by show 62 < jBig; decide) ?_
  refine J_dup dL_law_11 rfl ?_
  refine J_callI (k := 62) (As := []) (rest := [.ref 62]) (mc := mX12_init) (n := 0) (bc := 39) (bs := 11649) (bc2 := 599898) (bs2 := 7278022) dL_law_12 kL_12 oX12_init rfl (Nat.le_of_ble_eq_true rfl) (Nat.le_of_ble_eq_true rfl) ?_
  refine iModel (d := 998) (G := HS M0) (fun _ _ _ => rfl) ?_
  show J (scr L xs) 1000 599898 7278022 mL_law 15 [some (.ref jBig), some (.ref 0)] [.ref 62] (102, HS M0) _
  refine J_astore_n dL_law_15 (by decide) rfl ?_
  dsimp only [setL]
  refine J_iconst (v := 0) dL_law_16 (by decide) ?_
  refine J_istore_n dL_law_17 (by decide) rfl ?_
  dsimp only [setL]
  refine J_more (d := 901) (bc := 0) (bs := 0) (Nat.le_of_ble_eq_true rfl) (Nat.zero_le _) (Nat.zero_le _) ?_
  exact J_post (fun v g ⟨M2, h1, h2⟩ => h2) (law_loop p0 p1 p2 p3 p4 p5 p6 p7 p8 p9 p10 p11 p12 p13 p14 p15 p16 p17 p18 p19 p20 p21 p22 p23 p24 p25 p26 hL (L + 1) 0 M0 (by omega) (by omega) h0)

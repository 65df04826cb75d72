def M0 : Mem := (fun a => if a = 25 then upd (fun _ => 0) 5 (-1) else if a = 62 then upd (fun _ => 0) 28 (-1) else fun _ => 0, fun _ => 0)
theorem cz {G : Nat → va_E} {n : Nat} {x : va_E} (e : G n = x) : va_up G n x = G := by
  funext a
  by_cases h : a = n
  · subst h; simp [va_up, e]
  · simp [va_up, h]
section JZ
variable {Ro : ROs} {d bc bs : Nat} {md : MD} {pc k n : Nat} {ls : List (Option Value)} {st : List Value} {G : Nat → va_E} {Φ : Option Int32 → PH → Prop}
theorem Z_newI {x : Int32} {N : Nat} {o : va_E} (hd : decode md.2.1 pc = .ok (.newarray .int, 2)) (hn : ¬ x < 0) (hN : x.toNatClampNeg = N) (hN2 : N ≤ 100000) (hb : n < jBig) (hne : n ≠ k) (hz : G n = .inl (0, N, .inl (fun _ => 0))) (kk : J Ro d bc bs md (pc + 2) ls (.ref n :: st) (n + 1, va_up G k o) Φ) : J Ro d (bc + 1) (bs + N) md pc ls (.int x :: st) (n, va_up G k o) Φ := by
  refine J_newI hd arr_int hn hN hN2 hb ?_
  have e : va_up (va_up G k o) n (.inl (0, N, .inl (fun _ => 0))) = va_up G k o := cz (by simp [va_up, hne, hz])
  show J Ro d bc bs md (pc + 2) ls (.ref n :: st) (n + 1, va_up (va_up G k o) n (.inl (0, N, .inl (fun _ => 0)))) Φ
  rw [e]
  exact kk
theorem Z_newZ {x : Int32} {N : Nat} {o : va_E} (hd : decode md.2.1 pc = .ok (.newarray .boolean, 2)) (hn : ¬ x < 0) (hN : x.toNatClampNeg = N) (hN2 : N ≤ 100000) (hb : n < jBig) (hne : n ≠ k) (hz : G n = .inl (1, N, .inl (fun _ => 0))) (kk : J Ro d bc bs md (pc + 2) ls (.ref n :: st) (n + 1, va_up G k o) Φ) : J Ro d (bc + 1) (bs + N) md pc ls (.int x :: st) (n, va_up G k o) Φ := by
  refine J_newZ hd arr_boolean hn hN hN2 hb ?_
  have e : va_up (va_up G k o) n (.inl (1, N, .inl (fun _ => 0))) = va_up G k o := cz (by simp [va_up, hne, hz])
  show J Ro d bc bs md (pc + 2) ls (.ref n :: st) (n + 1, va_up (va_up G k o) n (.inl (1, N, .inl (fun _ => 0)))) Φ
  rw [e]
  exact kk
theorem Z_putF {idx ci j pc2 : Nat} {ty : FieldType} {fs fs2 : List Value} {v : Value} (hd : decode md.2.1 pc = .ok (.putfield idx, 3)) (hf : PFOK md.1.cls idx ci j ty) (hi : md.1.name = "<init>") (hk : k < n) (hj : j < fs.length) (hn : ∀ ad, narrow ty (cv ad v) = cv ad v) (hfit : ∀ ad, fits ty (cv ad v) = true) (hfs : fs.set j v = fs2) (hp : pc + 3 = pc2) (kk : J Ro d bc bs md pc2 ls st (n, va_up G k (.inr (ci, fs2))) Φ) : J Ro d bc bs md pc ls (v :: .ref k :: st) (n, va_up G k (.inr (ci, fs))) Φ := by
  subst hfs; subst hp
  refine J_putF hd hf hi hk (fs := fs) (by simp [va_up]) hj hn hfit ?_
  show J Ro d bc bs md (pc + 3) ls st (n, va_up (va_up G k (.inr (ci, fs))) k (.inr (ci, fs.set j v))) Φ
  rw [bx_uu]
  exact kk
theorem Z_put {idx ci j pc2 : Nat} {ty : FieldType} {fs fs2 : List Value} {v : Value} (hd : decode md.2.1 pc = .ok (.putfield idx, 3)) (hf : POK md.1.cls idx ci j ty) (hk : k < n) (hj : j < fs.length) (hn : ∀ ad, narrow ty (cv ad v) = cv ad v) (hfit : ∀ ad, fits ty (cv ad v) = true) (hfs : fs.set j v = fs2) (hp : pc + 3 = pc2) (kk : J Ro d bc bs md pc2 ls st (n, va_up G k (.inr (ci, fs2))) Φ) : J Ro d bc bs md pc ls (v :: .ref k :: st) (n, va_up G k (.inr (ci, fs))) Φ := by
  subst hfs; subst hp
  refine J_put hd hf hk (fs := fs) (by simp [va_up]) hj hn hfit ?_
  show J Ro d bc bs md (pc + 3) ls st (n, va_up (va_up G k (.inr (ci, fs))) k (.inr (ci, fs.set j v))) Φ
  rw [bx_uu]
  exact kk
theorem Z_ret {o : va_E} (hd : decode md.2.1 pc = .ok (.return_, 1)) (hr : md.2.2.2 = none) (hz : G k = o) (h : Φ none (n, G)) : J Ro d bc bs md pc ls [] (n, va_up G k o) Φ := by
  rw [cz hz]
  exact J_vret hd hr h
end JZ
set_option maxRecDepth 100000 in
set_option maxHeartbeats 4000000 in
theorem iHerd {d : Nat} {G : Nat → va_E} {Φ : Option Int32 → PH → Prop} (hG : ∀ a, 1 ≤ a → a < 8 → G a = HS M0 a) (h : Φ none (8, G)) : J noRo (d + 1) 6 108 mX1_init 0 [some (.ref 1)] [] (2, va_up G 1 (.inr (1, [.null, .null, .null, .null, .null, .null, .int 0]))) Φ := by
  refine J_aload_n dX1_init_0 rfl ?_
  refine J_obj dX1_init_1 kX1_3 obj1 obj2 (Nat.le_of_ble_eq_true rfl) ?_
  refine J_aload_n dX1_init_4 rfl ?_
  refine J_bipush (v := 12) dX1_init_5 (by decide) ?_
  refine Z_newI (N := 12) dX1_init_7 (by decide) (by decide) (by decide) (by decide) (by decide) (hG 2 (by decide) (by decide)) ?_
  refine Z_putF dX1_init_9 qX1_9 rfl (by decide) (Nat.le_of_ble_eq_true rfl) (fun _ => rfl) (fun _ => rfl) (fs2 := [.ref 2, .null, .null, .null, .null, .null, .int 0]) rfl (pc2 := 12) rfl ?_
  refine J_aload_n dX1_init_12 rfl ?_
  refine J_bipush (v := 12) dX1_init_13 (by decide) ?_
  refine Z_newI (N := 12) dX1_init_15 (by decide) (by decide) (by decide) (by decide) (by decide) (hG 3 (by decide) (by decide)) ?_
  refine Z_putF dX1_init_17 qX1_15 rfl (by decide) (Nat.le_of_ble_eq_true rfl) (fun _ => rfl) (fun _ => rfl) (fs2 := [.ref 2, .ref 3, .null, .null, .null, .null, .int 0]) rfl (pc2 := 20) rfl ?_
  refine J_aload_n dX1_init_20 rfl ?_
  refine J_bipush (v := 12) dX1_init_21 (by decide) ?_
  refine Z_newI (N := 12) dX1_init_23 (by decide) (by decide) (by decide) (by decide) (by decide) (hG 4 (by decide) (by decide)) ?_
  refine Z_putF dX1_init_25 qX1_18 rfl (by decide) (Nat.le_of_ble_eq_true rfl) (fun _ => rfl) (fun _ => rfl) (fs2 := [.ref 2, .ref 3, .ref 4, .null, .null, .null, .int 0]) rfl (pc2 := 28) rfl ?_
  refine J_aload_n dX1_init_28 rfl ?_
  refine J_bipush (v := 12) dX1_init_29 (by decide) ?_
  refine Z_newZ (N := 12) dX1_init_31 (by decide) (by decide) (by decide) (by decide) (by decide) (hG 5 (by decide) (by decide)) ?_
  refine Z_putF dX1_init_33 qX1_21 rfl (by decide) (Nat.le_of_ble_eq_true rfl) (fun _ => rfl) (fun _ => rfl) (fs2 := [.ref 2, .ref 3, .ref 4, .ref 5, .null, .null, .int 0]) rfl (pc2 := 36) rfl ?_
  refine J_aload_n dX1_init_36 rfl ?_
  refine J_bipush (v := 48) dX1_init_37 (by decide) ?_
  refine Z_newI (N := 48) dX1_init_39 (by decide) (by decide) (by decide) (by decide) (by decide) (hG 6 (by decide) (by decide)) ?_
  refine Z_putF dX1_init_41 qX1_25 rfl (by decide) (Nat.le_of_ble_eq_true rfl) (fun _ => rfl) (fun _ => rfl) (fs2 := [.ref 2, .ref 3, .ref 4, .ref 5, .ref 6, .null, .int 0]) rfl (pc2 := 44) rfl ?_
  refine J_aload_n dX1_init_44 rfl ?_
  refine J_bipush (v := 12) dX1_init_45 (by decide) ?_
  refine Z_newI (N := 12) dX1_init_47 (by decide) (by decide) (by decide) (by decide) (by decide) (hG 7 (by decide) (by decide)) ?_
  refine Z_putF dX1_init_49 qX1_28 rfl (by decide) (Nat.le_of_ble_eq_true rfl) (fun _ => rfl) (fun _ => rfl) (fs2 := [.ref 2, .ref 3, .ref 4, .ref 5, .ref 6, .ref 7, .int 0]) rfl (pc2 := 52) rfl ?_
  exact Z_ret dX1_init_52 rfl (hG 1 (by decide) (by decide)) h
set_option maxRecDepth 100000 in
set_option maxHeartbeats 4000000 in
theorem iLand {d : Nat} {G : Nat → va_E} {Φ : Option Int32 → PH → Prop} (hG : ∀ a, 8 ≤ a → a < 13 → G a = HS M0 a) (h : Φ none (13, G)) : J noRo (d + 1) 4 54 mX3_init 0 [some (.ref 8)] [] (9, va_up G 8 (.inr (3, [.null, .null, .null, .null]))) Φ := by
  refine J_aload_n dX3_init_0 rfl ?_
  refine J_obj dX3_init_1 kX3_3 obj1 obj2 (Nat.le_of_ble_eq_true rfl) ?_
  refine J_aload_n dX3_init_4 rfl ?_
  refine J_bipush (v := 6) dX3_init_5 (by decide) ?_
  refine Z_newI (N := 6) dX3_init_7 (by decide) (by decide) (by decide) (by decide) (by decide) (hG 9 (by decide) (by decide)) ?_
  refine Z_putF dX3_init_9 qX3_9 rfl (by decide) (Nat.le_of_ble_eq_true rfl) (fun _ => rfl) (fun _ => rfl) (fs2 := [.ref 9, .null, .null, .null]) rfl (pc2 := 12) rfl ?_
  refine J_aload_n dX3_init_12 rfl ?_
  refine J_bipush (v := 6) dX3_init_13 (by decide) ?_
  refine Z_newI (N := 6) dX3_init_15 (by decide) (by decide) (by decide) (by decide) (by decide) (hG 10 (by decide) (by decide)) ?_
  refine Z_putF dX3_init_17 qX3_15 rfl (by decide) (Nat.le_of_ble_eq_true rfl) (fun _ => rfl) (fun _ => rfl) (fs2 := [.ref 9, .ref 10, .null, .null]) rfl (pc2 := 20) rfl ?_
  refine J_aload_n dX3_init_20 rfl ?_
  refine J_bipush (v := 6) dX3_init_21 (by decide) ?_
  refine Z_newI (N := 6) dX3_init_23 (by decide) (by decide) (by decide) (by decide) (by decide) (hG 11 (by decide) (by decide)) ?_
  refine Z_putF dX3_init_25 qX3_18 rfl (by decide) (Nat.le_of_ble_eq_true rfl) (fun _ => rfl) (fun _ => rfl) (fs2 := [.ref 9, .ref 10, .ref 11, .null]) rfl (pc2 := 28) rfl ?_
  refine J_aload_n dX3_init_28 rfl ?_
  refine J_bipush (v := 36) dX3_init_29 (by decide) ?_
  refine Z_newZ (N := 36) dX3_init_31 (by decide) (by decide) (by decide) (by decide) (by decide) (hG 12 (by decide) (by decide)) ?_
  refine Z_putF dX3_init_33 qX3_21 rfl (by decide) (Nat.le_of_ble_eq_true rfl) (fun _ => rfl) (fun _ => rfl) (fs2 := [.ref 9, .ref 10, .ref 11, .ref 12]) rfl (pc2 := 36) rfl ?_
  exact Z_ret dX3_init_36 rfl (hG 8 (by decide) (by decide)) h
set_option maxRecDepth 100000 in
set_option maxHeartbeats 4000000 in
theorem iTape {d : Nat} {G : Nat → va_E} {Φ : Option Int32 → PH → Prop} (hG : ∀ a, 13 ≤ a → a < 15 → G a = HS M0 a) (h : Φ none (15, G)) : J noRo (d + 1) 1 1000 mX8_init 0 [some (.ref 13)] [] (14, va_up G 13 (.inr (8, [.null, .int 0]))) Φ := by
  refine J_aload_n dX8_init_0 rfl ?_
  refine J_obj dX8_init_1 kX8_3 obj1 obj2 (Nat.le_of_ble_eq_true rfl) ?_
  refine J_aload_n dX8_init_4 rfl ?_
  refine J_sipush (v := 1000) dX8_init_5 (by decide) ?_
  refine Z_newI (N := 1000) dX8_init_8 (by decide) (by decide) (by decide) (by decide) (by decide) (hG 14 (by decide) (by decide)) ?_
  refine Z_putF dX8_init_10 qX8_9 rfl (by decide) (Nat.le_of_ble_eq_true rfl) (fun _ => rfl) (fun _ => rfl) (fs2 := [.ref 14, .int 0]) rfl (pc2 := 13) rfl ?_
  exact Z_ret dX8_init_13 rfl (hG 13 (by decide) (by decide)) h
set_option maxRecDepth 100000 in
set_option maxHeartbeats 4000000 in
theorem iDraft {d : Nat} {G : Nat → va_E} {Φ : Option Int32 → PH → Prop} (hG : ∀ a, 15 ≤ a → a < 20 → G a = HS M0 a) (h : Φ none (20, G)) : J noRo (d + 1) 4 1065 mX7_init 0 [some (.ref 15)] [] (16, va_up G 15 (.inr (7, [.null, .null, .null, .null, .int 0, .int 0]))) Φ := by
  refine J_aload_n dX7_init_0 rfl ?_
  refine J_obj dX7_init_1 kX7_3 obj1 obj2 (Nat.le_of_ble_eq_true rfl) ?_
  refine J_aload_n dX7_init_4 rfl ?_
  refine J_sipush (v := 1000) dX7_init_5 (by decide) ?_
  refine Z_newI (N := 1000) dX7_init_8 (by decide) (by decide) (by decide) (by decide) (by decide) (hG 16 (by decide) (by decide)) ?_
  refine Z_putF dX7_init_10 qX7_9 rfl (by decide) (Nat.le_of_ble_eq_true rfl) (fun _ => rfl) (fun _ => rfl) (fs2 := [.ref 16, .null, .null, .null, .int 0, .int 0]) rfl (pc2 := 13) rfl ?_
  refine J_aload_n dX7_init_13 rfl ?_
  refine J_bipush (v := 13) dX7_init_14 (by decide) ?_
  refine Z_newI (N := 13) dX7_init_16 (by decide) (by decide) (by decide) (by decide) (by decide) (hG 17 (by decide) (by decide)) ?_
  refine Z_putF dX7_init_18 qX7_15 rfl (by decide) (Nat.le_of_ble_eq_true rfl) (fun _ => rfl) (fun _ => rfl) (fs2 := [.ref 16, .ref 17, .null, .null, .int 0, .int 0]) rfl (pc2 := 21) rfl ?_
  refine J_aload_n dX7_init_21 rfl ?_
  refine J_bipush (v := 12) dX7_init_22 (by decide) ?_
  refine Z_newZ (N := 12) dX7_init_24 (by decide) (by decide) (by decide) (by decide) (by decide) (hG 18 (by decide) (by decide)) ?_
  refine Z_putF dX7_init_26 qX7_18 rfl (by decide) (Nat.le_of_ble_eq_true rfl) (fun _ => rfl) (fun _ => rfl) (fs2 := [.ref 16, .ref 17, .ref 18, .null, .int 0, .int 0]) rfl (pc2 := 29) rfl ?_
  refine J_aload_n dX7_init_29 rfl ?_
  refine J_bipush (v := 40) dX7_init_30 (by decide) ?_
  refine Z_newI (N := 40) dX7_init_32 (by decide) (by decide) (by decide) (by decide) (by decide) (hG 19 (by decide) (by decide)) ?_
  refine Z_putF dX7_init_34 qX7_22 rfl (by decide) (Nat.le_of_ble_eq_true rfl) (fun _ => rfl) (fun _ => rfl) (fs2 := [.ref 16, .ref 17, .ref 18, .ref 19, .int 0, .int 0]) rfl (pc2 := 37) rfl ?_
  exact Z_ret dX7_init_37 rfl (hG 15 (by decide) (by decide)) h
set_option maxRecDepth 100000 in
set_option maxHeartbeats 4000000 in
theorem iForce {d : Nat} {G : Nat → va_E} {Φ : Option Int32 → PH → Prop} (hG : ∀ a, 20 ≤ a → a < 25 → G a = HS M0 a) (h : Φ none (25, G)) : J noRo (d + 1) 4 1065 mX7_init 0 [some (.ref 20)] [] (21, va_up G 20 (.inr (7, [.null, .null, .null, .null, .int 0, .int 0]))) Φ := by
  refine J_aload_n dX7_init_0 rfl ?_
  refine J_obj dX7_init_1 kX7_3 obj1 obj2 (Nat.le_of_ble_eq_true rfl) ?_
  refine J_aload_n dX7_init_4 rfl ?_
  refine J_sipush (v := 1000) dX7_init_5 (by decide) ?_
  refine Z_newI (N := 1000) dX7_init_8 (by decide) (by decide) (by decide) (by decide) (by decide) (hG 21 (by decide) (by decide)) ?_
  refine Z_putF dX7_init_10 qX7_9 rfl (by decide) (Nat.le_of_ble_eq_true rfl) (fun _ => rfl) (fun _ => rfl) (fs2 := [.ref 21, .null, .null, .null, .int 0, .int 0]) rfl (pc2 := 13) rfl ?_
  refine J_aload_n dX7_init_13 rfl ?_
  refine J_bipush (v := 13) dX7_init_14 (by decide) ?_
  refine Z_newI (N := 13) dX7_init_16 (by decide) (by decide) (by decide) (by decide) (by decide) (hG 22 (by decide) (by decide)) ?_
  refine Z_putF dX7_init_18 qX7_15 rfl (by decide) (Nat.le_of_ble_eq_true rfl) (fun _ => rfl) (fun _ => rfl) (fs2 := [.ref 21, .ref 22, .null, .null, .int 0, .int 0]) rfl (pc2 := 21) rfl ?_
  refine J_aload_n dX7_init_21 rfl ?_
  refine J_bipush (v := 12) dX7_init_22 (by decide) ?_
  refine Z_newZ (N := 12) dX7_init_24 (by decide) (by decide) (by decide) (by decide) (by decide) (hG 23 (by decide) (by decide)) ?_
  refine Z_putF dX7_init_26 qX7_18 rfl (by decide) (Nat.le_of_ble_eq_true rfl) (fun _ => rfl) (fun _ => rfl) (fs2 := [.ref 21, .ref 22, .ref 23, .null, .int 0, .int 0]) rfl (pc2 := 29) rfl ?_
  refine J_aload_n dX7_init_29 rfl ?_
  refine J_bipush (v := 40) dX7_init_30 (by decide) ?_
  refine Z_newI (N := 40) dX7_init_32 (by decide) (by decide) (by decide) (by decide) (by decide) (hG 24 (by decide) (by decide)) ?_
  refine Z_putF dX7_init_34 qX7_22 rfl (by decide) (Nat.le_of_ble_eq_true rfl) (fun _ => rfl) (fun _ => rfl) (fs2 := [.ref 21, .ref 22, .ref 23, .ref 24, .int 0, .int 0]) rfl (pc2 := 37) rfl ?_
  exact Z_ret dX7_init_37 rfl (hG 20 (by decide) (by decide)) h
set_option maxRecDepth 100000 in
set_option maxHeartbeats 4000000 in
theorem iTokens {d : Nat} {G : Nat → va_E} {Φ : Option Int32 → PH → Prop} (hG : ∀ a, 26 ≤ a → a < 27 → G a = HS M0 a) (h : Φ none (27, G)) : J noRo (d + 1) 0 0 mX9_init 0 [some (.ref 26), some (.ref 13)] [] (27, va_up G 26 (.inr (9, [.null, .int 0, .int 0, .int 0, .int 0]))) Φ := by
  refine J_aload_n dX9_init_0 rfl ?_
  refine J_obj dX9_init_1 kX9_3 obj1 obj2 (Nat.le_of_ble_eq_true rfl) ?_
  refine J_aload_n dX9_init_4 rfl ?_
  refine J_aload_n dX9_init_5 rfl ?_
  refine Z_putF dX9_init_6 qX9_9 rfl (by decide) (Nat.le_of_ble_eq_true rfl) (fun _ => rfl) (fun _ => rfl) (fs2 := [.ref 13, .int 0, .int 0, .int 0, .int 0]) rfl (pc2 := 9) rfl ?_
  exact Z_ret dX9_init_9 rfl (hG 26 (by decide) (by decide)) h
set_option maxRecDepth 100000 in
set_option maxHeartbeats 4000000 in
theorem iParser {d : Nat} {G : Nat → va_E} {Φ : Option Int32 → PH → Prop} (hG : ∀ a, 25 ≤ a → a < 27 → G a = HS M0 a) (h : Φ none (27, G)) : J noRo (d + 1) 0 0 mX5_init 0 [some (.ref 25), some (.ref 26), some (.ref 15)] [] (27, va_up G 25 (.inr (5, [.null, .null, .int 0, .int 0, .int 0, .int 0]))) Φ := by
  refine J_aload_n dX5_init_0 rfl ?_
  refine J_obj dX5_init_1 kX5_3 obj1 obj2 (Nat.le_of_ble_eq_true rfl) ?_
  refine J_aload_n dX5_init_4 rfl ?_
  refine J_aload_n dX5_init_5 rfl ?_
  refine Z_putF dX5_init_6 qX5_9 rfl (by decide) (Nat.le_of_ble_eq_true rfl) (fun _ => rfl) (fun _ => rfl) (fs2 := [.ref 26, .null, .int 0, .int 0, .int 0, .int 0]) rfl (pc2 := 9) rfl ?_
  refine J_aload_n dX5_init_9 rfl ?_
  refine J_aload_n dX5_init_10 rfl ?_
  refine Z_putF dX5_init_11 qX5_15 rfl (by decide) (Nat.le_of_ble_eq_true rfl) (fun _ => rfl) (fun _ => rfl) (fs2 := [.ref 26, .ref 15, .int 0, .int 0, .int 0, .int 0]) rfl (pc2 := 14) rfl ?_
  refine J_aload_n dX5_init_14 rfl ?_
  refine J_iconst (v := -1) dX5_init_15 (by decide) ?_
  refine Z_put dX5_init_16 pX5_19 (by decide) (Nat.le_of_ble_eq_true rfl) (fun _ => rfl) (fun _ => rfl) (fs2 := [.ref 26, .ref 15, .int 0, .int 0, .int 0, .int (-1)]) rfl (pc2 := 19) rfl ?_
  exact Z_ret dX5_init_19 rfl (hG 25 (by decide) (by decide)) h
set_option maxRecDepth 100000 in
set_option maxHeartbeats 4000000 in
theorem iJudge {d : Nat} {G : Nat → va_E} {Φ : Option Int32 → PH → Prop} (hG : ∀ a, 27 ≤ a → a < 29 → G a = HS M0 a) (h : Φ none (29, G)) : J noRo (d + 1) 1 14 mX2_init 0 [some (.ref 27), some (.ref 1), some (.ref 8), some (.ref 20)] [] (28, va_up G 27 (.inr (2, [.null, .null, .null, .null]))) Φ := by
  refine J_aload_n dX2_init_0 rfl ?_
  refine J_obj dX2_init_1 kX2_3 obj1 obj2 (Nat.le_of_ble_eq_true rfl) ?_
  refine J_aload_n dX2_init_4 rfl ?_
  refine J_bipush (v := 14) dX2_init_5 (by decide) ?_
  refine Z_newI (N := 14) dX2_init_7 (by decide) (by decide) (by decide) (by decide) (by decide) (hG 28 (by decide) (by decide)) ?_
  refine Z_putF dX2_init_9 qX2_9 rfl (by decide) (Nat.le_of_ble_eq_true rfl) (fun _ => rfl) (fun _ => rfl) (fs2 := [.null, .null, .null, .ref 28]) rfl (pc2 := 12) rfl ?_
  refine J_aload_n dX2_init_12 rfl ?_
  refine J_aload_n dX2_init_13 rfl ?_
  refine Z_putF dX2_init_14 qX2_15 rfl (by decide) (Nat.le_of_ble_eq_true rfl) (fun _ => rfl) (fun _ => rfl) (fs2 := [.ref 1, .null, .null, .ref 28]) rfl (pc2 := 17) rfl ?_
  refine J_aload_n dX2_init_17 rfl ?_
  refine J_aload_n dX2_init_18 rfl ?_
  refine Z_putF dX2_init_19 qX2_19 rfl (by decide) (Nat.le_of_ble_eq_true rfl) (fun _ => rfl) (fun _ => rfl) (fs2 := [.ref 1, .ref 8, .null, .ref 28]) rfl (pc2 := 22) rfl ?_
  refine J_aload_n dX2_init_22 rfl ?_
  refine J_aload_n dX2_init_23 rfl ?_
  refine Z_putF dX2_init_24 qX2_23 rfl (by decide) (Nat.le_of_ble_eq_true rfl) (fun _ => rfl) (fun _ => rfl) (fs2 := [.ref 1, .ref 8, .ref 20, .ref 28]) rfl (pc2 := 27) rfl ?_
  exact Z_ret dX2_init_27 rfl (hG 27 (by decide) (by decide)) h
set_option maxRecDepth 100000 in
set_option maxHeartbeats 4000000 in
theorem iPlanner {d : Nat} {G : Nat → va_E} {Φ : Option Int32 → PH → Prop} (hG : ∀ a, 29 ≤ a → a < 33 → G a = HS M0 a) (h : Φ none (33, G)) : J noRo (d + 1) 3 2028 mX6_init 0 [some (.ref 29), some (.ref 1), some (.ref 8), some (.ref 27)] [] (30, va_up G 29 (.inr (6, [.null, .null, .null, .null, .null, .null, .int 0, .int 0, .int 0]))) Φ := by
  refine J_aload_n dX6_init_0 rfl ?_
  refine J_obj dX6_init_1 kX6_3 obj1 obj2 (Nat.le_of_ble_eq_true rfl) ?_
  refine J_aload_n dX6_init_4 rfl ?_
  refine J_bipush (v := 12) dX6_init_5 (by decide) ?_
  refine Z_newI (N := 12) dX6_init_7 (by decide) (by decide) (by decide) (by decide) (by decide) (hG 30 (by decide) (by decide)) ?_
  refine Z_putF dX6_init_9 qX6_9 rfl (by decide) (Nat.le_of_ble_eq_true rfl) (fun _ => rfl) (fun _ => rfl) (fs2 := [.null, .null, .null, .ref 30, .null, .null, .int 0, .int 0, .int 0]) rfl (pc2 := 12) rfl ?_
  refine J_aload_n dX6_init_12 rfl ?_
  refine J_sipush (v := 288) dX6_init_13 (by decide) ?_
  refine Z_newI (N := 288) dX6_init_16 (by decide) (by decide) (by decide) (by decide) (by decide) (hG 31 (by decide) (by decide)) ?_
  refine Z_putF dX6_init_18 qX6_15 rfl (by decide) (Nat.le_of_ble_eq_true rfl) (fun _ => rfl) (fun _ => rfl) (fs2 := [.null, .null, .null, .ref 30, .ref 31, .null, .int 0, .int 0, .int 0]) rfl (pc2 := 21) rfl ?_
  refine J_aload_n dX6_init_21 rfl ?_
  refine J_sipush (v := 1728) dX6_init_22 (by decide) ?_
  refine Z_newI (N := 1728) dX6_init_25 (by decide) (by decide) (by decide) (by decide) (by decide) (hG 32 (by decide) (by decide)) ?_
  refine Z_putF dX6_init_27 qX6_18 rfl (by decide) (Nat.le_of_ble_eq_true rfl) (fun _ => rfl) (fun _ => rfl) (fs2 := [.null, .null, .null, .ref 30, .ref 31, .ref 32, .int 0, .int 0, .int 0]) rfl (pc2 := 30) rfl ?_
  refine J_aload_n dX6_init_30 rfl ?_
  refine J_aload_n dX6_init_31 rfl ?_
  refine Z_putF dX6_init_32 qX6_21 rfl (by decide) (Nat.le_of_ble_eq_true rfl) (fun _ => rfl) (fun _ => rfl) (fs2 := [.ref 1, .null, .null, .ref 30, .ref 31, .ref 32, .int 0, .int 0, .int 0]) rfl (pc2 := 35) rfl ?_
  refine J_aload_n dX6_init_35 rfl ?_
  refine J_aload_n dX6_init_36 rfl ?_
  refine Z_putF dX6_init_37 qX6_25 rfl (by decide) (Nat.le_of_ble_eq_true rfl) (fun _ => rfl) (fun _ => rfl) (fs2 := [.ref 1, .ref 8, .null, .ref 30, .ref 31, .ref 32, .int 0, .int 0, .int 0]) rfl (pc2 := 40) rfl ?_
  refine J_aload_n dX6_init_40 rfl ?_
  refine J_aload_n dX6_init_41 rfl ?_
  refine Z_putF dX6_init_42 qX6_29 rfl (by decide) (Nat.le_of_ble_eq_true rfl) (fun _ => rfl) (fun _ => rfl) (fs2 := [.ref 1, .ref 8, .ref 27, .ref 30, .ref 31, .ref 32, .int 0, .int 0, .int 0]) rfl (pc2 := 45) rfl ?_
  exact Z_ret dX6_init_45 rfl (hG 29 (by decide) (by decide)) h
set_option maxRecDepth 100000 in
set_option maxHeartbeats 4000000 in
theorem iBin0 {d : Nat} {G : Nat → va_E} {Φ : Option Int32 → PH → Prop} (hG : ∀ a, 34 ≤ a → a < 38 → G a = HS M0 a) (h : Φ none (38, G)) : J noRo (d + 1) 3 60 mX0_init 0 [some (.ref 34)] [] (35, va_up G 34 (.inr (0, [.null, .null, .null, .int 0, .int 0]))) Φ := by
  refine J_aload_n dX0_init_0 rfl ?_
  refine J_obj dX0_init_1 kX0_3 obj1 obj2 (Nat.le_of_ble_eq_true rfl) ?_
  refine J_aload_n dX0_init_4 rfl ?_
  refine J_bipush (v := 20) dX0_init_5 (by decide) ?_
  refine Z_newI (N := 20) dX0_init_7 (by decide) (by decide) (by decide) (by decide) (by decide) (hG 35 (by decide) (by decide)) ?_
  refine Z_putF dX0_init_9 qX0_9 rfl (by decide) (Nat.le_of_ble_eq_true rfl) (fun _ => rfl) (fun _ => rfl) (fs2 := [.ref 35, .null, .null, .int 0, .int 0]) rfl (pc2 := 12) rfl ?_
  refine J_aload_n dX0_init_12 rfl ?_
  refine J_bipush (v := 20) dX0_init_13 (by decide) ?_
  refine Z_newI (N := 20) dX0_init_15 (by decide) (by decide) (by decide) (by decide) (by decide) (hG 36 (by decide) (by decide)) ?_
  refine Z_putF dX0_init_17 qX0_15 rfl (by decide) (Nat.le_of_ble_eq_true rfl) (fun _ => rfl) (fun _ => rfl) (fs2 := [.ref 35, .ref 36, .null, .int 0, .int 0]) rfl (pc2 := 20) rfl ?_
  refine J_aload_n dX0_init_20 rfl ?_
  refine J_bipush (v := 20) dX0_init_21 (by decide) ?_
  refine Z_newI (N := 20) dX0_init_23 (by decide) (by decide) (by decide) (by decide) (by decide) (hG 37 (by decide) (by decide)) ?_
  refine Z_putF dX0_init_25 qX0_18 rfl (by decide) (Nat.le_of_ble_eq_true rfl) (fun _ => rfl) (fun _ => rfl) (fs2 := [.ref 35, .ref 36, .ref 37, .int 0, .int 0]) rfl (pc2 := 28) rfl ?_
  exact Z_ret dX0_init_28 rfl (hG 34 (by decide) (by decide)) h
set_option maxRecDepth 100000 in
set_option maxHeartbeats 4000000 in
theorem iBin1 {d : Nat} {G : Nat → va_E} {Φ : Option Int32 → PH → Prop} (hG : ∀ a, 38 ≤ a → a < 42 → G a = HS M0 a) (h : Φ none (42, G)) : J noRo (d + 1) 3 60 mX0_init 0 [some (.ref 38)] [] (39, va_up G 38 (.inr (0, [.null, .null, .null, .int 0, .int 0]))) Φ := by
  refine J_aload_n dX0_init_0 rfl ?_
  refine J_obj dX0_init_1 kX0_3 obj1 obj2 (Nat.le_of_ble_eq_true rfl) ?_
  refine J_aload_n dX0_init_4 rfl ?_
  refine J_bipush (v := 20) dX0_init_5 (by decide) ?_
  refine Z_newI (N := 20) dX0_init_7 (by decide) (by decide) (by decide) (by decide) (by decide) (hG 39 (by decide) (by decide)) ?_
  refine Z_putF dX0_init_9 qX0_9 rfl (by decide) (Nat.le_of_ble_eq_true rfl) (fun _ => rfl) (fun _ => rfl) (fs2 := [.ref 39, .null, .null, .int 0, .int 0]) rfl (pc2 := 12) rfl ?_
  refine J_aload_n dX0_init_12 rfl ?_
  refine J_bipush (v := 20) dX0_init_13 (by decide) ?_
  refine Z_newI (N := 20) dX0_init_15 (by decide) (by decide) (by decide) (by decide) (by decide) (hG 40 (by decide) (by decide)) ?_
  refine Z_putF dX0_init_17 qX0_15 rfl (by decide) (Nat.le_of_ble_eq_true rfl) (fun _ => rfl) (fun _ => rfl) (fs2 := [.ref 39, .ref 40, .null, .int 0, .int 0]) rfl (pc2 := 20) rfl ?_
  refine J_aload_n dX0_init_20 rfl ?_
  refine J_bipush (v := 20) dX0_init_21 (by decide) ?_
  refine Z_newI (N := 20) dX0_init_23 (by decide) (by decide) (by decide) (by decide) (by decide) (hG 41 (by decide) (by decide)) ?_
  refine Z_putF dX0_init_25 qX0_18 rfl (by decide) (Nat.le_of_ble_eq_true rfl) (fun _ => rfl) (fun _ => rfl) (fs2 := [.ref 39, .ref 40, .ref 41, .int 0, .int 0]) rfl (pc2 := 28) rfl ?_
  exact Z_ret dX0_init_28 rfl (hG 38 (by decide) (by decide)) h
set_option maxRecDepth 100000 in
set_option maxHeartbeats 4000000 in
theorem iBin2 {d : Nat} {G : Nat → va_E} {Φ : Option Int32 → PH → Prop} (hG : ∀ a, 42 ≤ a → a < 46 → G a = HS M0 a) (h : Φ none (46, G)) : J noRo (d + 1) 3 60 mX0_init 0 [some (.ref 42)] [] (43, va_up G 42 (.inr (0, [.null, .null, .null, .int 0, .int 0]))) Φ := by
  refine J_aload_n dX0_init_0 rfl ?_
  refine J_obj dX0_init_1 kX0_3 obj1 obj2 (Nat.le_of_ble_eq_true rfl) ?_
  refine J_aload_n dX0_init_4 rfl ?_
  refine J_bipush (v := 20) dX0_init_5 (by decide) ?_
  refine Z_newI (N := 20) dX0_init_7 (by decide) (by decide) (by decide) (by decide) (by decide) (hG 43 (by decide) (by decide)) ?_
  refine Z_putF dX0_init_9 qX0_9 rfl (by decide) (Nat.le_of_ble_eq_true rfl) (fun _ => rfl) (fun _ => rfl) (fs2 := [.ref 43, .null, .null, .int 0, .int 0]) rfl (pc2 := 12) rfl ?_
  refine J_aload_n dX0_init_12 rfl ?_
  refine J_bipush (v := 20) dX0_init_13 (by decide) ?_
  refine Z_newI (N := 20) dX0_init_15 (by decide) (by decide) (by decide) (by decide) (by decide) (hG 44 (by decide) (by decide)) ?_
  refine Z_putF dX0_init_17 qX0_15 rfl (by decide) (Nat.le_of_ble_eq_true rfl) (fun _ => rfl) (fun _ => rfl) (fs2 := [.ref 43, .ref 44, .null, .int 0, .int 0]) rfl (pc2 := 20) rfl ?_
  refine J_aload_n dX0_init_20 rfl ?_
  refine J_bipush (v := 20) dX0_init_21 (by decide) ?_
  refine Z_newI (N := 20) dX0_init_23 (by decide) (by decide) (by decide) (by decide) (by decide) (hG 45 (by decide) (by decide)) ?_
  refine Z_putF dX0_init_25 qX0_18 rfl (by decide) (Nat.le_of_ble_eq_true rfl) (fun _ => rfl) (fun _ => rfl) (fs2 := [.ref 43, .ref 44, .ref 45, .int 0, .int 0]) rfl (pc2 := 28) rfl ?_
  exact Z_ret dX0_init_28 rfl (hG 42 (by decide) (by decide)) h
set_option maxRecDepth 100000 in
set_option maxHeartbeats 4000000 in
theorem iBin3 {d : Nat} {G : Nat → va_E} {Φ : Option Int32 → PH → Prop} (hG : ∀ a, 46 ≤ a → a < 50 → G a = HS M0 a) (h : Φ none (50, G)) : J noRo (d + 1) 3 60 mX0_init 0 [some (.ref 46)] [] (47, va_up G 46 (.inr (0, [.null, .null, .null, .int 0, .int 0]))) Φ := by
  refine J_aload_n dX0_init_0 rfl ?_
  refine J_obj dX0_init_1 kX0_3 obj1 obj2 (Nat.le_of_ble_eq_true rfl) ?_
  refine J_aload_n dX0_init_4 rfl ?_
  refine J_bipush (v := 20) dX0_init_5 (by decide) ?_
  refine Z_newI (N := 20) dX0_init_7 (by decide) (by decide) (by decide) (by decide) (by decide) (hG 47 (by decide) (by decide)) ?_
  refine Z_putF dX0_init_9 qX0_9 rfl (by decide) (Nat.le_of_ble_eq_true rfl) (fun _ => rfl) (fun _ => rfl) (fs2 := [.ref 47, .null, .null, .int 0, .int 0]) rfl (pc2 := 12) rfl ?_
  refine J_aload_n dX0_init_12 rfl ?_
  refine J_bipush (v := 20) dX0_init_13 (by decide) ?_
  refine Z_newI (N := 20) dX0_init_15 (by decide) (by decide) (by decide) (by decide) (by decide) (hG 48 (by decide) (by decide)) ?_
  refine Z_putF dX0_init_17 qX0_15 rfl (by decide) (Nat.le_of_ble_eq_true rfl) (fun _ => rfl) (fun _ => rfl) (fs2 := [.ref 47, .ref 48, .null, .int 0, .int 0]) rfl (pc2 := 20) rfl ?_
  refine J_aload_n dX0_init_20 rfl ?_
  refine J_bipush (v := 20) dX0_init_21 (by decide) ?_
  refine Z_newI (N := 20) dX0_init_23 (by decide) (by decide) (by decide) (by decide) (by decide) (hG 49 (by decide) (by decide)) ?_
  refine Z_putF dX0_init_25 qX0_18 rfl (by decide) (Nat.le_of_ble_eq_true rfl) (fun _ => rfl) (fun _ => rfl) (fs2 := [.ref 47, .ref 48, .ref 49, .int 0, .int 0]) rfl (pc2 := 28) rfl ?_
  exact Z_ret dX0_init_28 rfl (hG 46 (by decide) (by decide)) h
set_option maxRecDepth 100000 in
set_option maxHeartbeats 4000000 in
theorem iNights {d : Nat} {G : Nat → va_E} {Φ : Option Int32 → PH → Prop} (hG : ∀ a, 51 ≤ a → a < 55 → G a = HS M0 a) (h : Φ none (55, G)) : J noRo (d + 1) 3 6000 mX4_init 0 [some (.ref 51)] [] (52, va_up G 51 (.inr (4, [.null, .null, .null, .int 0]))) Φ := by
  refine J_aload_n dX4_init_0 rfl ?_
  refine J_obj dX4_init_1 kX4_3 obj1 obj2 (Nat.le_of_ble_eq_true rfl) ?_
  refine J_aload_n dX4_init_4 rfl ?_
  refine J_sipush (v := 2000) dX4_init_5 (by decide) ?_
  refine Z_newI (N := 2000) dX4_init_8 (by decide) (by decide) (by decide) (by decide) (by decide) (hG 52 (by decide) (by decide)) ?_
  refine Z_putF dX4_init_10 qX4_9 rfl (by decide) (Nat.le_of_ble_eq_true rfl) (fun _ => rfl) (fun _ => rfl) (fs2 := [.ref 52, .null, .null, .int 0]) rfl (pc2 := 13) rfl ?_
  refine J_aload_n dX4_init_13 rfl ?_
  refine J_sipush (v := 2000) dX4_init_14 (by decide) ?_
  refine Z_newI (N := 2000) dX4_init_17 (by decide) (by decide) (by decide) (by decide) (by decide) (hG 53 (by decide) (by decide)) ?_
  refine Z_putF dX4_init_19 qX4_15 rfl (by decide) (Nat.le_of_ble_eq_true rfl) (fun _ => rfl) (fun _ => rfl) (fs2 := [.ref 52, .ref 53, .null, .int 0]) rfl (pc2 := 22) rfl ?_
  refine J_aload_n dX4_init_22 rfl ?_
  refine J_sipush (v := 2000) dX4_init_23 (by decide) ?_
  refine Z_newI (N := 2000) dX4_init_26 (by decide) (by decide) (by decide) (by decide) (by decide) (hG 54 (by decide) (by decide)) ?_
  refine Z_putF dX4_init_28 qX4_18 rfl (by decide) (Nat.le_of_ble_eq_true rfl) (fun _ => rfl) (fun _ => rfl) (fs2 := [.ref 52, .ref 53, .ref 54, .int 0]) rfl (pc2 := 31) rfl ?_
  exact Z_ret dX4_init_31 rfl (hG 51 (by decide) (by decide)) h
set_option maxRecDepth 100000 in
set_option maxHeartbeats 4000000 in
theorem iWorks {d : Nat} {G : Nat → va_E} {Φ : Option Int32 → PH → Prop} (hG : ∀ a, 55 ≤ a → a < 62 → G a = HS M0 a) (h : Φ none (62, G)) : J noRo (d + 1) 6 839 mX10_init 0 [some (.ref 55)] [] (56, va_up G 55 (.inr (10, [.null, .null, .null, .null, .null, .null, .int 0]))) Φ := by
  refine J_aload_n dX10_init_0 rfl ?_
  refine J_obj dX10_init_1 kX10_3 obj1 obj2 (Nat.le_of_ble_eq_true rfl) ?_
  refine J_aload_n dX10_init_4 rfl ?_
  refine J_sipush (v := 200) dX10_init_5 (by decide) ?_
  refine Z_newI (N := 200) dX10_init_8 (by decide) (by decide) (by decide) (by decide) (by decide) (hG 56 (by decide) (by decide)) ?_
  refine Z_putF dX10_init_10 qX10_9 rfl (by decide) (Nat.le_of_ble_eq_true rfl) (fun _ => rfl) (fun _ => rfl) (fs2 := [.ref 56, .null, .null, .null, .null, .null, .int 0]) rfl (pc2 := 13) rfl ?_
  refine J_aload_n dX10_init_13 rfl ?_
  refine J_sipush (v := 200) dX10_init_14 (by decide) ?_
  refine Z_newI (N := 200) dX10_init_17 (by decide) (by decide) (by decide) (by decide) (by decide) (hG 57 (by decide) (by decide)) ?_
  refine Z_putF dX10_init_19 qX10_15 rfl (by decide) (Nat.le_of_ble_eq_true rfl) (fun _ => rfl) (fun _ => rfl) (fs2 := [.ref 56, .ref 57, .null, .null, .null, .null, .int 0]) rfl (pc2 := 22) rfl ?_
  refine J_aload_n dX10_init_22 rfl ?_
  refine J_sipush (v := 200) dX10_init_23 (by decide) ?_
  refine Z_newI (N := 200) dX10_init_26 (by decide) (by decide) (by decide) (by decide) (by decide) (hG 58 (by decide) (by decide)) ?_
  refine Z_putF dX10_init_28 qX10_18 rfl (by decide) (Nat.le_of_ble_eq_true rfl) (fun _ => rfl) (fun _ => rfl) (fs2 := [.ref 56, .ref 57, .ref 58, .null, .null, .null, .int 0]) rfl (pc2 := 31) rfl ?_
  refine J_aload_n dX10_init_31 rfl ?_
  refine J_sipush (v := 200) dX10_init_32 (by decide) ?_
  refine Z_newI (N := 200) dX10_init_35 (by decide) (by decide) (by decide) (by decide) (by decide) (hG 59 (by decide) (by decide)) ?_
  refine Z_putF dX10_init_37 qX10_21 rfl (by decide) (Nat.le_of_ble_eq_true rfl) (fun _ => rfl) (fun _ => rfl) (fs2 := [.ref 56, .ref 57, .ref 58, .ref 59, .null, .null, .int 0]) rfl (pc2 := 40) rfl ?_
  refine J_aload_n dX10_init_40 rfl ?_
  refine J_bipush (v := 36) dX10_init_41 (by decide) ?_
  refine Z_newI (N := 36) dX10_init_43 (by decide) (by decide) (by decide) (by decide) (by decide) (hG 60 (by decide) (by decide)) ?_
  refine Z_putF dX10_init_45 qX10_24 rfl (by decide) (Nat.le_of_ble_eq_true rfl) (fun _ => rfl) (fun _ => rfl) (fs2 := [.ref 56, .ref 57, .ref 58, .ref 59, .ref 60, .null, .int 0]) rfl (pc2 := 48) rfl ?_
  refine J_aload_n dX10_init_48 rfl ?_
  refine J_iconst (v := 3) dX10_init_49 (by decide) ?_
  refine Z_newI (N := 3) dX10_init_50 (by decide) (by decide) (by decide) (by decide) (by decide) (hG 61 (by decide) (by decide)) ?_
  refine Z_putF dX10_init_52 qX10_27 rfl (by decide) (Nat.le_of_ble_eq_true rfl) (fun _ => rfl) (fun _ => rfl) (fs2 := [.ref 56, .ref 57, .ref 58, .ref 59, .ref 60, .ref 61, .int 0]) rfl (pc2 := 55) rfl ?_
  exact Z_ret dX10_init_55 rfl (hG 55 (by decide) (by decide)) h
set_option maxRecDepth 100000 in
set_option maxHeartbeats 4000000 in
theorem iModel {d : Nat} {G : Nat → va_E} {Φ : Option Int32 → PH → Prop} (hG : ∀ a, 62 ≤ a → a < 102 → G a = HS M0 a) (h : Φ none (102, G)) : J noRo (d + 1) 39 11649 mX12_init 0 [some (.ref 62)] [] (63, va_up G 62 (.inr (12, [.int 0, .int 0, .null, .null, .null, .null, .null, .null, .null, .null, .null, .null, .int 0, .null, .null, .null, .null, .int 0, .null, .null, .null, .null, .int 0, .int 0, .int 0, .null, .int 0, .int 0, .int 0, .int 0, .int 0, .int 0, .int 0, .int 0, .long 0, .null, .int 0, .int 0, .null, .null, .null, .null, .int 0, .null, .null, .null, .null, .null, .null, .int 0, .int 0, .null, .null, .null, .null, .null, .null, .null, .null, .null]))) Φ := by
  refine J_aload_n dX12_init_0 rfl ?_
  refine J_obj dX12_init_1 kX12_1 obj1 obj2 (Nat.le_of_ble_eq_true rfl) ?_
  refine J_aload_n dX12_init_4 rfl ?_
  refine J_bipush (v := 12) dX12_init_5 (by decide) ?_
  refine Z_newI (N := 12) dX12_init_7 (by decide) (by decide) (by decide) (by decide) (by decide) (hG 63 (by decide) (by decide)) ?_
  refine Z_putF dX12_init_9 qX12_7 rfl (by decide) (Nat.le_of_ble_eq_true rfl) (fun _ => rfl) (fun _ => rfl) (fs2 := [.int 0, .int 0, .ref 63, .null, .null, .null, .null, .null, .null, .null, .null, .null, .int 0, .null, .null, .null, .null, .int 0, .null, .null, .null, .null, .int 0, .int 0, .int 0, .null, .int 0, .int 0, .int 0, .int 0, .int 0, .int 0, .int 0, .int 0, .long 0, .null, .int 0, .int 0, .null, .null, .null, .null, .int 0, .null, .null, .null, .null, .null, .null, .int 0, .int 0, .null, .null, .null, .null, .null, .null, .null, .null, .null]) rfl (pc2 := 12) rfl ?_
  refine J_aload_n dX12_init_12 rfl ?_
  refine J_bipush (v := 12) dX12_init_13 (by decide) ?_
  refine Z_newI (N := 12) dX12_init_15 (by decide) (by decide) (by decide) (by decide) (by decide) (hG 64 (by decide) (by decide)) ?_
  refine Z_putF dX12_init_17 qX12_13 rfl (by decide) (Nat.le_of_ble_eq_true rfl) (fun _ => rfl) (fun _ => rfl) (fs2 := [.int 0, .int 0, .ref 63, .ref 64, .null, .null, .null, .null, .null, .null, .null, .null, .int 0, .null, .null, .null, .null, .int 0, .null, .null, .null, .null, .int 0, .int 0, .int 0, .null, .int 0, .int 0, .int 0, .int 0, .int 0, .int 0, .int 0, .int 0, .long 0, .null, .int 0, .int 0, .null, .null, .null, .null, .int 0, .null, .null, .null, .null, .null, .null, .int 0, .int 0, .null, .null, .null, .null, .null, .null, .null, .null, .null]) rfl (pc2 := 20) rfl ?_
  refine J_aload_n dX12_init_20 rfl ?_
  refine J_bipush (v := 12) dX12_init_21 (by decide) ?_
  refine Z_newI (N := 12) dX12_init_23 (by decide) (by decide) (by decide) (by decide) (by decide) (hG 65 (by decide) (by decide)) ?_
  refine Z_putF dX12_init_25 qX12_16 rfl (by decide) (Nat.le_of_ble_eq_true rfl) (fun _ => rfl) (fun _ => rfl) (fs2 := [.int 0, .int 0, .ref 63, .ref 64, .ref 65, .null, .null, .null, .null, .null, .null, .null, .int 0, .null, .null, .null, .null, .int 0, .null, .null, .null, .null, .int 0, .int 0, .int 0, .null, .int 0, .int 0, .int 0, .int 0, .int 0, .int 0, .int 0, .int 0, .long 0, .null, .int 0, .int 0, .null, .null, .null, .null, .int 0, .null, .null, .null, .null, .null, .null, .int 0, .int 0, .null, .null, .null, .null, .null, .null, .null, .null, .null]) rfl (pc2 := 28) rfl ?_
  refine J_aload_n dX12_init_28 rfl ?_
  refine J_bipush (v := 12) dX12_init_29 (by decide) ?_
  refine Z_newI (N := 12) dX12_init_31 (by decide) (by decide) (by decide) (by decide) (by decide) (hG 66 (by decide) (by decide)) ?_
  refine Z_putF dX12_init_33 qX12_19 rfl (by decide) (Nat.le_of_ble_eq_true rfl) (fun _ => rfl) (fun _ => rfl) (fs2 := [.int 0, .int 0, .ref 63, .ref 64, .ref 65, .ref 66, .null, .null, .null, .null, .null, .null, .int 0, .null, .null, .null, .null, .int 0, .null, .null, .null, .null, .int 0, .int 0, .int 0, .null, .int 0, .int 0, .int 0, .int 0, .int 0, .int 0, .int 0, .int 0, .long 0, .null, .int 0, .int 0, .null, .null, .null, .null, .int 0, .null, .null, .null, .null, .null, .null, .int 0, .int 0, .null, .null, .null, .null, .null, .null, .null, .null, .null]) rfl (pc2 := 36) rfl ?_
  refine J_aload_n dX12_init_36 rfl ?_
  refine J_bipush (v := 12) dX12_init_37 (by decide) ?_
  refine Z_newI (N := 12) dX12_init_39 (by decide) (by decide) (by decide) (by decide) (by decide) (hG 67 (by decide) (by decide)) ?_
  refine Z_putF dX12_init_41 qX12_22 rfl (by decide) (Nat.le_of_ble_eq_true rfl) (fun _ => rfl) (fun _ => rfl) (fs2 := [.int 0, .int 0, .ref 63, .ref 64, .ref 65, .ref 66, .ref 67, .null, .null, .null, .null, .null, .int 0, .null, .null, .null, .null, .int 0, .null, .null, .null, .null, .int 0, .int 0, .int 0, .null, .int 0, .int 0, .int 0, .int 0, .int 0, .int 0, .int 0, .int 0, .long 0, .null, .int 0, .int 0, .null, .null, .null, .null, .int 0, .null, .null, .null, .null, .null, .null, .int 0, .int 0, .null, .null, .null, .null, .null, .null, .null, .null, .null]) rfl (pc2 := 44) rfl ?_
  refine J_aload_n dX12_init_44 rfl ?_
  refine J_bipush (v := 48) dX12_init_45 (by decide) ?_
  refine Z_newI (N := 48) dX12_init_47 (by decide) (by decide) (by decide) (by decide) (by decide) (hG 68 (by decide) (by decide)) ?_
  refine Z_putF dX12_init_49 qX12_25 rfl (by decide) (Nat.le_of_ble_eq_true rfl) (fun _ => rfl) (fun _ => rfl) (fs2 := [.int 0, .int 0, .ref 63, .ref 64, .ref 65, .ref 66, .ref 67, .ref 68, .null, .null, .null, .null, .int 0, .null, .null, .null, .null, .int 0, .null, .null, .null, .null, .int 0, .int 0, .int 0, .null, .int 0, .int 0, .int 0, .int 0, .int 0, .int 0, .int 0, .int 0, .long 0, .null, .int 0, .int 0, .null, .null, .null, .null, .int 0, .null, .null, .null, .null, .null, .null, .int 0, .int 0, .null, .null, .null, .null, .null, .null, .null, .null, .null]) rfl (pc2 := 52) rfl ?_
  refine J_aload_n dX12_init_52 rfl ?_
  refine J_bipush (v := 6) dX12_init_53 (by decide) ?_
  refine Z_newI (N := 6) dX12_init_55 (by decide) (by decide) (by decide) (by decide) (by decide) (hG 69 (by decide) (by decide)) ?_
  refine Z_putF dX12_init_57 qX12_28 rfl (by decide) (Nat.le_of_ble_eq_true rfl) (fun _ => rfl) (fun _ => rfl) (fs2 := [.int 0, .int 0, .ref 63, .ref 64, .ref 65, .ref 66, .ref 67, .ref 68, .ref 69, .null, .null, .null, .int 0, .null, .null, .null, .null, .int 0, .null, .null, .null, .null, .int 0, .int 0, .int 0, .null, .int 0, .int 0, .int 0, .int 0, .int 0, .int 0, .int 0, .int 0, .long 0, .null, .int 0, .int 0, .null, .null, .null, .null, .int 0, .null, .null, .null, .null, .null, .null, .int 0, .int 0, .null, .null, .null, .null, .null, .null, .null, .null, .null]) rfl (pc2 := 60) rfl ?_
  refine J_aload_n dX12_init_60 rfl ?_
  refine J_bipush (v := 6) dX12_init_61 (by decide) ?_
  refine Z_newI (N := 6) dX12_init_63 (by decide) (by decide) (by decide) (by decide) (by decide) (hG 70 (by decide) (by decide)) ?_
  refine Z_putF dX12_init_65 qX12_31 rfl (by decide) (Nat.le_of_ble_eq_true rfl) (fun _ => rfl) (fun _ => rfl) (fs2 := [.int 0, .int 0, .ref 63, .ref 64, .ref 65, .ref 66, .ref 67, .ref 68, .ref 69, .ref 70, .null, .null, .int 0, .null, .null, .null, .null, .int 0, .null, .null, .null, .null, .int 0, .int 0, .int 0, .null, .int 0, .int 0, .int 0, .int 0, .int 0, .int 0, .int 0, .int 0, .long 0, .null, .int 0, .int 0, .null, .null, .null, .null, .int 0, .null, .null, .null, .null, .null, .null, .int 0, .int 0, .null, .null, .null, .null, .null, .null, .null, .null, .null]) rfl (pc2 := 68) rfl ?_
  refine J_aload_n dX12_init_68 rfl ?_
  refine J_bipush (v := 6) dX12_init_69 (by decide) ?_
  refine Z_newI (N := 6) dX12_init_71 (by decide) (by decide) (by decide) (by decide) (by decide) (hG 71 (by decide) (by decide)) ?_
  refine Z_putF dX12_init_73 qX12_34 rfl (by decide) (Nat.le_of_ble_eq_true rfl) (fun _ => rfl) (fun _ => rfl) (fs2 := [.int 0, .int 0, .ref 63, .ref 64, .ref 65, .ref 66, .ref 67, .ref 68, .ref 69, .ref 70, .ref 71, .null, .int 0, .null, .null, .null, .null, .int 0, .null, .null, .null, .null, .int 0, .int 0, .int 0, .null, .int 0, .int 0, .int 0, .int 0, .int 0, .int 0, .int 0, .int 0, .long 0, .null, .int 0, .int 0, .null, .null, .null, .null, .int 0, .null, .null, .null, .null, .null, .null, .int 0, .int 0, .null, .null, .null, .null, .null, .null, .null, .null, .null]) rfl (pc2 := 76) rfl ?_
  refine J_aload_n dX12_init_76 rfl ?_
  refine J_bipush (v := 36) dX12_init_77 (by decide) ?_
  refine Z_newZ (N := 36) dX12_init_79 (by decide) (by decide) (by decide) (by decide) (by decide) (hG 72 (by decide) (by decide)) ?_
  refine Z_putF dX12_init_81 qX12_37 rfl (by decide) (Nat.le_of_ble_eq_true rfl) (fun _ => rfl) (fun _ => rfl) (fs2 := [.int 0, .int 0, .ref 63, .ref 64, .ref 65, .ref 66, .ref 67, .ref 68, .ref 69, .ref 70, .ref 71, .ref 72, .int 0, .null, .null, .null, .null, .int 0, .null, .null, .null, .null, .int 0, .int 0, .int 0, .null, .int 0, .int 0, .int 0, .int 0, .int 0, .int 0, .int 0, .int 0, .long 0, .null, .int 0, .int 0, .null, .null, .null, .null, .int 0, .null, .null, .null, .null, .null, .null, .int 0, .int 0, .null, .null, .null, .null, .null, .null, .null, .null, .null]) rfl (pc2 := 84) rfl ?_
  refine J_aload_n dX12_init_84 rfl ?_
  refine J_sipush (v := 600) dX12_init_85 (by decide) ?_
  refine Z_newI (N := 600) dX12_init_88 (by decide) (by decide) (by decide) (by decide) (by decide) (hG 73 (by decide) (by decide)) ?_
  refine Z_putF dX12_init_90 qX12_41 rfl (by decide) (Nat.le_of_ble_eq_true rfl) (fun _ => rfl) (fun _ => rfl) (fs2 := [.int 0, .int 0, .ref 63, .ref 64, .ref 65, .ref 66, .ref 67, .ref 68, .ref 69, .ref 70, .ref 71, .ref 72, .int 0, .ref 73, .null, .null, .null, .int 0, .null, .null, .null, .null, .int 0, .int 0, .int 0, .null, .int 0, .int 0, .int 0, .int 0, .int 0, .int 0, .int 0, .int 0, .long 0, .null, .int 0, .int 0, .null, .null, .null, .null, .int 0, .null, .null, .null, .null, .null, .null, .int 0, .int 0, .null, .null, .null, .null, .null, .null, .null, .null, .null]) rfl (pc2 := 93) rfl ?_
  refine J_aload_n dX12_init_93 rfl ?_
  refine J_sipush (v := 600) dX12_init_94 (by decide) ?_
  refine Z_newI (N := 600) dX12_init_97 (by decide) (by decide) (by decide) (by decide) (by decide) (hG 74 (by decide) (by decide)) ?_
  refine Z_putF dX12_init_99 qX12_44 rfl (by decide) (Nat.le_of_ble_eq_true rfl) (fun _ => rfl) (fun _ => rfl) (fs2 := [.int 0, .int 0, .ref 63, .ref 64, .ref 65, .ref 66, .ref 67, .ref 68, .ref 69, .ref 70, .ref 71, .ref 72, .int 0, .ref 73, .ref 74, .null, .null, .int 0, .null, .null, .null, .null, .int 0, .int 0, .int 0, .null, .int 0, .int 0, .int 0, .int 0, .int 0, .int 0, .int 0, .int 0, .long 0, .null, .int 0, .int 0, .null, .null, .null, .null, .int 0, .null, .null, .null, .null, .null, .null, .int 0, .int 0, .null, .null, .null, .null, .null, .null, .null, .null, .null]) rfl (pc2 := 102) rfl ?_
  refine J_aload_n dX12_init_102 rfl ?_
  refine J_bipush (v := 13) dX12_init_103 (by decide) ?_
  refine Z_newI (N := 13) dX12_init_105 (by decide) (by decide) (by decide) (by decide) (by decide) (hG 75 (by decide) (by decide)) ?_
  refine Z_putF dX12_init_107 qX12_47 rfl (by decide) (Nat.le_of_ble_eq_true rfl) (fun _ => rfl) (fun _ => rfl) (fs2 := [.int 0, .int 0, .ref 63, .ref 64, .ref 65, .ref 66, .ref 67, .ref 68, .ref 69, .ref 70, .ref 71, .ref 72, .int 0, .ref 73, .ref 74, .ref 75, .null, .int 0, .null, .null, .null, .null, .int 0, .int 0, .int 0, .null, .int 0, .int 0, .int 0, .int 0, .int 0, .int 0, .int 0, .int 0, .long 0, .null, .int 0, .int 0, .null, .null, .null, .null, .int 0, .null, .null, .null, .null, .null, .null, .int 0, .int 0, .null, .null, .null, .null, .null, .null, .null, .null, .null]) rfl (pc2 := 110) rfl ?_
  refine J_aload_n dX12_init_110 rfl ?_
  refine J_bipush (v := 12) dX12_init_111 (by decide) ?_
  refine Z_newZ (N := 12) dX12_init_113 (by decide) (by decide) (by decide) (by decide) (by decide) (hG 76 (by decide) (by decide)) ?_
  refine Z_putF dX12_init_115 qX12_50 rfl (by decide) (Nat.le_of_ble_eq_true rfl) (fun _ => rfl) (fun _ => rfl) (fs2 := [.int 0, .int 0, .ref 63, .ref 64, .ref 65, .ref 66, .ref 67, .ref 68, .ref 69, .ref 70, .ref 71, .ref 72, .int 0, .ref 73, .ref 74, .ref 75, .ref 76, .int 0, .null, .null, .null, .null, .int 0, .int 0, .int 0, .null, .int 0, .int 0, .int 0, .int 0, .int 0, .int 0, .int 0, .int 0, .long 0, .null, .int 0, .int 0, .null, .null, .null, .null, .int 0, .null, .null, .null, .null, .null, .null, .int 0, .int 0, .null, .null, .null, .null, .null, .null, .null, .null, .null]) rfl (pc2 := 118) rfl ?_
  refine J_aload_n dX12_init_118 rfl ?_
  refine J_sipush (v := 600) dX12_init_119 (by decide) ?_
  refine Z_newI (N := 600) dX12_init_122 (by decide) (by decide) (by decide) (by decide) (by decide) (hG 77 (by decide) (by decide)) ?_
  refine Z_putF dX12_init_124 qX12_53 rfl (by decide) (Nat.le_of_ble_eq_true rfl) (fun _ => rfl) (fun _ => rfl) (fs2 := [.int 0, .int 0, .ref 63, .ref 64, .ref 65, .ref 66, .ref 67, .ref 68, .ref 69, .ref 70, .ref 71, .ref 72, .int 0, .ref 73, .ref 74, .ref 75, .ref 76, .int 0, .ref 77, .null, .null, .null, .int 0, .int 0, .int 0, .null, .int 0, .int 0, .int 0, .int 0, .int 0, .int 0, .int 0, .int 0, .long 0, .null, .int 0, .int 0, .null, .null, .null, .null, .int 0, .null, .null, .null, .null, .null, .null, .int 0, .int 0, .null, .null, .null, .null, .null, .null, .null, .null, .null]) rfl (pc2 := 127) rfl ?_
  refine J_aload_n dX12_init_127 rfl ?_
  refine J_sipush (v := 600) dX12_init_128 (by decide) ?_
  refine Z_newI (N := 600) dX12_init_131 (by decide) (by decide) (by decide) (by decide) (by decide) (hG 78 (by decide) (by decide)) ?_
  refine Z_putF dX12_init_133 qX12_56 rfl (by decide) (Nat.le_of_ble_eq_true rfl) (fun _ => rfl) (fun _ => rfl) (fs2 := [.int 0, .int 0, .ref 63, .ref 64, .ref 65, .ref 66, .ref 67, .ref 68, .ref 69, .ref 70, .ref 71, .ref 72, .int 0, .ref 73, .ref 74, .ref 75, .ref 76, .int 0, .ref 77, .ref 78, .null, .null, .int 0, .int 0, .int 0, .null, .int 0, .int 0, .int 0, .int 0, .int 0, .int 0, .int 0, .int 0, .long 0, .null, .int 0, .int 0, .null, .null, .null, .null, .int 0, .null, .null, .null, .null, .null, .null, .int 0, .int 0, .null, .null, .null, .null, .null, .null, .null, .null, .null]) rfl (pc2 := 136) rfl ?_
  refine J_aload_n dX12_init_136 rfl ?_
  refine J_bipush (v := 13) dX12_init_137 (by decide) ?_
  refine Z_newI (N := 13) dX12_init_139 (by decide) (by decide) (by decide) (by decide) (by decide) (hG 79 (by decide) (by decide)) ?_
  refine Z_putF dX12_init_141 qX12_59 rfl (by decide) (Nat.le_of_ble_eq_true rfl) (fun _ => rfl) (fun _ => rfl) (fs2 := [.int 0, .int 0, .ref 63, .ref 64, .ref 65, .ref 66, .ref 67, .ref 68, .ref 69, .ref 70, .ref 71, .ref 72, .int 0, .ref 73, .ref 74, .ref 75, .ref 76, .int 0, .ref 77, .ref 78, .ref 79, .null, .int 0, .int 0, .int 0, .null, .int 0, .int 0, .int 0, .int 0, .int 0, .int 0, .int 0, .int 0, .long 0, .null, .int 0, .int 0, .null, .null, .null, .null, .int 0, .null, .null, .null, .null, .null, .null, .int 0, .int 0, .null, .null, .null, .null, .null, .null, .null, .null, .null]) rfl (pc2 := 144) rfl ?_
  refine J_aload_n dX12_init_144 rfl ?_
  refine J_bipush (v := 12) dX12_init_145 (by decide) ?_
  refine Z_newZ (N := 12) dX12_init_147 (by decide) (by decide) (by decide) (by decide) (by decide) (hG 80 (by decide) (by decide)) ?_
  refine Z_putF dX12_init_149 qX12_62 rfl (by decide) (Nat.le_of_ble_eq_true rfl) (fun _ => rfl) (fun _ => rfl) (fs2 := [.int 0, .int 0, .ref 63, .ref 64, .ref 65, .ref 66, .ref 67, .ref 68, .ref 69, .ref 70, .ref 71, .ref 72, .int 0, .ref 73, .ref 74, .ref 75, .ref 76, .int 0, .ref 77, .ref 78, .ref 79, .ref 80, .int 0, .int 0, .int 0, .null, .int 0, .int 0, .int 0, .int 0, .int 0, .int 0, .int 0, .int 0, .long 0, .null, .int 0, .int 0, .null, .null, .null, .null, .int 0, .null, .null, .null, .null, .null, .null, .int 0, .int 0, .null, .null, .null, .null, .null, .null, .null, .null, .null]) rfl (pc2 := 152) rfl ?_
  refine J_aload_n dX12_init_152 rfl ?_
  refine J_sipush (v := 1000) dX12_init_153 (by decide) ?_
  refine Z_newI (N := 1000) dX12_init_156 (by decide) (by decide) (by decide) (by decide) (by decide) (hG 81 (by decide) (by decide)) ?_
  refine Z_putF dX12_init_158 qX12_65 rfl (by decide) (Nat.le_of_ble_eq_true rfl) (fun _ => rfl) (fun _ => rfl) (fs2 := [.int 0, .int 0, .ref 63, .ref 64, .ref 65, .ref 66, .ref 67, .ref 68, .ref 69, .ref 70, .ref 71, .ref 72, .int 0, .ref 73, .ref 74, .ref 75, .ref 76, .int 0, .ref 77, .ref 78, .ref 79, .ref 80, .int 0, .int 0, .int 0, .ref 81, .int 0, .int 0, .int 0, .int 0, .int 0, .int 0, .int 0, .int 0, .long 0, .null, .int 0, .int 0, .null, .null, .null, .null, .int 0, .null, .null, .null, .null, .null, .null, .int 0, .int 0, .null, .null, .null, .null, .null, .null, .null, .null, .null]) rfl (pc2 := 161) rfl ?_
  refine J_aload_n dX12_init_161 rfl ?_
  refine J_iconst (v := -1) dX12_init_162 (by decide) ?_
  refine Z_put dX12_init_163 pX12_68 (by decide) (Nat.le_of_ble_eq_true rfl) (fun _ => rfl) (fun _ => rfl) (fs2 := [.int 0, .int 0, .ref 63, .ref 64, .ref 65, .ref 66, .ref 67, .ref 68, .ref 69, .ref 70, .ref 71, .ref 72, .int 0, .ref 73, .ref 74, .ref 75, .ref 76, .int 0, .ref 77, .ref 78, .ref 79, .ref 80, .int 0, .int 0, .int 0, .ref 81, .int 0, .int 0, .int (-1), .int 0, .int 0, .int 0, .int 0, .int 0, .long 0, .null, .int 0, .int 0, .null, .null, .null, .null, .int 0, .null, .null, .null, .null, .null, .null, .int 0, .int 0, .null, .null, .null, .null, .null, .null, .null, .null, .null]) rfl (pc2 := 166) rfl ?_
  refine J_aload_n dX12_init_166 rfl ?_
  refine J_sipush (v := 400) dX12_init_167 (by decide) ?_
  refine Z_newI (N := 400) dX12_init_170 (by decide) (by decide) (by decide) (by decide) (by decide) (hG 82 (by decide) (by decide)) ?_
  refine Z_putF dX12_init_172 qX12_72 rfl (by decide) (Nat.le_of_ble_eq_true rfl) (fun _ => rfl) (fun _ => rfl) (fs2 := [.int 0, .int 0, .ref 63, .ref 64, .ref 65, .ref 66, .ref 67, .ref 68, .ref 69, .ref 70, .ref 71, .ref 72, .int 0, .ref 73, .ref 74, .ref 75, .ref 76, .int 0, .ref 77, .ref 78, .ref 79, .ref 80, .int 0, .int 0, .int 0, .ref 81, .int 0, .int 0, .int (-1), .int 0, .int 0, .int 0, .int 0, .int 0, .long 0, .ref 82, .int 0, .int 0, .null, .null, .null, .null, .int 0, .null, .null, .null, .null, .null, .null, .int 0, .int 0, .null, .null, .null, .null, .null, .null, .null, .null, .null]) rfl (pc2 := 175) rfl ?_
  refine J_aload_n dX12_init_175 rfl ?_
  refine J_sipush (v := 400) dX12_init_176 (by decide) ?_
  refine Z_newI (N := 400) dX12_init_179 (by decide) (by decide) (by decide) (by decide) (by decide) (hG 83 (by decide) (by decide)) ?_
  refine Z_putF dX12_init_181 qX12_75 rfl (by decide) (Nat.le_of_ble_eq_true rfl) (fun _ => rfl) (fun _ => rfl) (fs2 := [.int 0, .int 0, .ref 63, .ref 64, .ref 65, .ref 66, .ref 67, .ref 68, .ref 69, .ref 70, .ref 71, .ref 72, .int 0, .ref 73, .ref 74, .ref 75, .ref 76, .int 0, .ref 77, .ref 78, .ref 79, .ref 80, .int 0, .int 0, .int 0, .ref 81, .int 0, .int 0, .int (-1), .int 0, .int 0, .int 0, .int 0, .int 0, .long 0, .ref 82, .int 0, .int 0, .ref 83, .null, .null, .null, .int 0, .null, .null, .null, .null, .null, .null, .int 0, .int 0, .null, .null, .null, .null, .null, .null, .null, .null, .null]) rfl (pc2 := 184) rfl ?_
  refine J_aload_n dX12_init_184 rfl ?_
  refine J_bipush (v := 14) dX12_init_185 (by decide) ?_
  refine Z_newI (N := 14) dX12_init_187 (by decide) (by decide) (by decide) (by decide) (by decide) (hG 84 (by decide) (by decide)) ?_
  refine Z_putF dX12_init_189 qX12_78 rfl (by decide) (Nat.le_of_ble_eq_true rfl) (fun _ => rfl) (fun _ => rfl) (fs2 := [.int 0, .int 0, .ref 63, .ref 64, .ref 65, .ref 66, .ref 67, .ref 68, .ref 69, .ref 70, .ref 71, .ref 72, .int 0, .ref 73, .ref 74, .ref 75, .ref 76, .int 0, .ref 77, .ref 78, .ref 79, .ref 80, .int 0, .int 0, .int 0, .ref 81, .int 0, .int 0, .int (-1), .int 0, .int 0, .int 0, .int 0, .int 0, .long 0, .ref 82, .int 0, .int 0, .ref 83, .ref 84, .null, .null, .int 0, .null, .null, .null, .null, .null, .null, .int 0, .int 0, .null, .null, .null, .null, .null, .null, .null, .null, .null]) rfl (pc2 := 192) rfl ?_
  refine J_aload_n dX12_init_192 rfl ?_
  refine J_bipush (v := 12) dX12_init_193 (by decide) ?_
  refine Z_newI (N := 12) dX12_init_195 (by decide) (by decide) (by decide) (by decide) (by decide) (hG 85 (by decide) (by decide)) ?_
  refine Z_putF dX12_init_197 qX12_81 rfl (by decide) (Nat.le_of_ble_eq_true rfl) (fun _ => rfl) (fun _ => rfl) (fs2 := [.int 0, .int 0, .ref 63, .ref 64, .ref 65, .ref 66, .ref 67, .ref 68, .ref 69, .ref 70, .ref 71, .ref 72, .int 0, .ref 73, .ref 74, .ref 75, .ref 76, .int 0, .ref 77, .ref 78, .ref 79, .ref 80, .int 0, .int 0, .int 0, .ref 81, .int 0, .int 0, .int (-1), .int 0, .int 0, .int 0, .int 0, .int 0, .long 0, .ref 82, .int 0, .int 0, .ref 83, .ref 84, .ref 85, .null, .int 0, .null, .null, .null, .null, .null, .null, .int 0, .int 0, .null, .null, .null, .null, .null, .null, .null, .null, .null]) rfl (pc2 := 200) rfl ?_
  refine J_aload_n dX12_init_200 rfl ?_
  refine J_bipush (v := 12) dX12_init_201 (by decide) ?_
  refine Z_newI (N := 12) dX12_init_203 (by decide) (by decide) (by decide) (by decide) (by decide) (hG 86 (by decide) (by decide)) ?_
  refine Z_putF dX12_init_205 qX12_84 rfl (by decide) (Nat.le_of_ble_eq_true rfl) (fun _ => rfl) (fun _ => rfl) (fs2 := [.int 0, .int 0, .ref 63, .ref 64, .ref 65, .ref 66, .ref 67, .ref 68, .ref 69, .ref 70, .ref 71, .ref 72, .int 0, .ref 73, .ref 74, .ref 75, .ref 76, .int 0, .ref 77, .ref 78, .ref 79, .ref 80, .int 0, .int 0, .int 0, .ref 81, .int 0, .int 0, .int (-1), .int 0, .int 0, .int 0, .int 0, .int 0, .long 0, .ref 82, .int 0, .int 0, .ref 83, .ref 84, .ref 85, .ref 86, .int 0, .null, .null, .null, .null, .null, .null, .int 0, .int 0, .null, .null, .null, .null, .null, .null, .null, .null, .null]) rfl (pc2 := 208) rfl ?_
  refine J_aload_n dX12_init_208 rfl ?_
  refine J_iconst (v := 4) dX12_init_209 (by decide) ?_
  refine Z_newI (N := 4) dX12_init_210 (by decide) (by decide) (by decide) (by decide) (by decide) (hG 87 (by decide) (by decide)) ?_
  refine Z_putF dX12_init_212 qX12_87 rfl (by decide) (Nat.le_of_ble_eq_true rfl) (fun _ => rfl) (fun _ => rfl) (fs2 := [.int 0, .int 0, .ref 63, .ref 64, .ref 65, .ref 66, .ref 67, .ref 68, .ref 69, .ref 70, .ref 71, .ref 72, .int 0, .ref 73, .ref 74, .ref 75, .ref 76, .int 0, .ref 77, .ref 78, .ref 79, .ref 80, .int 0, .int 0, .int 0, .ref 81, .int 0, .int 0, .int (-1), .int 0, .int 0, .int 0, .int 0, .int 0, .long 0, .ref 82, .int 0, .int 0, .ref 83, .ref 84, .ref 85, .ref 86, .int 0, .ref 87, .null, .null, .null, .null, .null, .int 0, .int 0, .null, .null, .null, .null, .null, .null, .null, .null, .null]) rfl (pc2 := 215) rfl ?_
  refine J_aload_n dX12_init_215 rfl ?_
  refine J_bipush (v := 80) dX12_init_216 (by decide) ?_
  refine Z_newI (N := 80) dX12_init_218 (by decide) (by decide) (by decide) (by decide) (by decide) (hG 88 (by decide) (by decide)) ?_
  refine Z_putF dX12_init_220 qX12_90 rfl (by decide) (Nat.le_of_ble_eq_true rfl) (fun _ => rfl) (fun _ => rfl) (fs2 := [.int 0, .int 0, .ref 63, .ref 64, .ref 65, .ref 66, .ref 67, .ref 68, .ref 69, .ref 70, .ref 71, .ref 72, .int 0, .ref 73, .ref 74, .ref 75, .ref 76, .int 0, .ref 77, .ref 78, .ref 79, .ref 80, .int 0, .int 0, .int 0, .ref 81, .int 0, .int 0, .int (-1), .int 0, .int 0, .int 0, .int 0, .int 0, .long 0, .ref 82, .int 0, .int 0, .ref 83, .ref 84, .ref 85, .ref 86, .int 0, .ref 87, .ref 88, .null, .null, .null, .null, .int 0, .int 0, .null, .null, .null, .null, .null, .null, .null, .null, .null]) rfl (pc2 := 223) rfl ?_
  refine J_aload_n dX12_init_223 rfl ?_
  refine J_bipush (v := 80) dX12_init_224 (by decide) ?_
  refine Z_newI (N := 80) dX12_init_226 (by decide) (by decide) (by decide) (by decide) (by decide) (hG 89 (by decide) (by decide)) ?_
  refine Z_putF dX12_init_228 qX12_93 rfl (by decide) (Nat.le_of_ble_eq_true rfl) (fun _ => rfl) (fun _ => rfl) (fs2 := [.int 0, .int 0, .ref 63, .ref 64, .ref 65, .ref 66, .ref 67, .ref 68, .ref 69, .ref 70, .ref 71, .ref 72, .int 0, .ref 73, .ref 74, .ref 75, .ref 76, .int 0, .ref 77, .ref 78, .ref 79, .ref 80, .int 0, .int 0, .int 0, .ref 81, .int 0, .int 0, .int (-1), .int 0, .int 0, .int 0, .int 0, .int 0, .long 0, .ref 82, .int 0, .int 0, .ref 83, .ref 84, .ref 85, .ref 86, .int 0, .ref 87, .ref 88, .ref 89, .null, .null, .null, .int 0, .int 0, .null, .null, .null, .null, .null, .null, .null, .null, .null]) rfl (pc2 := 231) rfl ?_
  refine J_aload_n dX12_init_231 rfl ?_
  refine J_iconst (v := 4) dX12_init_232 (by decide) ?_
  refine Z_newI (N := 4) dX12_init_233 (by decide) (by decide) (by decide) (by decide) (by decide) (hG 90 (by decide) (by decide)) ?_
  refine Z_putF dX12_init_235 qX12_96 rfl (by decide) (Nat.le_of_ble_eq_true rfl) (fun _ => rfl) (fun _ => rfl) (fs2 := [.int 0, .int 0, .ref 63, .ref 64, .ref 65, .ref 66, .ref 67, .ref 68, .ref 69, .ref 70, .ref 71, .ref 72, .int 0, .ref 73, .ref 74, .ref 75, .ref 76, .int 0, .ref 77, .ref 78, .ref 79, .ref 80, .int 0, .int 0, .int 0, .ref 81, .int 0, .int 0, .int (-1), .int 0, .int 0, .int 0, .int 0, .int 0, .long 0, .ref 82, .int 0, .int 0, .ref 83, .ref 84, .ref 85, .ref 86, .int 0, .ref 87, .ref 88, .ref 89, .ref 90, .null, .null, .int 0, .int 0, .null, .null, .null, .null, .null, .null, .null, .null, .null]) rfl (pc2 := 238) rfl ?_
  refine J_aload_n dX12_init_238 rfl ?_
  refine J_bipush (v := 8) dX12_init_239 (by decide) ?_
  refine Z_newI (N := 8) dX12_init_241 (by decide) (by decide) (by decide) (by decide) (by decide) (hG 91 (by decide) (by decide)) ?_
  refine Z_putF dX12_init_243 qX12_99 rfl (by decide) (Nat.le_of_ble_eq_true rfl) (fun _ => rfl) (fun _ => rfl) (fs2 := [.int 0, .int 0, .ref 63, .ref 64, .ref 65, .ref 66, .ref 67, .ref 68, .ref 69, .ref 70, .ref 71, .ref 72, .int 0, .ref 73, .ref 74, .ref 75, .ref 76, .int 0, .ref 77, .ref 78, .ref 79, .ref 80, .int 0, .int 0, .int 0, .ref 81, .int 0, .int 0, .int (-1), .int 0, .int 0, .int 0, .int 0, .int 0, .long 0, .ref 82, .int 0, .int 0, .ref 83, .ref 84, .ref 85, .ref 86, .int 0, .ref 87, .ref 88, .ref 89, .ref 90, .ref 91, .null, .int 0, .int 0, .null, .null, .null, .null, .null, .null, .null, .null, .null]) rfl (pc2 := 246) rfl ?_
  refine J_aload_n dX12_init_246 rfl ?_
  refine J_iconst (v := 3) dX12_init_247 (by decide) ?_
  refine Z_newI (N := 3) dX12_init_248 (by decide) (by decide) (by decide) (by decide) (by decide) (hG 92 (by decide) (by decide)) ?_
  refine Z_putF dX12_init_250 qX12_102 rfl (by decide) (Nat.le_of_ble_eq_true rfl) (fun _ => rfl) (fun _ => rfl) (fs2 := [.int 0, .int 0, .ref 63, .ref 64, .ref 65, .ref 66, .ref 67, .ref 68, .ref 69, .ref 70, .ref 71, .ref 72, .int 0, .ref 73, .ref 74, .ref 75, .ref 76, .int 0, .ref 77, .ref 78, .ref 79, .ref 80, .int 0, .int 0, .int 0, .ref 81, .int 0, .int 0, .int (-1), .int 0, .int 0, .int 0, .int 0, .int 0, .long 0, .ref 82, .int 0, .int 0, .ref 83, .ref 84, .ref 85, .ref 86, .int 0, .ref 87, .ref 88, .ref 89, .ref 90, .ref 91, .ref 92, .int 0, .int 0, .null, .null, .null, .null, .null, .null, .null, .null, .null]) rfl (pc2 := 253) rfl ?_
  refine J_aload_n dX12_init_253 rfl ?_
  refine J_sipush (v := 2000) dX12_init_254 (by decide) ?_
  refine Z_newI (N := 2000) dX12_init_257 (by decide) (by decide) (by decide) (by decide) (by decide) (hG 93 (by decide) (by decide)) ?_
  refine Z_putF dX12_init_259 qX12_105 rfl (by decide) (Nat.le_of_ble_eq_true rfl) (fun _ => rfl) (fun _ => rfl) (fs2 := [.int 0, .int 0, .ref 63, .ref 64, .ref 65, .ref 66, .ref 67, .ref 68, .ref 69, .ref 70, .ref 71, .ref 72, .int 0, .ref 73, .ref 74, .ref 75, .ref 76, .int 0, .ref 77, .ref 78, .ref 79, .ref 80, .int 0, .int 0, .int 0, .ref 81, .int 0, .int 0, .int (-1), .int 0, .int 0, .int 0, .int 0, .int 0, .long 0, .ref 82, .int 0, .int 0, .ref 83, .ref 84, .ref 85, .ref 86, .int 0, .ref 87, .ref 88, .ref 89, .ref 90, .ref 91, .ref 92, .int 0, .int 0, .ref 93, .null, .null, .null, .null, .null, .null, .null, .null]) rfl (pc2 := 262) rfl ?_
  refine J_aload_n dX12_init_262 rfl ?_
  refine J_sipush (v := 2000) dX12_init_263 (by decide) ?_
  refine Z_newI (N := 2000) dX12_init_266 (by decide) (by decide) (by decide) (by decide) (by decide) (hG 94 (by decide) (by decide)) ?_
  refine Z_putF dX12_init_268 qX12_108 rfl (by decide) (Nat.le_of_ble_eq_true rfl) (fun _ => rfl) (fun _ => rfl) (fs2 := [.int 0, .int 0, .ref 63, .ref 64, .ref 65, .ref 66, .ref 67, .ref 68, .ref 69, .ref 70, .ref 71, .ref 72, .int 0, .ref 73, .ref 74, .ref 75, .ref 76, .int 0, .ref 77, .ref 78, .ref 79, .ref 80, .int 0, .int 0, .int 0, .ref 81, .int 0, .int 0, .int (-1), .int 0, .int 0, .int 0, .int 0, .int 0, .long 0, .ref 82, .int 0, .int 0, .ref 83, .ref 84, .ref 85, .ref 86, .int 0, .ref 87, .ref 88, .ref 89, .ref 90, .ref 91, .ref 92, .int 0, .int 0, .ref 93, .ref 94, .null, .null, .null, .null, .null, .null, .null]) rfl (pc2 := 271) rfl ?_
  refine J_aload_n dX12_init_271 rfl ?_
  refine J_sipush (v := 2000) dX12_init_272 (by decide) ?_
  refine Z_newI (N := 2000) dX12_init_275 (by decide) (by decide) (by decide) (by decide) (by decide) (hG 95 (by decide) (by decide)) ?_
  refine Z_putF dX12_init_277 qX12_111 rfl (by decide) (Nat.le_of_ble_eq_true rfl) (fun _ => rfl) (fun _ => rfl) (fs2 := [.int 0, .int 0, .ref 63, .ref 64, .ref 65, .ref 66, .ref 67, .ref 68, .ref 69, .ref 70, .ref 71, .ref 72, .int 0, .ref 73, .ref 74, .ref 75, .ref 76, .int 0, .ref 77, .ref 78, .ref 79, .ref 80, .int 0, .int 0, .int 0, .ref 81, .int 0, .int 0, .int (-1), .int 0, .int 0, .int 0, .int 0, .int 0, .long 0, .ref 82, .int 0, .int 0, .ref 83, .ref 84, .ref 85, .ref 86, .int 0, .ref 87, .ref 88, .ref 89, .ref 90, .ref 91, .ref 92, .int 0, .int 0, .ref 93, .ref 94, .ref 95, .null, .null, .null, .null, .null, .null]) rfl (pc2 := 280) rfl ?_
  refine J_aload_n dX12_init_280 rfl ?_
  refine J_sipush (v := 200) dX12_init_281 (by decide) ?_
  refine Z_newI (N := 200) dX12_init_284 (by decide) (by decide) (by decide) (by decide) (by decide) (hG 96 (by decide) (by decide)) ?_
  refine Z_putF dX12_init_286 qX12_114 rfl (by decide) (Nat.le_of_ble_eq_true rfl) (fun _ => rfl) (fun _ => rfl) (fs2 := [.int 0, .int 0, .ref 63, .ref 64, .ref 65, .ref 66, .ref 67, .ref 68, .ref 69, .ref 70, .ref 71, .ref 72, .int 0, .ref 73, .ref 74, .ref 75, .ref 76, .int 0, .ref 77, .ref 78, .ref 79, .ref 80, .int 0, .int 0, .int 0, .ref 81, .int 0, .int 0, .int (-1), .int 0, .int 0, .int 0, .int 0, .int 0, .long 0, .ref 82, .int 0, .int 0, .ref 83, .ref 84, .ref 85, .ref 86, .int 0, .ref 87, .ref 88, .ref 89, .ref 90, .ref 91, .ref 92, .int 0, .int 0, .ref 93, .ref 94, .ref 95, .ref 96, .null, .null, .null, .null, .null]) rfl (pc2 := 289) rfl ?_
  refine J_aload_n dX12_init_289 rfl ?_
  refine J_sipush (v := 200) dX12_init_290 (by decide) ?_
  refine Z_newI (N := 200) dX12_init_293 (by decide) (by decide) (by decide) (by decide) (by decide) (hG 97 (by decide) (by decide)) ?_
  refine Z_putF dX12_init_295 qX12_117 rfl (by decide) (Nat.le_of_ble_eq_true rfl) (fun _ => rfl) (fun _ => rfl) (fs2 := [.int 0, .int 0, .ref 63, .ref 64, .ref 65, .ref 66, .ref 67, .ref 68, .ref 69, .ref 70, .ref 71, .ref 72, .int 0, .ref 73, .ref 74, .ref 75, .ref 76, .int 0, .ref 77, .ref 78, .ref 79, .ref 80, .int 0, .int 0, .int 0, .ref 81, .int 0, .int 0, .int (-1), .int 0, .int 0, .int 0, .int 0, .int 0, .long 0, .ref 82, .int 0, .int 0, .ref 83, .ref 84, .ref 85, .ref 86, .int 0, .ref 87, .ref 88, .ref 89, .ref 90, .ref 91, .ref 92, .int 0, .int 0, .ref 93, .ref 94, .ref 95, .ref 96, .ref 97, .null, .null, .null, .null]) rfl (pc2 := 298) rfl ?_
  refine J_aload_n dX12_init_298 rfl ?_
  refine J_sipush (v := 200) dX12_init_299 (by decide) ?_
  refine Z_newI (N := 200) dX12_init_302 (by decide) (by decide) (by decide) (by decide) (by decide) (hG 98 (by decide) (by decide)) ?_
  refine Z_putF dX12_init_304 qX12_120 rfl (by decide) (Nat.le_of_ble_eq_true rfl) (fun _ => rfl) (fun _ => rfl) (fs2 := [.int 0, .int 0, .ref 63, .ref 64, .ref 65, .ref 66, .ref 67, .ref 68, .ref 69, .ref 70, .ref 71, .ref 72, .int 0, .ref 73, .ref 74, .ref 75, .ref 76, .int 0, .ref 77, .ref 78, .ref 79, .ref 80, .int 0, .int 0, .int 0, .ref 81, .int 0, .int 0, .int (-1), .int 0, .int 0, .int 0, .int 0, .int 0, .long 0, .ref 82, .int 0, .int 0, .ref 83, .ref 84, .ref 85, .ref 86, .int 0, .ref 87, .ref 88, .ref 89, .ref 90, .ref 91, .ref 92, .int 0, .int 0, .ref 93, .ref 94, .ref 95, .ref 96, .ref 97, .ref 98, .null, .null, .null]) rfl (pc2 := 307) rfl ?_
  refine J_aload_n dX12_init_307 rfl ?_
  refine J_sipush (v := 200) dX12_init_308 (by decide) ?_
  refine Z_newI (N := 200) dX12_init_311 (by decide) (by decide) (by decide) (by decide) (by decide) (hG 99 (by decide) (by decide)) ?_
  refine Z_putF dX12_init_313 qX12_123 rfl (by decide) (Nat.le_of_ble_eq_true rfl) (fun _ => rfl) (fun _ => rfl) (fs2 := [.int 0, .int 0, .ref 63, .ref 64, .ref 65, .ref 66, .ref 67, .ref 68, .ref 69, .ref 70, .ref 71, .ref 72, .int 0, .ref 73, .ref 74, .ref 75, .ref 76, .int 0, .ref 77, .ref 78, .ref 79, .ref 80, .int 0, .int 0, .int 0, .ref 81, .int 0, .int 0, .int (-1), .int 0, .int 0, .int 0, .int 0, .int 0, .long 0, .ref 82, .int 0, .int 0, .ref 83, .ref 84, .ref 85, .ref 86, .int 0, .ref 87, .ref 88, .ref 89, .ref 90, .ref 91, .ref 92, .int 0, .int 0, .ref 93, .ref 94, .ref 95, .ref 96, .ref 97, .ref 98, .ref 99, .null, .null]) rfl (pc2 := 316) rfl ?_
  refine J_aload_n dX12_init_316 rfl ?_
  refine J_sipush (v := 200) dX12_init_317 (by decide) ?_
  refine Z_newI (N := 200) dX12_init_320 (by decide) (by decide) (by decide) (by decide) (by decide) (hG 100 (by decide) (by decide)) ?_
  refine Z_putF dX12_init_322 qX12_126 rfl (by decide) (Nat.le_of_ble_eq_true rfl) (fun _ => rfl) (fun _ => rfl) (fs2 := [.int 0, .int 0, .ref 63, .ref 64, .ref 65, .ref 66, .ref 67, .ref 68, .ref 69, .ref 70, .ref 71, .ref 72, .int 0, .ref 73, .ref 74, .ref 75, .ref 76, .int 0, .ref 77, .ref 78, .ref 79, .ref 80, .int 0, .int 0, .int 0, .ref 81, .int 0, .int 0, .int (-1), .int 0, .int 0, .int 0, .int 0, .int 0, .long 0, .ref 82, .int 0, .int 0, .ref 83, .ref 84, .ref 85, .ref 86, .int 0, .ref 87, .ref 88, .ref 89, .ref 90, .ref 91, .ref 92, .int 0, .int 0, .ref 93, .ref 94, .ref 95, .ref 96, .ref 97, .ref 98, .ref 99, .ref 100, .null]) rfl (pc2 := 325) rfl ?_
  refine J_aload_n dX12_init_325 rfl ?_
  refine J_bipush (v := 20) dX12_init_326 (by decide) ?_
  refine Z_newI (N := 20) dX12_init_328 (by decide) (by decide) (by decide) (by decide) (by decide) (hG 101 (by decide) (by decide)) ?_
  refine Z_putF dX12_init_330 qX12_129 rfl (by decide) (Nat.le_of_ble_eq_true rfl) (fun _ => rfl) (fun _ => rfl) (fs2 := [.int 0, .int 0, .ref 63, .ref 64, .ref 65, .ref 66, .ref 67, .ref 68, .ref 69, .ref 70, .ref 71, .ref 72, .int 0, .ref 73, .ref 74, .ref 75, .ref 76, .int 0, .ref 77, .ref 78, .ref 79, .ref 80, .int 0, .int 0, .int 0, .ref 81, .int 0, .int 0, .int (-1), .int 0, .int 0, .int 0, .int 0, .int 0, .long 0, .ref 82, .int 0, .int 0, .ref 83, .ref 84, .ref 85, .ref 86, .int 0, .ref 87, .ref 88, .ref 89, .ref 90, .ref 91, .ref 92, .int 0, .int 0, .ref 93, .ref 94, .ref 95, .ref 96, .ref 97, .ref 98, .ref 99, .ref 100, .ref 101]) rfl (pc2 := 333) rfl ?_
  exact Z_ret dX12_init_333 rfl (hG 62 (by decide) (by decide)) h

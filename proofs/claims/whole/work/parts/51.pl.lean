def fillF (f : Nat → Int32) (v : Int32) (i : Nat) : Nat → Int32 := fun j => if j < i then v else f j
theorem fillF_0 {f : Nat → Int32} {v : Int32} : fillF f v 0 = f := by
  funext j
  exact if_neg (by omega)
theorem fillF_s {f : Nat → Int32} {v : Int32} {i : Nat} : upd (fillF f v i) i v = fillF f v (i + 1) := by
  funext j
  by_cases h : j = i
  · rw [h, updS]
    exact (if_pos (by omega)).symm
  · rw [updN h]
    unfold fillF
    by_cases h2 : j < i
    · rw [if_pos h2, if_pos (by omega)]
    · rw [if_neg h2, if_neg (by omega)]
theorem fillF_lt {f : Nat → Int32} {v : Int32} {i j : Nat} (h : j < i) : fillF f v i j = v := if_pos h
set_option maxRecDepth 100000 in
set_option maxHeartbeats 1000000 in
theorem tJ_fill_l {d : Nat} {M : Mem} {Φ : Option Int32 → Mem → Prop} {c N : Nat} {v : Int32} (hs : SK c = .inr (.inl (0, N))) (hc : c < NC) (hN : N ≤ 2000) (h : Φ none (wa M c (fillF (M.1 c) v N))) : ∀ m i : Nat, i + m = N → JM noRo d mJ7_fill_53178 5 [some (.ref c), some (.int v), some (.int (nI i)), some (.int (nI N))] [] (wa M c (fillF (M.1 c) v i)) Φ := by
  intro m
  induction m with
  | zero =>
    intro i hi
    refine J_iload_n dJ7_fill_53178_5 rfl ?_
    refine J_iload_n dJ7_fill_53178_6 rfl ?_
    refine J_icmp_ge (tgt := 20) dJ7_fill_53178_7 (by decide) (fun c1 => ?_) (fun c1 => ?_)
    · refine M_vret dJ7_fill_53178_20 rfl ?_
      obtain rfl : i = N := by omega
      exact h
    · exact absurd (nI_le (by omega) (by omega)) c1
  | succ m ih =>
    intro i hi
    refine J_iload_n dJ7_fill_53178_5 rfl ?_
    refine J_iload_n dJ7_fill_53178_6 rfl ?_
    refine J_icmp_ge (tgt := 20) dJ7_fill_53178_7 (by decide) (fun c1 => ?_) (fun c1 => ?_)
    · exact absurd c1 (nI_ge (by omega) (by omega))
    · refine J_aload_n dJ7_fill_53178_10 rfl ?_
      refine J_iload_n dJ7_fill_53178_11 rfl ?_
      refine J_iload_n dJ7_fill_53178_12 rfl ?_
      refine M_iastE dJ7_fill_53178_13 hs ⟨hc, by omega⟩ rfl (by omega) ?_
      rw [wa_wr, fillF_s]
      refine J_iinc (v := nI (i + 1)) dJ7_fill_53178_14 rfl (nI_1 i) (by decide) rfl ?_
      dsimp only [setL]
      refine J_goto (tgt := 5) dJ7_fill_53178_17 (by decide) ?_
      exact ih (i + 1) (by omega)
set_option maxRecDepth 100000 in
set_option maxHeartbeats 1000000 in
theorem tJ_fill {d : Nat} {M : Mem} {Φ : Option Int32 → Mem → Prop} {c N : Nat} {v : Int32} (hs : SK c = .inr (.inl (0, N))) (hc : c < NC) (hN : N ≤ 2000) (h : Φ none (wa M c (fillF (M.1 c) v N))) : JM noRo d mJ7_fill_53178 0 [some (.ref c), some (.int v)] [] M Φ := by
  refine J_iconst (v := 0) dJ7_fill_53178_0 (by decide) ?_
  refine J_istore_n dJ7_fill_53178_1 (by decide) rfl ?_
  dsimp only [setL]
  refine J_aload_n dJ7_fill_53178_2 rfl ?_
  refine M_alen (v := nI N) dJ7_fill_53178_3 hs hc rfl ?_
  refine J_istore_n dJ7_fill_53178_4 (by decide) rfl ?_
  dsimp only [setL]
  have q := tJ_fill_l (d := d) hs hc hN h N 0 (by omega)
  rw [fillF_0, wa_self] at q
  exact q
theorem rv_n1 {r : Nat} (h : ¬ rvI r = 1) : ¬ r = 1 := fun q => h (by rw [q]; rfl)
theorem rv_1 {r : Nat} (h : rvI r = 1) : r = 1 := by
  unfold rvI at h
  by_cases e : r = 0
  · rw [if_pos e] at h; exact absurd h (by decide)
  · rw [if_neg e] at h
    by_cases e1 : r = 1
    · exact e1
    · rw [if_neg e1] at h; exact absurd h (by decide)
set_option maxRecDepth 100000 in
set_option maxHeartbeats 1000000 in
theorem tX6_look {M : Mem} {Φ : Option Int32 → Mem → Prop} {C st : Nat → Nat} {m L n : Nat} {D : Nat} (hD : 5 + n ≤ D) (hW : IW M C st m L n) (h : ∀ N2, CI M N2 C st m (plcM M C st m n).2.1 (plcM M C st m n).2.2 → Φ (some (rvI (plcM M C st m n).1)) (wr N2 29 8 (if (plcM M C st m n).1 = 1 then 1 else 0))) : JM noRo (D + 1) mX6_look 0 [some (.ref 29), some (.int (M.1 62 0))] [] M Φ := by
  unfold plcM at h
  refine J_aload_n dX6_look_0 rfl ?_
  refine J_iload_n dX6_look_1 rfl ?_
  refine M_putI dX6_look_2 pX6_41 rfl rfl (by decide) ?_
  refine J_aload_n dX6_look_5 rfl ?_
  refine J_iconst (v := 0) dX6_look_6 (by decide) ?_
  refine M_putI dX6_look_7 pX6_33 rfl rfl (by decide) ?_
  refine J_aload_n dX6_look_10 rfl ?_
  refine M_getR dX6_look_11 fX6_9 rfl rfl (by decide) ?_
  refine J_iconst (v := -1) dX6_look_14 (by decide) ?_
  refine M_callS2 (mc := mJ7_fill_53178) dX6_look_15 kX6_44 oJ7_fill_53178 (Nat.le_of_ble_eq_true rfl) (Nat.le_of_ble_eq_true rfl) ?_
  refine tJ_fill rfl (by decide) (by decide) ?_
  rw [rd2 (by decide), rd2 (by decide)]
  refine J_aload_n dX6_look_18 rfl ?_
  refine M_getR dX6_look_19 fX6_15 rfl rfl (by decide) ?_
  refine J_iconst (v := 0) dX6_look_22 (by decide) ?_
  refine M_callS2 (mc := mJ7_fill_53178) dX6_look_23 kX6_44 oJ7_fill_53178 (Nat.le_of_ble_eq_true rfl) (Nat.le_of_ble_eq_true rfl) ?_
  refine tJ_fill rfl (by decide) (by decide) ?_
  rw [rdb (by decide), rd2 (by decide), rd2 (by decide)]
  refine J_aload_n dX6_look_26 rfl ?_
  refine M_getR dX6_look_27 fX6_18 rfl rfl (by decide) ?_
  refine J_iconst (v := 0) dX6_look_30 (by decide) ?_
  refine M_callS2 (mc := mJ7_fill_53178) dX6_look_31 kX6_44 oJ7_fill_53178 (Nat.le_of_ble_eq_true rfl) (Nat.le_of_ble_eq_true rfl) ?_
  refine tJ_fill rfl (by decide) (by decide) ?_
  rw [rdb (by decide), rdb (by decide), rd2 (by decide), rd2 (by decide)]
  have hci : CI M (wa (wa (wa (wr (wr M 29 6 (M.1 62 0)) 29 7 0) 30 (fillF (M.1 30) (-1) 12)) 31 (fillF (M.1 31) 0 288)) 32 (fillF (M.1 32) 0 1728)) C st m (fun _ => 0) 0 := by
    refine ⟨fun a ha => ?_, ?_, ?_, fun k hk => ?_, fun j s hj hs => ?_, fun j s f o hj hs hf ho => ?_⟩
    · obtain ⟨q1, q2, q3, q4, q5, q6⟩ := CL6_ne ha
      rw [rdb q6, rdb q5, rdb q4, rd2 q3, rd2 q3]
    · rw [rdb (by decide), rdb (by decide), rdb (by decide), rd3 (by decide), rd1]
    · rw [rdb (by decide), rdb (by decide), rdb (by decide), rd1]; rfl
    · rw [rdb (by decide), rdb (by decide), rda, fillF_lt hk]; rfl
    · left; rw [rdb (by decide), rda, fillF_lt (by omega)]
    · rw [rda, fillF_lt (by omega)]; exact grp_0
  refine J_aload_n dX6_look_34 rfl ?_
  refine J_iconst (v := 0) dX6_look_35 (by decide) ?_
  refine M_callV1 (mc := mX6_place) dX6_look_36 kX6_50 oX6_place (Nat.le_of_ble_eq_true rfl) (Nat.le_of_ble_eq_true rfl) rfl (by decide) rfl ?_
  refine M_more hD (tX6_place hW n 0 (fun _ => 0) 0 _ _ (by omega) hci (fun _ => Nat.zero_le _) (Nat.zero_le _) (fun _ _ => rfl) (fun N2 hc2 => ?_))
  refine J_istore_n dX6_look_39 (by decide) rfl ?_
  dsimp only [setL]
  refine J_aload_n dX6_look_40 rfl ?_
  refine J_iload_n dX6_look_41 rfl ?_
  refine J_iconst (v := 1) dX6_look_42 (by decide) ?_
  refine J_icmp_ne (tgt := 50) dX6_look_43 (by decide) (fun c5 => ?_) (fun c5 => ?_)
  · -- to 50
    refine J_iconst (v := 0) dX6_look_50 (by decide) ?_
    refine M_putZ dX6_look_51 pX6_37 rfl rfl (by decide) (by first | assumption | exact Or.inl rfl | exact Or.inr rfl) ?_
    refine J_iload_n dX6_look_54 rfl ?_
    refine M_iret dX6_look_55 rfl rfl ?_
    first
    | (rw [if_pos (rv_1 c5)] at h; exact h N2 hc2)
    | (rw [if_neg (rv_n1 c5)] at h; exact h N2 hc2)
  · -- on 46
    refine J_iconst (v := 1) dX6_look_46 (by decide) ?_
    refine J_goto (tgt := 51) dX6_look_47 (by decide) ?_
    refine M_putZ dX6_look_51 pX6_37 rfl rfl (by decide) (by first | assumption | exact Or.inl rfl | exact Or.inr rfl) ?_
    refine J_iload_n dX6_look_54 rfl ?_
    refine M_iret dX6_look_55 rfl rfl ?_
    first
    | (rw [if_pos (rv_1 c5)] at h; exact h N2 hc2)
    | (rw [if_neg (rv_n1 c5)] at h; exact h N2 hc2)
set_option maxRecDepth 100000 in
set_option maxHeartbeats 1000000 in
theorem tY_plan {d : Nat} {M : Mem} {Φ : Option Int32 → Mem → Prop} {C st : Nat → Nat} {m L n : Nat} (hW : IW M C st m L n) (h : ∀ N2, CI M N2 C st m (plcM M C st m n).2.1 (plcM M C st m n).2.2 → Φ (some (rvI (plcM M C st m n).1)) (wr N2 29 8 (if (plcM M C st m n).1 = 1 then 1 else 0))) : JM noRo (d + 19) mX11_plan 0 [some (.ref 0)] [] M Φ := by
  refine J_aload_n dX11_plan_0 rfl ?_
  refine M_getR dX11_plan_1 fX11_68 rfl rfl (by decide) ?_
  refine J_aload_n dX11_plan_4 rfl ?_
  refine M_getI dX11_plan_5 fX11_97 rfl rfl (by decide) ?_
  refine M_callV1 (mc := mX6_look) dX11_plan_8 kX11_178 oX6_look (Nat.le_of_ble_eq_true rfl) (Nat.le_of_ble_eq_true rfl) rfl (by decide) rfl ?_
  rw [hW.2.1]
  refine tX6_look (D := d + 17) (by have := hW.2.2.2.1.1; omega) hW (fun N2 hc2 => ?_)
  refine M_iret dX11_plan_11 rfl rfl ?_
  exact h N2 hc2

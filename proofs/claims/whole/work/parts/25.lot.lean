def W2 (M : Mem) (u v : Nat) (f g : Nat → Int32) : Mem := wa (wa M u f) v g
def shF (f : Nat → Int32) (q n : Nat) : Nat → Int32 := fun i => if q < i ∧ i ≤ n then f (i - 1) else f i
theorem W2_1 {M : Mem} {u v : Nat} {f g : Nat → Int32} (h : u ≠ v) : (W2 M u v f g).1 u = f := by simp [W2, wa, h]
theorem W2_2 {M : Mem} {u v : Nat} {f g : Nat → Int32} : (W2 M u v f g).1 v = g := by simp [W2, wa]
theorem W2_o {M : Mem} {u v a : Nat} {f g : Nat → Int32} (h1 : a ≠ u) (h2 : a ≠ v) : (W2 M u v f g).1 a = M.1 a := by simp [W2, wa, h1, h2]
theorem W2_w1 {M : Mem} {u v i : Nat} {f g : Nat → Int32} {x : Int32} (h : u ≠ v) : wr (W2 M u v f g) u i x = W2 M u v (upd f i x) g := by
  refine Mem_ext (fun a => ?_) rfl
  by_cases h1 : a = u
  · subst h1; simp [wr, W2, wa, h]
  · by_cases h2 : a = v
    · subst h2; simp [wr, W2, wa, h1]
    · simp [wr, W2, wa, h1, h2]
theorem W2_w2 {M : Mem} {u v i : Nat} {f g : Nat → Int32} {x : Int32} : wr (W2 M u v f g) v i x = W2 M u v f (upd g i x) := by
  refine Mem_ext (fun a => ?_) rfl
  by_cases h2 : a = v
  · subst h2; simp [wr, W2, wa]
  · simp [wr, W2, wa, h2]
theorem W2_self {M : Mem} {u v : Nat} (h : u ≠ v) : W2 M u v (M.1 u) (M.1 v) = M := by
  refine Mem_ext (fun a => ?_) rfl
  by_cases h2 : a = v
  · subst h2; simp [W2, wa]
  · by_cases h1 : a = u
    · subst h1; simp [W2, wa, h]
    · simp [W2, wa, h1, h2]
theorem shF_lo {f : Nat → Int32} {q n i : Nat} (h : i ≤ q) : shF f q n i = f i := if_neg (by omega)
theorem shF_nn {f : Nat → Int32} {n : Nat} : shF f n n = f := by
  funext i
  exact if_neg (by omega)
theorem shF_dn {f : Nat → Int32} {q n : Nat} (h : q + 1 ≤ n) : upd (shF f (q + 1) n) (q + 1) (f q) = shF f q n := by
  funext i
  by_cases hi : i = q + 1
  · subst hi
    rw [updS]
    simp [shF, h]
  · rw [updN hi]
    unfold shF
    by_cases h1 : q + 1 < i ∧ i ≤ n
    · rw [if_pos h1, if_pos ⟨by omega, h1.2⟩]
    · rw [if_neg h1, if_neg (by omega)]
set_option maxRecDepth 100000 in
set_option maxHeartbeats 1000000 in
theorem tX0_add_t {d : Nat} {M : Mem} {Φ : Option Int32 → Mem → Prop} {k n p : Nat} {x y : Int32} {F G : Nat → Int32} (hB : BinAt k) (hn : M.1 k 3 = nI n) (hp : p < 20) (h : Φ (some (nI (n + 1))) (wr (wr (wr (W2 M (k + 1) (k + 2) F G) (k + 1) p x) (k + 2) p y) k 3 (nI (n + 1)))) : JM noRo d mX0_add 66 [some (.ref k), some (.int x), some (.int y), some (.int (nI p))] [] (W2 M (k + 1) (k + 2) F G) Φ := by
  obtain ⟨sk, sa, sl, sf, lk, la, ll, lf⟩ := hB
  refine J_aload_n dX0_add_66 rfl ?_
  refine M_getR dX0_add_67 fX0_9 sk rfl lk ?_
  refine J_iload_n dX0_add_70 rfl ?_
  refine J_iload_n dX0_add_71 rfl ?_
  refine M_iastE dX0_add_72 sa ⟨la, by decide⟩ (by first | rfl | assumption) (by omega) ?_
  refine J_aload_n dX0_add_73 rfl ?_
  refine M_getR dX0_add_74 fX0_15 sk rfl lk ?_
  refine J_iload_n dX0_add_77 rfl ?_
  refine J_iload_n dX0_add_78 rfl ?_
  refine M_iastE dX0_add_79 sl ⟨ll, by decide⟩ (by first | rfl | assumption) (by omega) ?_
  refine J_aload_n dX0_add_80 rfl ?_
  refine J_dup dX0_add_81 rfl ?_
  refine M_getI dX0_add_82 fX0_21 sk rfl lk ?_
  have e : (wr (wr (W2 M (k + 1) (k + 2) F G) (k + 1) p x) (k + 2) p y).1 k 3 = nI n := by rw [rd2 (by omega), rd2 (by omega), W2_o (by omega) (by omega)]; exact hn
  rw [e]
  refine J_iconst (v := 1) dX0_add_85 (by decide) ?_
  refine J_iadd dX0_add_86 ?_
  rw [nI_1]
  refine M_putI dX0_add_87 pX0_21 sk rfl lk ?_
  refine J_aload_n dX0_add_90 rfl ?_
  refine M_getI dX0_add_91 fX0_21 sk rfl lk ?_
  refine M_iret dX0_add_94 rfl rfl ?_
  rw [rd1]
  exact h
set_option maxRecDepth 100000 in
set_option maxHeartbeats 1000000 in
theorem tX0_add_l {d : Nat} {M : Mem} {Φ : Option Int32 → Mem → Prop} {k n : Nat} {x y : Int32} (hB : BinAt k) (hn : M.1 k 3 = nI n) (hnb : n < 20) (h : ∀ p, p ≤ n → (p = 0 ∨ M.1 (k + 2) (p - 1) ≤ y) → (∀ q, p < q → q ≤ n → y < M.1 (k + 2) (q - 1)) → Φ (some (nI (n + 1))) (wr (wr (wr (W2 M (k + 1) (k + 2) (shF (M.1 (k + 1)) p n) (shF (M.1 (k + 2)) p n)) (k + 1) p x) (k + 2) p y) k 3 (nI (n + 1)))) : ∀ q : Nat, q ≤ n → (∀ r, q < r → r ≤ n → y < M.1 (k + 2) (r - 1)) → JM noRo d mX0_add 16 [some (.ref k), some (.int x), some (.int y), some (.int (nI q))] [] (W2 M (k + 1) (k + 2) (shF (M.1 (k + 1)) q n) (shF (M.1 (k + 2)) q n)) Φ := by
  obtain ⟨sk, sa, sl, sf, lk, la, ll, lf⟩ := id hB
  intro q
  induction q with
  | zero =>
    intro hqn hq
    refine J_iload_n dX0_add_16 rfl ?_
    refine J_if_le (tgt := 66) dX0_add_17 (by decide) (fun c1 => ?_) (fun c1 => ?_)
    · -- to 66
      exact tX0_add_t hB hn (by omega) (h 0 (by omega) (Or.inl rfl) (fun r hr hr2 => hq r hr hr2))
    · -- on 20
      exact absurd (by decide) c1
  | succ q ih =>
    intro hqn hq
    refine J_iload_n dX0_add_16 rfl ?_
    refine J_if_le (tgt := 66) dX0_add_17 (by decide) (fun c1 => ?_) (fun c1 => ?_)
    · -- to 66
      exact absurd c1 (nI_nle (by omega) (by omega))
    · -- on 20
      refine J_aload_n dX0_add_20 rfl ?_
      refine M_getR dX0_add_21 fX0_15 sk rfl lk ?_
      refine J_iload_n dX0_add_24 rfl ?_
      refine J_iconst (v := 1) dX0_add_25 (by decide) ?_
      refine J_isub dX0_add_26 ?_
      refine M_ialdE dX0_add_27 sl ⟨ll, by decide⟩ (nI_pred q) (by omega) ?_
      rw [W2_2, shF_lo (by omega)]
      refine J_iload_n dX0_add_28 rfl ?_
      refine J_icmp_le (tgt := 66) dX0_add_29 (by decide) (fun c2 => ?_) (fun c2 => ?_)
      · -- to 66
        exact tX0_add_t hB hn (by omega) (h (q + 1) (by omega) (Or.inr c2) (fun r hr hr2 => hq r hr hr2))
      · -- on 32
        have cL := c2
        refine J_aload_n dX0_add_32 rfl ?_
        refine M_getR dX0_add_33 fX0_9 sk rfl lk ?_
        refine J_iload_n dX0_add_36 rfl ?_
        refine J_aload_n dX0_add_37 rfl ?_
        refine M_getR dX0_add_38 fX0_9 sk rfl lk ?_
        refine J_iload_n dX0_add_41 rfl ?_
        refine J_iconst (v := 1) dX0_add_42 (by decide) ?_
        refine J_isub dX0_add_43 ?_
        refine M_ialdE dX0_add_44 sa ⟨la, by decide⟩ (nI_pred q) (by omega) ?_
        rw [W2_1 (show k + 1 ≠ k + 2 by omega), shF_lo (by omega)]
        refine M_iastE dX0_add_45 sa ⟨la, by decide⟩ (by first | rfl | assumption) (by omega) ?_
        rw [W2_w1 (show k + 1 ≠ k + 2 by omega)]
        refine J_aload_n dX0_add_46 rfl ?_
        refine M_getR dX0_add_47 fX0_15 sk rfl lk ?_
        refine J_iload_n dX0_add_50 rfl ?_
        refine J_aload_n dX0_add_51 rfl ?_
        refine M_getR dX0_add_52 fX0_15 sk rfl lk ?_
        refine J_iload_n dX0_add_55 rfl ?_
        refine J_iconst (v := 1) dX0_add_56 (by decide) ?_
        refine J_isub dX0_add_57 ?_
        refine M_ialdE dX0_add_58 sl ⟨ll, by decide⟩ (nI_pred q) (by omega) ?_
        rw [W2_2, shF_lo (by omega)]
        refine M_iastE dX0_add_59 sl ⟨ll, by decide⟩ (by first | rfl | assumption) (by omega) ?_
        rw [W2_w2, shF_dn (by omega), shF_dn (by omega)]
        refine J_iinc (v := nI q) dX0_add_60 rfl (pk_m1 q) (by decide) rfl ?_
        dsimp only [setL]
        refine J_goto (tgt := 16) dX0_add_63 (by decide) ?_
        refine ih (by omega) (fun r hr hr2 => ?_)
        by_cases hrq : r = q + 1
        · subst hrq
          exact Int32.not_le.mp cL
        · exact hq r (by omega) hr2
set_option maxRecDepth 100000 in
set_option maxHeartbeats 1000000 in
theorem tX0_add {d : Nat} {M : Mem} {Φ : Option Int32 → Mem → Prop} {k n : Nat} {x y : Int32} (hB : BinAt k) (hn : M.1 k 3 = nI n) (hnb : n ≤ 20) (h0 : n = 20 → Φ (some (-1)) M) (h1 : n < 20 → ∀ p, p ≤ n → (p = 0 ∨ M.1 (k + 2) (p - 1) ≤ y) → (∀ q, p < q → q ≤ n → y < M.1 (k + 2) (q - 1)) → Φ (some (nI (n + 1))) (wr (wr (wr (W2 M (k + 1) (k + 2) (shF (M.1 (k + 1)) p n) (shF (M.1 (k + 2)) p n)) (k + 1) p x) (k + 2) p y) k 3 (nI (n + 1)))) : JM noRo d mX0_add 0 [some (.ref k), some (.int x), some (.int y)] [] M Φ := by
  obtain ⟨sk, sa, sl, sf, lk, la, ll, lf⟩ := id hB
  refine J_aload_n dX0_add_0 rfl ?_
  refine M_getI dX0_add_1 fX0_21 sk rfl lk ?_
  refine J_bipush (v := 20) dX0_add_4 (by decide) ?_
  refine J_icmp_lt (tgt := 11) dX0_add_6 (by decide) (fun c1 => ?_) (fun c1 => ?_)
  · -- to 11
    have hlt : n < 20 := Nat.not_le.mp (fun q => by rw [hn] at c1; exact nI_nlt (a := n) (b := 20) q (by omega) c1)
    refine J_aload_n dX0_add_11 rfl ?_
    refine M_getI dX0_add_12 fX0_21 sk rfl lk ?_
    refine J_istore_n dX0_add_15 (by decide) rfl ?_
    dsimp only [setL]
    have q := tX0_add_l (x := x) (y := y) (d := d) hB hn hlt (h1 hlt) n (Nat.le_refl _) (fun r hr hr2 => absurd hr (by omega))
    rw [shF_nn, shF_nn, W2_self (show k + 1 ≠ k + 2 by omega)] at q
    rw [hn]
    exact q
  · -- on 9
    refine J_iconst (v := -1) dX0_add_9 (by decide) ?_
    refine M_iret dX0_add_10 rfl rfl ?_
    exact h0 (by have hq : ¬ n < 20 := fun q => c1 (by rw [hn]; exact nI_lt (a := n) (b := 20) q (by decide)); omega)

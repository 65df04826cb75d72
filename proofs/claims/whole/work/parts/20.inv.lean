def E1 (M : Mem) : Prop := M.1 2 = M.1 63 ∧ M.1 3 = M.1 64 ∧ M.1 4 = M.1 65 ∧ M.1 5 = M.1 66 ∧ M.1 6 = M.1 68 ∧ M.1 7 = M.1 67 ∧ M.1 9 = M.1 69 ∧ M.1 10 = M.1 70 ∧ M.1 11 = M.1 71 ∧ M.1 12 = M.1 72 ∧ M.1 14 = M.1 81 ∧ M.1 50 = M.1 91 ∧ M.1 61 = M.1 92 ∧ M.1 52 = M.1 93 ∧ M.1 53 = M.1 94 ∧ M.1 54 = M.1 95 ∧ M.1 56 = M.1 96 ∧ M.1 57 = M.1 98 ∧ M.1 58 = M.1 99 ∧ M.1 59 = M.1 100
def E2 (M : Mem) : Prop := M.1 0 12 = M.1 62 0 ∧ M.1 29 7 = M.1 62 42 ∧ M.1 25 4 = M.1 62 27 ∧ M.1 25 5 = M.1 62 28 ∧ M.1 29 8 = M.1 62 12 ∧ (M.1 62 12 = 0 ∨ M.1 62 12 = 1)
def E3 (M : Mem) (n t k w : Nat) : Prop := n ≤ 12 ∧ t ≤ 1000 ∧ k ≤ 2000 ∧ w ≤ 200 ∧ M.1 1 6 = nI n ∧ M.1 62 1 = nI n ∧ M.1 13 1 = nI t ∧ M.1 62 26 = nI t ∧ M.1 51 3 = nI k ∧ M.1 62 49 = nI k ∧ M.1 55 6 = nI w ∧ M.1 62 50 = nI w
def E4 (M : Mem) : Prop := (∀ j, M.1 66 j = 0 ∨ M.1 66 j = 1) ∧ (∀ j, ∃ v : Nat, v ≤ 50 ∧ M.1 68 j = nI v) ∧ (∀ j, ∃ v : Nat, v ≤ 6 ∧ M.1 69 j = nI v)
def latF (c : Int32) (wh ws wd : Nat → Int32) (x y : Int32) : Nat → Int32
  | 0 => c
  | k + 1 => if wh k = x ∧ ws k = y ∧ latF c wh ws wd x y k < wd k then wd k else latF c wh ws wd x y k
def E5 (M : Mem) (n w : Nat) : Prop := (∀ k, k < w → ∃ j, j < n ∧ M.1 96 k = nI j) ∧ ∀ j s, j < n → s < 3 → M.1 60 (j * 3 + s) = latF (M.1 65 j) (M.1 96) (M.1 97) (M.1 98) (nI j) (nI s) w
/-- a bin's lots: amount and last day, in order -/
def B6 (a l c A L C : Nat → Int32) (o : Nat) (b : Nat) : Prop := ∃ xs : List (Int32 × Int32), xs.length ≤ 20 ∧ c 3 = nI xs.length ∧ C b = nI xs.length ∧ (∀ i, i < xs.length → xs[i]? = some (a i, l i) ∧ xs[i]? = some (A (o + i), L (o + i))) ∧ (∀ q ∈ xs, ∃ v : Nat, 1 ≤ v ∧ v ≤ 10000 ∧ q.1 = nI v)
def E6 (M : Mem) : Prop := B6 (M.1 35) (M.1 36) (M.1 34) (M.1 88) (M.1 89) (M.1 87) 0 0 ∧ B6 (M.1 39) (M.1 40) (M.1 38) (M.1 88) (M.1 89) (M.1 87) 20 1 ∧ B6 (M.1 43) (M.1 44) (M.1 42) (M.1 88) (M.1 89) (M.1 87) 40 2 ∧ B6 (M.1 47) (M.1 48) (M.1 46) (M.1 88) (M.1 89) (M.1 87) 60 3 ∧ M.1 34 4 = M.1 90 0 ∧ M.1 38 4 = M.1 90 1 ∧ M.1 42 4 = M.1 90 2 ∧ M.1 46 4 = M.1 90 3
def INV (X : Mem → Prop) (M : Mem) : Prop := E1 M ∧ E2 M ∧ (∃ n t k w, E3 M n t k w ∧ E5 M n w) ∧ E4 M ∧ E6 M ∧ X M
theorem latF_cong {c : Int32} {wh ws wd wh2 ws2 wd2 : Nat → Int32} {x y : Int32} : ∀ {w : Nat}, (∀ k, k < w → wh k = wh2 k ∧ ws k = ws2 k ∧ wd k = wd2 k) → latF c wh ws wd x y w = latF c wh2 ws2 wd2 x y w
  | 0, _ => rfl
  | w + 1, h => by
    obtain ⟨e1, e2, e3⟩ := h w (Nat.lt_succ_self w)
    rw [latF, latF, latF_cong (fun k hk => h k (by omega)), e1, e2, e3]
theorem latF_no {c : Int32} {wh ws wd : Nat → Int32} {x y : Int32} : ∀ {w : Nat}, (∀ k, k < w → wh k ≠ x) → latF c wh ws wd x y w = c
  | 0, _ => rfl
  | w + 1, h => by
    rw [latF, if_neg (fun q => h w (Nat.lt_succ_self w) q.1)]
    exact latF_no (fun k hk => h k (by omega))
theorem updN {f : Nat → Int32} {i j : Nat} {x : Int32} (h : j ≠ i) : upd f i x j = f j := by simp [upd, h]
theorem updS {f : Nat → Int32} {i : Nat} {x : Int32} : upd f i x i = x := by simp [upd]
theorem B6_0 {A L C : Nat → Int32} {o b : Nat} {a l c : Nat → Int32} (h1 : c 3 = 0) (h2 : C b = 0) : B6 a l c A L C o b := ⟨[], by simp, h1, h2, fun i h => by simp at h, fun q h => by simp at h⟩
theorem INV0 {X : Mem → Prop} (h : X M0) : INV X M0 := by
  refine ⟨⟨rfl, rfl, rfl, rfl, rfl, rfl, rfl, rfl, rfl, rfl, rfl, rfl, rfl, rfl, rfl, rfl, rfl, rfl, rfl, rfl⟩, ⟨rfl, rfl, rfl, rfl, rfl, Or.inl rfl⟩, ⟨0, 0, 0, 0, ⟨by decide, by decide, by decide, by decide, rfl, rfl, rfl, rfl, rfl, rfl, rfl, rfl⟩, fun k h => absurd h (by omega), fun j s h => absurd h (by omega)⟩, ⟨fun _ => Or.inl rfl, fun _ => ⟨0, by decide, rfl⟩, fun _ => ⟨0, by decide, rfl⟩⟩, ⟨B6_0 rfl rfl, B6_0 rfl rfl, B6_0 rfl rfl, B6_0 rfl rfl, rfl, rfl, rfl, rfl⟩, h⟩

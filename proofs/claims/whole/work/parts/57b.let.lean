theorem wBy_wch : ∀ w, w < 19 → ∀ i, i < 8 → wBy.getD (w * 8 + i) 0 &&& 255 = nI (wch w i) := by decide +kernel
theorem let_ok : LetOK := fun d M Φ w i hw hi h => tJ_letterOf hw hi ⟨M, rfl, by rw [wBy_wch w hw i hi]; exact h⟩

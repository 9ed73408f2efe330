/-- a law's own cells changed, and it is still as it must be -/
theorem InvB_law {M M1 : MT} (h : InvB M) {i : Nat} (hz : LawZ i) (hc : ∀ j, j < i ∨ i + 10 ≤ j → M1 j = M j) (hL : LwOk M1 i) : InvB M1 := by
  obtain ⟨h1, h2, h3, h4, h5⟩ := h
  have hi : i = 4 ∨ ∃ b, b < 8 ∧ i = 54 + 10 * b := hz
  have e0 : M1 0 = M 0 := hc 0 (by rcases hi with rfl | ⟨b, hb, rfl⟩ <;> omega)
  have e15 : M1 15 = M 15 := hc 15 (by rcases hi with rfl | ⟨b, hb, rfl⟩ <;> omega)
  have e18 : M1 18 = M 18 := hc 18 (by rcases hi with rfl | ⟨b, hb, rfl⟩ <;> omega)
  refine ⟨by rw [e0]; exact h1, by rw [e0]; exact h2, by rw [e15]; exact h3, by rw [e18]; exact h4, fun j hj => ?_⟩
  by_cases e : j = i
  · subst e; exact hL
  · have hl := h5 j hj
    have hj2 : j = 4 ∨ ∃ b, b < 8 ∧ j = 54 + 10 * b := hj
    have a1 : M1 j = M j := hc j (by rcases hi with rfl | ⟨b, hb, rfl⟩ <;> rcases hj2 with rfl | ⟨d, hd, rfl⟩ <;> omega)
    have a2 : M1 (j + 5) = M (j + 5) := hc (j + 5) (by rcases hi with rfl | ⟨b, hb, rfl⟩ <;> rcases hj2 with rfl | ⟨d, hd, rfl⟩ <;> omega)
    unfold LwOk at hl ⊢
    rw [a1, a2]
    exact hl
theorem Kp_law {M0 M M1 : MT} (h : Kp rP M0 M) {i : Nat} (hz : LawZ i) (hc : ∀ j, j < i ∨ i + 10 ≤ j → M1 j = M j) (hL : LwOk M1 i) : Kp rP M0 M1 := by
  have hi : i = 4 ∨ ∃ b, b < 8 ∧ i = 54 + 10 * b := hz
  have e0 : M1 0 = M 0 := hc 0 (by rcases hi with rfl | ⟨b, hb, rfl⟩ <;> omega)
  exact ⟨InvB_law h.1 hz hc hL, by rw [e0]; exact h.2.1, by rw [e0]; exact h.2.2.1, by rw [e0]; exact h.2.2.2.1, by rw [e0]; exact h.2.2.2.2.1, by rw [e0]; exact h.2.2.2.2.2.1, fun j hj => (hc j (by unfold rP at hj; rcases hi with rfl | ⟨b, hb, rfl⟩ <;> omega)).trans (h.2.2.2.2.2.2 j hj)⟩
theorem Kp_lim {M0 M : MT} (h : Kp rP M0 M) {i : Nat} (hz : LawZ i) {k : Nat} (hk : ¬ 4 = k ∧ ¬ 9 = k) (v : Int32) : Kp rP M0 (up2 M i k v) := by
  refine Kp_law h hz (fun j hj => upo (by omega)) ?_
  have hl := h.1.2.2.2.2 i hz
  unfold LwOk at hl ⊢
  rw [up_k hk.1 rfl, up_k hk.2 rfl, upo (show ¬ i + 5 = i by omega)]
  exact hl
theorem Kp_begin {M0 M : MT} (h : Kp rP M0 M) {i : Nat} (hz : LawZ i) (a b : Int32) : Kp rP M0 (s_X1_begin M i a b) := by
  have hl := h.1.2.2.2.2 i hz
  unfold s_X1_begin
  refine Kp_law h hz (fun j hj => by rw [upo (by omega), upo (by omega), upo (by omega), upo (by omega), upo (by omega), upo (by omega)]) ?_
  have z : (0 : Int32).toInt = 0 := by decide
  have n5 : ¬ i + 5 = i := by omega
  unfold LwOk
  rw [up_k (show 4 ≠ 9 by decide) up_s, up_s, upo n5, upo n5, upo n5, upo n5, upo n5, upo n5, z]
  exact ⟨by omega, by omega, hl.2.2⟩
theorem Kp_addClosing {M0 M : MT} (h : Kp rP M0 M) {i : Nat} (hz : LawZ i) (a b e g : Int32) : Kp rP M0 (s_X1_addClosing M i a b e g) := by
  have hl := h.1.2.2.2.2 i hz
  unfold s_X1_addClosing
  by_cases q : (M i 4) < 16
  · rw [if_pos q]
    refine Kp_law h hz (fun j hj => by rw [upo (by omega), upo (by omega), upo (by omega), upo (by omega), upo (by omega)]) ?_
    have e16 : (16 : Int32).toInt = 16 := by decide
    have e1 : (1 : Int32).toInt = 1 := by decide
    rw [Int32.lt_iff_toInt_lt] at q
    have h1 := hl.1
    have a1 := i32_add (x := M i 4) h1.1 (by omega) (k := 1) (by decide) (by decide)
    unfold LwOk
    rw [up_s, up_k (show 9 ≠ 4 by decide) rfl]
    rw [upo (show ¬ i + 5 = i by omega), upo (show ¬ i + 5 = i + 4 by omega), upo (show ¬ i + 5 = i + 3 by omega), upo (show ¬ i + 5 = i + 2 by omega), upo (show ¬ i + 5 = i + 1 by omega)]
    rw [upo (show ¬ i = i + 4 by omega), upo (show ¬ i = i + 3 by omega), upo (show ¬ i = i + 2 by omega), upo (show ¬ i = i + 1 by omega)]
    exact ⟨by omega, hl.2.1, hl.2.2⟩
  · rw [if_neg q]
    exact h

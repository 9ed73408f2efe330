/-! what the reader's steps leave as it was -/
def CN (M M1 : MT) : Prop := ∀ j, ¬ j = 17 → M1 j = M j
theorem CN_refl (M : MT) : CN M M := fun _ _ => rfl
theorem CN_up (M : MT) (k : Nat) (v : Int32) : CN M (up2 M 17 k v) := fun j hj => upo hj
theorem InvB_CN {M M1 : MT} (h : InvB M) (g : CN M M1) : InvB M1 := by
  obtain ⟨h1, h2, h3, h4, h5⟩ := h
  refine ⟨by rw [g 0 (by decide)]; exact h1, by rw [g 0 (by decide)]; exact h2, by rw [g 15 (by decide)]; exact h3, by rw [g 18 (by decide)]; exact h4, fun j hj => ?_⟩
  have hl := h5 j hj
  unfold LwOk at hl ⊢
  rcases hj with rfl | ⟨b, hb, rfl⟩
  · rw [g 4 (by decide), g (4 + 5) (by decide)]; exact hl
  · rw [g (54 + 10 * b) (by omega), g (54 + 10 * b + 5) (by omega)]; exact hl
theorem lawZ17 {i : Nat} (h : LawZ i) : i < 13 ∧ 0 < i ∧ i + 9 < 17 ∨ 54 ≤ i := by
  rcases h with rfl | ⟨b, hb, rfl⟩
  · omega
  · omega
/-- the rows of rules may change -/
def CR (i : Nat) (M M1 : MT) : Prop := InvB M1 ∧ (∀ j, ¬ j = 17 → ¬ j = i → (j < i + 5 ∨ i + 10 ≤ j) → M1 j = M j) ∧ ∀ k, ¬ k = 9 → M1 i k = M i k
theorem CR_refl {i : Nat} {M : MT} (h : InvB M) : CR i M M := ⟨h, fun _ _ _ _ => rfl, fun _ _ => rfl⟩
theorem CR_trans {i : Nat} {M0 M M1 : MT} (h : CR i M0 M) (g : CR i M M1) : CR i M0 M1 := ⟨g.1, fun j a b c => (g.2.1 j a b c).trans (h.2.1 j a b c), fun k hk => (g.2.2 k hk).trans (h.2.2 k hk)⟩
theorem CR_CN {i : Nat} {M0 M M1 : MT} (hz : LawZ i) (h : CR i M0 M) (g : CN M M1) : CR i M0 M1 := ⟨InvB_CN h.1 g, fun j a b c => (g j a).trans (h.2.1 j a b c), fun k hk => by rw [g i (by have := lawZ17 hz; omega)]; exact h.2.2 k hk⟩
theorem pt_fr (M : MT) (i : Nat) (a b e g : Int32) {j : Nat} (hj : j < i + 7 ∨ i + 10 ≤ j) : s_X1_putTest M i a b e g j = M j := by
  unfold s_X1_putTest
  by_cases q : 16 ≤ (M i 9)
  · rw [if_pos q]
  · rw [if_neg q]
    by_cases q2 : (s_X8_within M a 0 2) = 0
    · rw [if_pos q2]
    · rw [if_neg q2, upo (by omega), upo (by omega), upo (by omega)]
theorem CR_pt {i : Nat} {M0 M : MT} (hz : LawZ i) (h : CR i M0 M) (a b e g : Int32) : CR i M0 (s_X1_putTest M i a b e g) := ⟨(Kp_putTest (Kp_refl (P := rP) h.1) hz a b e g).1, fun j h1 h2 h3 => (pt_fr M i a b e g (by omega)).trans (h.2.1 j h1 h2 h3), fun k hk => (congrFun (pt_fr M i a b e g (by omega)) k).trans (h.2.2 k hk)⟩
theorem ar_fr (M : MT) (i : Nat) (a b : Int32) {j : Nat} (hj : (j < i + 5 ∧ ¬ j = i) ∨ i + 7 ≤ j) : s_X1_addRule M i a b j = M j := by
  unfold s_X1_addRule
  by_cases q : 16 ≤ (M i 9)
  · rw [if_pos q]
  · rw [if_neg q]
    by_cases q2 : (s_X8_within M a 1 3) = 0
    · rw [if_pos q2]
    · rw [if_neg q2, upo (by omega), upo (by omega), upo (by omega)]
theorem ar_i (M : MT) (i : Nat) (a b : Int32) {k : Nat} (hk : ¬ k = 9) : s_X1_addRule M i a b i k = M i k := by
  unfold s_X1_addRule
  by_cases q : 16 ≤ (M i 9)
  · rw [if_pos q]
  · rw [if_neg q]
    by_cases q2 : (s_X8_within M a 1 3) = 0
    · rw [if_pos q2]
    · rw [if_neg q2, up_k hk rfl, upo (show ¬ i = i + 6 by omega), upo (show ¬ i = i + 5 by omega)]
theorem CR_ar {i : Nat} {M0 M : MT} (hz : LawZ i) (h : CR i M0 M) (a b : Int32) : CR i M0 (s_X1_addRule M i a b) := ⟨(Kp_addRule (Kp_refl (P := rP) h.1) hz a b).1, fun j h1 h2 h3 => (ar_fr M i a b (by omega)).trans (h.2.1 j h1 h2 h3), fun k hk => (ar_i M i a b hk).trans (h.2.2 k hk)⟩
/-- LIMIT, DEPTH and the closings of the law at i -/
def cB (M : MT) (i : Nat) : txCT := (M i 2, M i 3, (List.range (M i 4).toInt.toNat).map (fun c => (M (i + 1) c, M (i + 2) c, M (i + 3) c, M (i + 4) c)))
theorem cB_len (M : MT) (i : Nat) : (cB M i).2.2.length = (M i 4).toInt.toNat := by unfold cB; rw [List.length_map, List.length_range]
theorem cB_eq {M M1 : MT} {i : Nat} (h2 : M1 i 2 = M i 2) (h3 : M1 i 3 = M i 3) (h4 : M1 i 4 = M i 4) (hj : ∀ j, i < j → j < i + 5 → M1 j = M j) : cB M1 i = cB M i := by
  unfold cB
  rw [h2, h3, h4, hj (i + 1) (by omega) (by omega), hj (i + 2) (by omega) (by omega), hj (i + 3) (by omega) (by omega), hj (i + 4) (by omega) (by omega)]
def CQ (i : Nat) (M M1 : MT) : Prop := InvB M1 ∧ (∀ j, ¬ j = 17 → (j < i ∨ i + 10 ≤ j) → M1 j = M j) ∧ M1 i 0 = M i 0 ∧ M1 i 1 = M i 1
theorem CQ_trans {i : Nat} {M0 M M1 : MT} (h : CQ i M0 M) (g : CQ i M M1) : CQ i M0 M1 := ⟨g.1, fun j a b => (g.2.1 j a b).trans (h.2.1 j a b), g.2.2.1.trans h.2.2.1, g.2.2.2.trans h.2.2.2⟩
def KQ (i : Nat) (M0 : MT) (c : txCT) (M : MT) : Prop := CQ i M0 M ∧ cB M i = c
theorem KQ_0 {i : Nat} {M : MT} (h : InvB M) : KQ i M (cB M i) M := ⟨⟨h, fun _ _ _ => rfl, rfl, rfl⟩, rfl⟩
theorem KQ_CN {i : Nat} {M0 M M1 : MT} {c : txCT} (hz : LawZ i) (h : KQ i M0 c M) (g : CN M M1) : KQ i M0 c M1 := by
  have hi := lawZ17 hz
  have e := g i (by omega)
  exact ⟨⟨InvB_CN h.1.1 g, fun j a b => (g j a).trans (h.1.2.1 j a b), by rw [e]; exact h.1.2.2.1, by rw [e]; exact h.1.2.2.2⟩, (cB_eq (by rw [e]) (by rw [e]) (by rw [e]) (fun j a b => g j (by omega))).trans h.2⟩
theorem KQ_CR {i : Nat} {M0 M M1 : MT} {c : txCT} (hz : LawZ i) (h : KQ i M0 c M) (g : CR i M M1) : KQ i M0 c M1 := by
  have hi := lawZ17 hz
  exact ⟨⟨g.1, fun j a b => (g.2.1 j a (by omega) (by omega)).trans (h.1.2.1 j a b), (g.2.2 0 (by decide)).trans h.1.2.2.1, (g.2.2 1 (by decide)).trans h.1.2.2.2⟩, (cB_eq (g.2.2 2 (by decide)) (g.2.2 3 (by decide)) (g.2.2 4 (by decide)) (fun j a b => g.2.1 j (by omega) (by omega) (by omega))).trans h.2⟩
theorem KQ_lim {i : Nat} {M0 M : MT} {c : txCT} (hz : LawZ i) (h : KQ i M0 c M) (v : Int32) : KQ i M0 (v, c.2.1, c.2.2) (up2 M i 2 v) := by
  refine ⟨⟨(Kp_lim (Kp_refl (P := rP) h.1.1) hz (by decide) v).1, fun j a b => (upo (by omega)).trans (h.1.2.1 j a b), (up_k (by decide) rfl).trans h.1.2.2.1, (up_k (by decide) rfl).trans h.1.2.2.2⟩, ?_⟩
  rw [← h.2]
  unfold cB
  rw [up_s, up_k (show (3 : Nat) ≠ 2 by decide) rfl, up_k (show (4 : Nat) ≠ 2 by decide) rfl, upo (show ¬ i + 1 = i by omega), upo (show ¬ i + 2 = i by omega), upo (show ¬ i + 3 = i by omega), upo (show ¬ i + 4 = i by omega)]
theorem KQ_dep {i : Nat} {M0 M : MT} {c : txCT} (hz : LawZ i) (h : KQ i M0 c M) (v : Int32) : KQ i M0 (c.1, v, c.2.2) (up2 M i 3 v) := by
  refine ⟨⟨(Kp_lim (Kp_refl (P := rP) h.1.1) hz (by decide) v).1, fun j a b => (upo (by omega)).trans (h.1.2.1 j a b), (up_k (by decide) rfl).trans h.1.2.2.1, (up_k (by decide) rfl).trans h.1.2.2.2⟩, ?_⟩
  rw [← h.2]
  unfold cB
  rw [up_s, up_k (show (2 : Nat) ≠ 3 by decide) rfl, up_k (show (4 : Nat) ≠ 3 by decide) rfl, upo (show ¬ i + 1 = i by omega), upo (show ¬ i + 2 = i by omega), upo (show ¬ i + 3 = i by omega), upo (show ¬ i + 4 = i by omega)]
theorem ac_fr (M : MT) (i : Nat) (a b e g : Int32) {j : Nat} (hj : j < i ∨ i + 5 ≤ j) : s_X1_addClosing M i a b e g j = M j := by
  unfold s_X1_addClosing
  by_cases q : (M i 4) < 16
  · rw [if_pos q, upo (by omega), upo (by omega), upo (by omega), upo (by omega), upo (by omega)]
  · rw [if_neg q]
theorem KQ_cl {i : Nat} {M0 M : MT} {c : txCT} (hz : LawZ i) (h : KQ i M0 c M) (hl : c.2.2.length < 16) (a b e g : Int32) : KQ i M0 (c.1, c.2.1, c.2.2 ++ [(a, b, e, g)]) (s_X1_addClosing M i a b e g) := by
  have hk := Kp_addClosing (Kp_refl (P := rP) h.1.1) hz a b e g
  have ho := (h.1.1.2.2.2.2 i hz).1
  rw [← h.2, cB_len] at hl
  have e16 : (16 : Int32).toInt = 16 := by decide
  have e1 : (1 : Int32).toInt = 1 := by decide
  have q : (M i 4) < 16 := by rw [Int32.lt_iff_toInt_lt, e16]; omega
  have a1 := i32_add (x := M i 4) ho.1 (by omega) (k := 1) (by decide) (by decide)
  have hn : Int32.toNatClampNeg (M i 4) = (M i 4).toInt.toNat := rfl
  have fr : ∀ j, j < i ∨ i + 5 ≤ j → s_X1_addClosing M i a b e g j = M j := fun j hj => ac_fr M i a b e g hj
  refine ⟨⟨hk.1, fun j h1 h2 => (fr j (by omega)).trans (h.1.2.1 j h1 h2), ?_, ?_⟩, ?_⟩
  · unfold s_X1_addClosing
    rw [if_pos q, up_k (by decide) rfl, upo (show ¬ i = i + 4 by omega), upo (show ¬ i = i + 3 by omega), upo (show ¬ i = i + 2 by omega), upo (show ¬ i = i + 1 by omega)]
    exact h.1.2.2.1
  · unfold s_X1_addClosing
    rw [if_pos q, up_k (by decide) rfl, upo (show ¬ i = i + 4 by omega), upo (show ¬ i = i + 3 by omega), upo (show ¬ i = i + 2 by omega), upo (show ¬ i = i + 1 by omega)]
    exact h.1.2.2.2
  · rw [← h.2]
    unfold cB s_X1_addClosing
    rw [if_pos q, hn, up_s, up_k (show (2 : Nat) ≠ 4 by decide) rfl, up_k (show (3 : Nat) ≠ 4 by decide) rfl, upo (show ¬ i = i + 4 by omega), upo (show ¬ i = i + 3 by omega), upo (show ¬ i = i + 2 by omega), upo (show ¬ i = i + 1 by omega), show ((M i 4) + 1).toInt.toNat = (M i 4).toInt.toNat + 1 by omega, List.range_succ, List.map_append]
    refine Prod.ext rfl (Prod.ext rfl ?_)
    show _ ++ _ = _ ++ _
    congr 1
    · refine List.map_congr_left (fun c hc => ?_)
      have hc2 : ¬ c = (M i 4).toInt.toNat := Nat.ne_of_lt (List.mem_range.mp hc)
      rw [upo (show ¬ i + 1 = i by omega), upo (show ¬ i + 1 = i + 4 by omega), upo (show ¬ i + 1 = i + 3 by omega), upo (show ¬ i + 1 = i + 2 by omega), up_k hc2 rfl, upo (show ¬ i + 2 = i by omega), upo (show ¬ i + 2 = i + 4 by omega), upo (show ¬ i + 2 = i + 3 by omega), up_k hc2 (congrFun (upo (show ¬ i + 2 = i + 1 by omega)) c), upo (show ¬ i + 3 = i by omega), upo (show ¬ i + 3 = i + 4 by omega), up_k hc2 (by rw [upo (show ¬ i + 3 = i + 2 by omega), upo (show ¬ i + 3 = i + 1 by omega)]), upo (show ¬ i + 4 = i by omega), up_k hc2 (by rw [upo (show ¬ i + 4 = i + 3 by omega), upo (show ¬ i + 4 = i + 2 by omega), upo (show ¬ i + 4 = i + 1 by omega)])]
    · rw [List.map_cons, List.map_nil, upo (show ¬ i + 1 = i by omega), upo (show ¬ i + 1 = i + 4 by omega), upo (show ¬ i + 1 = i + 3 by omega), upo (show ¬ i + 1 = i + 2 by omega), up_s, upo (show ¬ i + 2 = i by omega), upo (show ¬ i + 2 = i + 4 by omega), upo (show ¬ i + 2 = i + 3 by omega), up_s, upo (show ¬ i + 3 = i by omega), upo (show ¬ i + 3 = i + 4 by omega), up_s, upo (show ¬ i + 4 = i by omega), up_s]
theorem KQ_g {i : Nat} {M0 M M1 : MT} {c : txCT} {g : txCT → txCT} (h : KQ i M0 c M) (k : KQ i M (g (cB M i)) M1) : KQ i M0 (g c) M1 := ⟨CQ_trans h.1 k.1, by rw [← h.2]; exact k.2⟩
theorem txC_w {T : Nat → Int32} {N p i : Nat} {M M1 : MT} (hz : LawZ i) (h : txC T N M p) (g : ∀ j, j < i ∨ i + 10 ≤ j → M1 j = M j) : txC T N M1 p := by
  have hi := lawZ17 hz
  exact txC_fr h (by rw [g 17 (by omega)]) (fun j a b => g j (by omega))
/-- a closing is added: its numbers stand at p and behind every second token -/
def txcl (T : Nat → Int32) (N p : Nat) (c : txCT) : txCT := (c.1, c.2.1, c.2.2 ++ [(txtv T N p, txtv T N (txnx T N (txnx T N p)), txtv T N (txnx T N (txnx T N (txnx T N (txnx T N p)))), txtv T N (txnx T N (txnx T N (txnx T N (txnx T N (txnx T N (txnx T N p)))))))])
theorem txne {l : List Int32} {x y : Int32} (h : x ∈ l) (hy : ¬ y ∈ l) : ¬ x = y := fun e => hy (e ▸ h)
section TK
variable {T : Nat → Int32} {N p : Nat} {M : MT}
theorem tk_y {l : List Int32} (h : txC T N M p) (hc : s_X7_codeAt M (M 17 1) ∈ l) (h0 : ¬ (0 : Int32) ∈ l) : txtc T N p ∈ l ∧ txC T N (up2 M 17 1 ((M 17 1) + 1)) (txnx T N p) ∧ CN M (up2 M 17 1 ((M 17 1) + 1)) := by
  rw [txC_code h] at hc
  exact ⟨hc, txC_nx h (txne hc h0), CN_up M _ _⟩
theorem tk_n {l : List Int32} (h : txC T N M p) (hc : ¬ s_X7_codeAt M (M 17 1) ∈ l) : ¬ txtc T N p ∈ l ∧ txC T N M p ∧ CN M M := by
  rw [txC_code h] at hc
  exact ⟨hc, h, CN_refl M⟩
theorem tk_v (h : txC T N M p) (hc : s_X7_codeAt M (M 17 1) = 15) : s_X7_valueAt (up2 M 17 1 ((M 17 1) + 1)) (((M 17 1) + 1) - 1) = txtv T N p := by
  rw [txC_code h] at hc
  rw [← txC_val h (by rw [hc]; decide), Int32.add_sub_cancel]
  unfold s_X7_valueAt
  rw [upo (show ¬ 18 = 17 by decide), upo (show ¬ 21 = 17 by decide)]
end TK

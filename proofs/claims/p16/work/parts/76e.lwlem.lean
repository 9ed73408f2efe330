/-! cut, readText, law: what they leave as it was, where the reader stands -/
def FC (M0 M : MT) : Prop := ∀ j, j < 18 ∨ 21 < j → M j = M0 j
theorem keep_fr (M : MT) (a b e : Int32) {j : Nat} (hj : j < 18 ∨ 21 < j) : s_X7_keep M a b e j = M j := by
  unfold s_X7_keep
  by_cases q : (M 18 1) < 500
  · rw [if_pos q, upo (by omega), upo (by omega), upo (by omega), upo (by omega)]
  · rw [if_neg q]
theorem kn_fr (M : MT) (a b : Nat) {j : Nat} (hj : j < 18 ∨ 21 < j) : knF M a b j = M j := by
  unfold knF
  by_cases q : b - a ≤ 4
  · rw [if_pos q]; exact keep_fr M _ _ _ hj
  · rw [if_neg q]; exact keep_fr M _ _ _ hj
theorem cutU (M0 : MT) (N : Nat) (hN : N ≤ 500) : CutR N (fun M p => (Kp rP M0 M ∧ txI (b8 M0) N M p) ∧ FC M0 M) := by
  have kr := cutT M0 N hN
  exact ⟨fun M p h => kr.1 M p h.1, fun M p q c h a b d => ⟨kr.2.1 M p q c h.1 a b d, fun j hj => (keep_fr M _ _ _ hj).trans (h.2 j hj)⟩, fun M p q h a b d => ⟨kr.2.2.1 M p q h.1 a b d, fun j hj => (kn_fr M _ _ hj).trans (h.2 j hj)⟩, fun M p h a b d e => ⟨kr.2.2.2.1 M p h.1 a b d e, h.2⟩, fun M p h a b d e => ⟨kr.2.2.2.2 M p h.1 a b d e, fun j hj => (keep_fr M _ _ _ hj).trans (h.2 j hj)⟩⟩
theorem cutU0 {M : MT} {N : Nat} {n : Int32} (hI : InvB M) (hN : n.toInt = (N : Int) ∧ N ≤ 500) : (Kp rP M (up2 (up2 M 18 1 0) 18 5 n) ∧ txI (b8 M) N (up2 (up2 M 18 1 0) 18 5 n) 0) ∧ FC M (up2 (up2 M 18 1 0) 18 5 n) := by
  refine ⟨⟨Kp_18 (Kp_18 (Kp_refl hI) (Or.inr (by decide))) (Or.inl (by decide)), 0, Nat.le_refl _, Nat.zero_le _, ⟨?_, ?_, fun i hi => absurd hi (Nat.not_lt_zero i)⟩, rfl⟩, fun j hj => ?_⟩
  · rw [up_k (by decide) rfl, up_s]; rfl
  · rw [up_s]; exact of_toInt hN.1 (by omega)
  · rw [upo (by omega), upo (by omega)]
def QT (i : Nat) (M M1 : MT) : Prop := InvB M1 ∧ (∀ j, (j < 17 ∨ 21 < j) → (j < i ∨ i + 10 ≤ j) → M1 j = M j) ∧ M1 i 0 = M i 0 ∧ M1 i 1 = M i 1
theorem QT_CQ {i : Nat} {M0 M M1 : MT} (h : QT i M0 M) (g : CQ i M M1) : QT i M0 M1 := ⟨g.1, fun j a b => (g.2.1 j (by omega) b).trans (h.2.1 j a b), g.2.2.1.trans h.2.2.1, g.2.2.2.trans h.2.2.2⟩
/-- where the reader stands: n more statements may come -/
def RTx (T : Nat → Int32) (N i : Nat) (M0 : MT) (n : Nat) (M : MT) (p : Nat) : Prop := txC T N M p ∧ QT i M0 M ∧ (cB M i).2.2.length + n ≤ 16 ∧ txlw T N 16 (txsk T N 0) = txlw T N n p ∧ txlc T N 16 (txsk T N 0) (cB M0 i) = txlc T N n p (cB M i)
theorem RT_0 {T : Nat → Int32} {N i : Nat} {M Mx : MT} (hz : LawZ i) (hN : N ≤ 500) (h : (Kp rP M Mx ∧ txI T N Mx N) ∧ FC M Mx) (h0 : (cB M i).2.2.length = 0) : RTx T N i M 16 (up2 Mx 17 1 0) (txsk T N 0) := by
  have hi := lawZ17 hz
  have e : ∀ j, (j < 17 ∨ 21 < j) → up2 Mx 17 1 0 j = M j := fun j hj => (upo (by omega)).trans (h.2 j (by omega))
  have ec : cB (up2 Mx 17 1 0) i = cB M i := cB_eq (by rw [e i (by omega)]) (by rw [e i (by omega)]) (by rw [e i (by omega)]) (fun j a b => e j (by omega))
  exact ⟨txC_0 hN h.1.2, ⟨(Kp_17 h.1.1 1 0).1, fun j a _ => e j a, by rw [e i (by omega)], by rw [e i (by omega)]⟩, by rw [ec, h0]; decide, rfl, by rw [ec]⟩
theorem RT_s {T : Nat → Int32} {N i n p q : Nat} {M0 M M1 : MT} (h : RTx T N i M0 (n + 1) M p) (hne : ¬ txtc T N p = 0) (hs : txst T N p = (true, q)) (hC : txC T N M1 q) (hK : KQ i M (txef T N p (cB M i)) M1) : RTx T N i M0 n M1 q := by
  obtain ⟨h1, h2, h3, h4, h5⟩ := h
  have hl := txef_len (T := T) (N := N) (p := p) (cB M i)
  exact ⟨hC, QT_CQ h2 hK.1, by rw [hK.2]; omega, h4.trans (txlw_y hne hs), by rw [h5, txlc_y hne hs, hK.2]⟩
theorem ofN_m1 {q : Nat} (h : q ≤ 500) : ¬ Int32.ofNat q = (-1) := fun e => by
  have := congrArg Int32.toInt e
  rw [ofN_toInt (by omega), show (-1 : Int32).toInt = -1 by decide] at this
  omega
theorem rt_ne {T : Nat → Int32} {N p : Nat} {M : MT} (h : txC T N M p) (c : ¬ (s_X7_codeAt M (M 17 1)) = 0) : ¬ txtc T N p = 0 := fun g => c ((txC_code h).trans g)
theorem b8_bg {M : MT} {i : Nat} (hi : 54 ≤ i) (a b : Int32) : b8 M = b8 (s_X1_begin M i a b) := by
  funext k
  unfold b8 s_X6_at s_X1_begin
  rw [upo (show ¬ 15 = i by omega), upo (show ¬ 15 = i by omega), upo (show ¬ 15 = i by omega), upo (show ¬ 15 = i by omega), upo (show ¬ 15 = i by omega), upo (show ¬ 15 = i by omega), upo (show ¬ 16 = i by omega), upo (show ¬ 16 = i by omega), upo (show ¬ 16 = i by omega), upo (show ¬ 16 = i by omega), upo (show ¬ 16 = i by omega), upo (show ¬ 16 = i by omega)]
theorem bg_fr {M : MT} {i j : Nat} (hj : ¬ j = i) (a b : Int32) : s_X1_begin M i a b j = M j := by
  unfold s_X1_begin
  rw [upo hj, upo hj, upo hj, upo hj, upo hj, upo hj]
theorem bg_0 (M : MT) (i : Nat) (a b : Int32) : s_X1_begin M i a b i 0 = a := by
  unfold s_X1_begin
  rw [up_k (by decide) rfl, up_k (by decide) rfl, up_k (by decide) rfl, up_k (by decide) rfl, up_k (by decide) rfl, up_s]
theorem bg_1 (M : MT) (i : Nat) (a b : Int32) : s_X1_begin M i a b i 1 = b := by
  unfold s_X1_begin
  rw [up_k (by decide) rfl, up_k (by decide) rfl, up_k (by decide) rfl, up_k (by decide) rfl, up_s]
theorem bg_c (M : MT) (i : Nat) (a b : Int32) : cB (s_X1_begin M i a b) i = (550, 0, []) := by
  have e4 : s_X1_begin M i a b i 4 = 0 := by
    unfold s_X1_begin
    rw [up_k (by decide) rfl, up_s]
  have e3 : s_X1_begin M i a b i 3 = 0 := by
    unfold s_X1_begin
    rw [up_k (by decide) rfl, up_k (by decide) rfl, up_s]
  have e2 : s_X1_begin M i a b i 2 = 550 := by
    unfold s_X1_begin
    rw [up_k (by decide) rfl, up_k (by decide) rfl, up_k (by decide) rfl, up_s]
  unfold cB
  rw [e4, e3, e2]
  rfl
/-- what law leaves as it was -/
def LBf (M M1 : MT) : Prop := InvB M1 ∧ (∀ k, ¬ k = 9 → ¬ k = 14 → M1 0 k = M 0 k) ∧ M1 15 1 = 0 ∧ M1 16 = M 16 ∧ (∀ j, 4 ≤ j → j ≤ 13 → M1 j = M j) ∧ ∀ l, l < 8 → ¬ l = Int32.toNatClampNeg (M 0 9) → ∀ j, 54 + 10 * l ≤ j → j < 54 + 10 * l + 10 → M1 j = M j
def LB (M : MT) (a : Int32) (v : Option Value) (M1 : MT) : Prop :=
  ((s_X8_within M a 0 (M 15 1)) = 0 ∧ v = some (.int (-2)) ∧ M1 = M) ∨
  (¬ (s_X8_within M a 0 (M 15 1)) = 0 ∧ ¬ (M 0 9) < 8 ∧ v = some (.int (-3)) ∧ M1 = M) ∨
  (¬ (s_X8_within M a 0 (M 15 1)) = 0 ∧ (M 0 9) < 8 ∧ LBf M M1 ∧
    ((∃ q, txlw (b8 M) a.toInt.toNat 16 (txsk (b8 M) a.toInt.toNat 0) = (false, q) ∧ v = some (.int (-1)) ∧ M1 0 14 = Int32.ofNat q ∧ M1 0 9 = M 0 9) ∨
     (∃ q, txlw (b8 M) a.toInt.toNat 16 (txsk (b8 M) a.toInt.toNat 0) = (true, q) ∧ v = some (.int (M 0 9)) ∧ M1 0 14 = (-1) ∧ M1 0 9 = (M 0 9) + 1 ∧ M1 (54 + 10 * Int32.toNatClampNeg (M 0 9)) 0 = M 0 9 ∧ M1 (54 + 10 * Int32.toNatClampNeg (M 0 9)) 1 = M 0 10 ∧ cB M1 (54 + 10 * Int32.toNatClampNeg (M 0 9)) = txlc (b8 M) a.toInt.toNat 16 (txsk (b8 M) a.toInt.toNat 0) (550, 0, []))))
theorem lb_8 {M : MT} (hI : InvB M) (hl : (M 0 9) < 8) : Int32.toNatClampNeg (M 0 9) < 8 := vlt (v8l hI.2.1.1 hl)
theorem LB_f {M Mx : MT} (hI : InvB M) (hl : (M 0 9) < 8) (hQ : QT (54 + 10 * Int32.toNatClampNeg (M 0 9)) (s_X1_begin M (54 + 10 * Int32.toNatClampNeg (M 0 9)) (M 0 9) (M 0 10)) Mx) (r : Int32) : LBf M (up2 (up2 Mx 0 14 r) 15 1 0) := by
  have h8 := lb_8 hI hl
  have e : ∀ j, (j < 17 ∨ 21 < j) → (j < 54 + 10 * Int32.toNatClampNeg (M 0 9) ∨ 54 + 10 * Int32.toNatClampNeg (M 0 9) + 10 ≤ j) → Mx j = M j := fun j a b => (hQ.2.1 j a b).trans (bg_fr (by omega) _ _)
  refine ⟨InvB_151 (InvB_0 hQ.1 (by decide) _) (by decide), fun k h9 h14 => ?_, up_s, ?_, fun j h1 h2 => ?_, fun l h1 h2 j h3 h4 => ?_⟩
  · rw [upo (by decide), up_k h14 rfl, e 0 (by decide) (by omega)]
  · rw [upo (by decide), upo (by decide), e 16 (by decide) (by omega)]
  · rw [upo (by omega), upo (by omega), e j (by omega) (by omega)]
  · rw [upo (by omega), upo (by omega), e j (by omega) (by omega)]
theorem LB_0 {M Mx : MT} (hI : InvB M) (hl : (M 0 9) < 8) (hQ : QT (54 + 10 * Int32.toNatClampNeg (M 0 9)) (s_X1_begin M (54 + 10 * Int32.toNatClampNeg (M 0 9)) (M 0 9) (M 0 10)) Mx) : Mx 0 = M 0 := by
  have h8 := lb_8 hI hl
  exact (hQ.2.1 0 (by decide) (by omega)).trans (bg_fr (by omega) _ _)
theorem LB_bad {M Mx : MT} {a : Int32} {q : Nat} (hI : InvB M) (hw : ¬ (s_X8_within M a 0 (M 15 1)) = 0) (hl : (M 0 9) < 8) (hq : txlw (b8 M) a.toInt.toNat 16 (txsk (b8 M) a.toInt.toNat 0) = (false, q)) (hQ : QT (54 + 10 * Int32.toNatClampNeg (M 0 9)) (s_X1_begin M (54 + 10 * Int32.toNatClampNeg (M 0 9)) (M 0 9) (M 0 10)) Mx) : LB M a (some (.int (-1))) (up2 (up2 Mx 0 14 (Int32.ofNat q)) 15 1 0) := by
  refine Or.inr (Or.inr ⟨hw, hl, LB_f hI hl hQ _, Or.inl ⟨q, hq, rfl, ?_, ?_⟩⟩)
  · rw [upo (by decide), up_s]
  · rw [upo (by decide), up_k (by decide) rfl, LB_0 hI hl hQ]
theorem LB_good {M Mx : MT} {a x : Int32} {q : Nat} (hI : InvB M) (hw : ¬ (s_X8_within M a 0 (M 15 1)) = 0) (hl : (M 0 9) < 8) (hq : txlw (b8 M) a.toInt.toNat 16 (txsk (b8 M) a.toInt.toNat 0) = (true, q)) (hQ : QT (54 + 10 * Int32.toNatClampNeg (M 0 9)) (s_X1_begin M (54 + 10 * Int32.toNatClampNeg (M 0 9)) (M 0 9) (M 0 10)) Mx) (hc : cB Mx (54 + 10 * Int32.toNatClampNeg (M 0 9)) = txlc (b8 M) a.toInt.toNat 16 (txsk (b8 M) a.toInt.toNat 0) (cB (s_X1_begin M (54 + 10 * Int32.toNatClampNeg (M 0 9)) (M 0 9) (M 0 10)) (54 + 10 * Int32.toNatClampNeg (M 0 9)))) (hx : x = Mx (54 + 10 * Int32.toNatClampNeg (M 0 9)) 0) : LB M a (some (.int x)) (up2 (up2 (up2 Mx 0 14 (-1)) 15 1 0) 0 9 ((Mx 0 9) + 1)) := by
  have h8 := lb_8 hI hl
  have f := LB_f hI hl hQ (-1)
  have e0 := LB_0 hI hl hQ
  have e1 : (1 : Int32).toInt = 1 := by decide
  have e8 : (8 : Int32).toInt = 8 := by decide
  have r9 := hI.2.1
  have q8 := hl
  rw [Int32.lt_iff_toInt_lt, e8] at q8
  have a1 := i32_add (x := M 0 9) r9.1 (by omega) (k := 1) (by decide) (by decide)
  have ei : ∀ j, 54 ≤ j → up2 (up2 (up2 Mx 0 14 (-1)) 15 1 0) 0 9 ((Mx 0 9) + 1) j = Mx j := fun j hj => by rw [upo (by omega), upo (by omega), upo (by omega)]
  refine Or.inr (Or.inr ⟨hw, hl, ⟨InvB_09 f.1 (by rw [e0]; omega), fun k h9 h14 => (up_k h9 rfl).trans (f.2.1 k h9 h14), (up_c (by decide) f.2.2.1), (upo (by decide)).trans f.2.2.2.1, fun j h1 h2 => (upo (by omega)).trans (f.2.2.2.2.1 j h1 h2), fun l h1 h2 j h3 h4 => (upo (by omega)).trans (f.2.2.2.2.2 l h1 h2 j h3 h4)⟩, Or.inr ⟨q, hq, ?_, ?_, ?_, ?_, ?_, ?_⟩⟩)
  · rw [hx, hQ.2.2.1, bg_0]
  · rw [up_k (by decide) rfl, upo (by decide), up_s]
  · rw [up_s, e0]
  · rw [ei _ (by omega), hQ.2.2.1, bg_0]
  · rw [ei _ (by omega), hQ.2.2.2, bg_1]
  · rw [← bg_c M (54 + 10 * Int32.toNatClampNeg (M 0 9)) (M 0 9) (M 0 10), ← hc]
    exact cB_eq (by rw [ei _ (by omega)]) (by rw [ei _ (by omega)]) (by rw [ei _ (by omega)]) (fun j a b => ei j (by omega))

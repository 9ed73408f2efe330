/-! the class's cut makes the tokens of the text -/
def txO (T : Nat → Int32) (N : Nat) (M : MT) (c : Nat) : Prop := M 18 1 = Int32.ofNat c ∧ M 18 5 = Int32.ofNat N ∧ ∀ i, i < c → txpt T N i < N ∧ M 19 i = txtc T N (txpt T N i) ∧ M 20 i = Int32.ofNat (txpt T N i) ∧ M 21 i = txtv T N (txpt T N i)
def txI (T : Nat → Int32) (N : Nat) (M : MT) (p : Nat) : Prop := ∃ c, c ≤ p ∧ p ≤ N ∧ txO T N M c ∧ txsk T N p = txpt T N c
theorem ofN_add (a b : Nat) : Int32.ofNat a + Int32.ofNat b = Int32.ofNat (a + b) := (Int32.ofNat_add a b).symm
theorem ofN_clamp {n : Nat} (h : n ≤ 1000) : (Int32.ofNat n).toNatClampNeg = n := nat_eq (ofN_toInt (by omega))
theorem ofN_inj {a b : Nat} (ha : a ≤ 1000) (hb : b ≤ 1000) (h : Int32.ofNat a = Int32.ofNat b) : a = b := by
  have := congrArg Int32.toInt h
  rw [ofN_toInt (by omega), ofN_toInt (by omega)] at this
  omega
theorem txI_keep {T : Nat → Int32} {N p q : Nat} {M : MT} {a v : Int32} (h : txI T N M p) (hN : N ≤ 500) (hp : p < N) (hb : ¬ txB (T p) = true) (ha : a = txtc T N p) (hv : v = txtv T N p) (hq : q = txte T N p) : txI T N (s_X7_keep M a (Int32.ofNat p) v) q := by
  obtain ⟨c, hc, hpN, ⟨o1, o2, o3⟩, hs⟩ := h
  rw [txsk_n (fun _ => hb)] at hs
  have hlt : M 18 1 < 500 := by rw [o1, Int32.lt_iff_toInt_lt, ofN_toInt (by omega), show (500 : Int32).toInt = 500 by decide]; omega
  have hcl : Int32.toNatClampNeg (M 18 1) = c := by rw [o1]; exact ofN_clamp (by omega)
  have te := txte_b (T := T) (Nat.le_of_lt hp)
  unfold s_X7_keep
  rw [if_pos hlt, hcl]
  refine ⟨c + 1, by have := te.2.2 hp; omega, by omega, ⟨?_, ?_, fun i hi => ?_⟩, ?_⟩
  · rw [up_s, o1, show (1 : Int32) = Int32.ofNat 1 from rfl, ofN_add]
  · rw [up_k (by decide) rfl, upo (by decide), upo (by decide), upo (by decide)]; exact o2
  · rw [upo (show ¬ 19 = 18 by decide), upo (show ¬ 19 = 21 by decide), upo (show ¬ 19 = 20 by decide), upo (show ¬ 20 = 18 by decide), upo (show ¬ 20 = 21 by decide), upo (show ¬ 21 = 18 by decide)]
    by_cases hic : i = c
    · subst hic
      rw [up_s, up_s, up_s, ← hs]
      exact ⟨hp, ha, rfl, hv⟩
    · rw [up_k hic rfl, up_k hic rfl, up_k hic rfl, upo (show ¬ 20 = 19 by decide), upo (show ¬ 21 = 20 by decide), upo (show ¬ 21 = 19 by decide)]
      exact o3 i (by omega)
  · rw [hq, hs]; rfl
theorem let_i {M : MT} {a : Int32} : (¬ s_X7_isLetter M a = 0) ↔ txL a = true := by
  unfold s_X7_isLetter
  rw [txL_i]
  have e1 : (97 : Int32).toInt = 97 := by decide
  have e2 : (122 : Int32).toInt = 122 := by decide
  by_cases h1 : a < 97
  · rw [if_pos h1]
    rw [Int32.lt_iff_toInt_lt, e1] at h1
    exact ⟨fun h => absurd rfl h, fun h => by omega⟩
  · rw [if_neg h1]
    rw [Int32.lt_iff_toInt_lt, e1] at h1
    by_cases h2 : 122 < a
    · rw [if_pos h2]
      rw [Int32.lt_iff_toInt_lt, e2] at h2
      exact ⟨fun h => absurd rfl h, fun h => by omega⟩
    · rw [if_neg h2]
      rw [Int32.lt_iff_toInt_lt, e2] at h2
      exact ⟨fun _ => by omega, fun _ => by decide⟩
theorem dig_i {M : MT} {a : Int32} : (¬ s_X7_isDigit M a = 0) ↔ txD a = true := by
  unfold s_X7_isDigit
  rw [txD_i]
  have e1 : (48 : Int32).toInt = 48 := by decide
  have e2 : (57 : Int32).toInt = 57 := by decide
  by_cases h1 : a < 48
  · rw [if_pos h1]
    rw [Int32.lt_iff_toInt_lt, e1] at h1
    exact ⟨fun h => absurd rfl h, fun h => by omega⟩
  · rw [if_neg h1]
    rw [Int32.lt_iff_toInt_lt, e1] at h1
    by_cases h2 : 57 < a
    · rw [if_pos h2]
      rw [Int32.lt_iff_toInt_lt, e2] at h2
      exact ⟨fun h => absurd rfl h, fun h => by omega⟩
    · rw [if_neg h2]
      rw [Int32.lt_iff_toInt_lt, e2] at h2
      exact ⟨fun _ => by omega, fun _ => by decide⟩
theorem bla_i {M : MT} {a : Int32} : (¬ s_X7_isBlank M a = 0) ↔ txB a = true := by
  unfold s_X7_isBlank txB
  rw [Bool.or_eq_true, decide_eq_true_iff, decide_eq_true_iff]
  by_cases h1 : a = 32
  · rw [if_pos h1]; exact ⟨fun _ => Or.inl h1, fun _ => by decide⟩
  · rw [if_neg h1]
    by_cases h2 : a = 10
    · rw [if_pos h2]; exact ⟨fun _ => Or.inr h2, fun _ => by decide⟩
    · rw [if_neg h2]; exact ⟨fun h => absurd rfl h, fun h => absurd h (fun g => g.elim h1 h2)⟩
theorem b8_Kp {M0 M : MT} (h : Kp rP M0 M) (k : Nat) : b8 M k = b8 M0 k := by
  unfold b8 s_X6_at
  rw [h.2.2.2.2.2.2 15 (Or.inl rfl), h.2.2.2.2.2.2 16 (Or.inr rfl)]
theorem at_Kp {M0 M : MT} (h : Kp rP M0 M) (a : Int32) : s_X6_at M a = s_X6_at M0 a := by
  unfold s_X6_at
  rw [h.2.2.2.2.2.2 15 (Or.inl rfl), h.2.2.2.2.2.2 16 (Or.inr rfl)]
theorem spl_i {M0 M : MT} {w p q : Nat} (h : Kp rP M0 M) (hw : w < 15) (hpq : p < q) (hq : q ≤ 500) : spl M w (Int32.ofNat p) (Int32.ofNat q) ↔ txsp (b8 M0) w p q := by
  have hl := len5 w hw
  have e1 : Int32.ofNat q - Int32.ofNat p = Int32.ofNat (q - p) := Int32.toInt_inj.mp (by
    rw [Int32.toInt_sub, ofN_toInt (by omega), ofN_toInt (by omega), ofN_toInt (by omega), Int.bmod_eq_of_le (by omega) (by omega)]; omega)
  unfold spl
  rw [e1]
  refine ⟨fun g => ⟨ofN_inj (by omega) (by omega) g.1, fun k hk => ?_⟩, fun g => ⟨by rw [g.1], fun k hk => ?_⟩⟩
  · rw [← b8_Kp h, ← g.2 k hk]; unfold b8; rw [ofN_add]
  · rw [← g.2 k hk, ← b8_Kp h]; unfold b8; rw [ofN_add]
theorem wc_i {M0 M : MT} {p q : Nat} {c : Int32} (h : Kp rP M0 M) (hpq : p < q) (hq : q ≤ 500) (hw : WC M (Int32.ofNat p) (Int32.ofNat q) c) : c = txwc (b8 M0) p q := by
  rcases hw with ⟨j, hj, e, hs, -⟩ | ⟨e, hn⟩
  · rw [e, txwc_y hj ((spl_i h (by omega) hpq hq).mp hs)]
  · rw [e, txwc_n (fun i hi g => hn i hi ((spl_i h (by omega) hpq hq).mpr g))]
theorem num_i {M0 M : MT} (h : Kp rP M0 M) (a : Nat) : ∀ k, numF M a k = txnF (b8 M0) a k
  | 0 => rfl
  | k + 1 => by
    show ((10 * numF M a k) + b8 M (a + k)) - 48 = ((10 * txnF (b8 M0) a k) + b8 M0 (a + k)) - 48
    rw [num_i h a k, b8_Kp h]
theorem run_i {P : Nat → Prop} {B : Nat → Bool} {a b n : Nat} (hi : ∀ k, P k ↔ B k = true) (h : RunP P a b n) : txR B n a = b := by
  obtain ⟨h1, h2, h3, h4⟩ := h
  exact txR_is (b - a) a b (by omega) h2 (fun k g1 g2 => (hi k).mp (h3 k g1 g2)) (fun g q => h4 g ((hi b).mpr q))
theorem cutT (M0 : MT) (N : Nat) (hN : N ≤ 500) : CutR N (fun M p => Kp rP M0 M ∧ txI (b8 M0) N M p) := by
  have kr := cutK M0 N
  have L : ∀ M, Kp rP M0 M → ∀ k, LetP M k ↔ txL (b8 M0 k) = true := fun M h k => by unfold LetP; rw [b8_Kp h]; exact let_i
  have D : ∀ M, Kp rP M0 M → ∀ k, DigP M k ↔ txD (b8 M0 k) = true := fun M h k => by unfold DigP; rw [b8_Kp h]; exact dig_i
  have B : ∀ M, Kp rP M0 M → ∀ k, BlaP M k ↔ txB (b8 M0 k) = true := fun M h k => by unfold BlaP; rw [b8_Kp h]; exact bla_i
  refine ⟨fun M p h => kr.1 M p h.1, fun M p q c h hp hr hw => ⟨kr.2.1 M p q c h.1 hp hr hw, ?_⟩, fun M p q h hp hl hr => ⟨kr.2.2.1 M p q h.1 hp hl hr, ?_⟩, fun M p h hp hl hd hb => ⟨h.1, ?_⟩, fun M p h hp hl hd hb => ⟨kr.2.2.2.2 M p h.1 hp hl hd hb, ?_⟩⟩
  · have hL := (L M h.1 p).mp (hr.2.2.1 p (Nat.le_refl _) hr.1)
    have hq : txln (b8 M0) N p = q := run_i (B := fun k => txL (b8 M0 k)) (L M h.1) hr
    have hc : txtc (b8 M0) N p = c := by rw [txtc_L hp hL, hq]; exact (wc_i h.1 hr.1 (by have := hr.2.1; omega) hw).symm
    refine txI_keep h.2 hN hp (txLB hL) hc.symm ?_ (by rw [txte_L hp hL, hq])
    unfold txtv
    rw [if_neg]
    rw [txtc_L hp hL]; exact (txwc_15 _ _ _).1
  · have hD := (D M h.1 p).mp (hr.2.2.1 p (Nat.le_refl _) hr.1)
    have hq : txdn (b8 M0) N p = q := run_i (B := fun k => txD (b8 M0 k)) (D M h.1) hr
    have ht := txtc_D hp hD
    rw [hq] at ht
    unfold knF
    by_cases h4 : q - p ≤ 4
    · rw [if_pos h4] at ht ⊢
      refine txI_keep h.2 hN hp (txDB hD) ht.symm ?_ (by rw [txte_D hp hD, hq])
      unfold txtv
      rw [if_pos ht, hq]; exact num_i h.1 p _
    · rw [if_neg h4] at ht ⊢
      refine txI_keep h.2 hN hp (txDB hD) ht.symm ?_ (by rw [txte_D hp hD, hq])
      unfold txtv
      rw [if_neg (by rw [ht]; decide)]
  · obtain ⟨c, h1, h2, h3, h4⟩ := h.2
    exact ⟨c, by omega, by omega, h3, by rw [← txsk_go hp ((B M h.1 p).mp hb)]; exact h4⟩
  · have hL : ¬ txL (b8 M0 p) = true := fun g => hl ((L M h.1 p).mpr g)
    have hD : ¬ txD (b8 M0 p) = true := fun g => hd ((D M h.1 p).mpr g)
    have hB : ¬ txB (b8 M0 p) = true := fun g => hb ((B M h.1 p).mpr g)
    refine txI_keep h.2 hN hp hB ?_ ?_ (txte_S hp hL hD).symm
    · rw [txtc_S hp hL hD, b8_Kp h.1]; rfl
    · unfold txtv
      rw [if_neg]
      rw [txtc_S hp hL hD]; exact (txG_15 _).1
/-- the reader stands before the token at p -/
def txC (T : Nat → Int32) (N : Nat) (M : MT) (p : Nat) : Prop := ∃ c j, N ≤ 500 ∧ c ≤ N ∧ txO T N M c ∧ txpt T N c = N ∧ j ≤ c ∧ M 17 1 = Int32.ofNat j ∧ p = txpt T N j
theorem txC_0 {T : Nat → Int32} {M : MT} {N : Nat} (hN : N ≤ 500) (h : txI T N M N) : txC T N (up2 M 17 1 0) (txsk T N 0) := by
  obtain ⟨c, h1, -, ⟨o1, o2, o3⟩, h4⟩ := h
  rw [txsk_n (fun g => absurd g (Nat.lt_irrefl N))] at h4
  refine ⟨c, 0, hN, h1, ⟨by rw [upo (by decide)]; exact o1, by rw [upo (by decide)]; exact o2, fun i hi => ?_⟩, h4.symm, Nat.zero_le _, up_s, rfl⟩
  rw [upo (show ¬ 19 = 17 by decide), upo (show ¬ 20 = 17 by decide), upo (show ¬ 21 = 17 by decide)]
  exact o3 i hi
section TXC
variable {T : Nat → Int32} {N p : Nat} {M M1 : MT}
theorem txC_pl (h : txC T N M p) : p ≤ N ∧ N ≤ 500 := by
  obtain ⟨c, j, hN, hc, -, -, hj, -, rfl⟩ := h
  exact ⟨txpt_b j, hN⟩
theorem txC_idx (h : txC T N M p) : (txtc T N p = 0 → s_X7_codeAt M (M 17 1) = 0 ∧ s_X7_placeAt M (M 17 1) = Int32.ofNat p) ∧ (¬ txtc T N p = 0 → s_X7_codeAt M (M 17 1) = txtc T N p ∧ s_X7_placeAt M (M 17 1) = Int32.ofNat p ∧ s_X7_valueAt M (M 17 1) = txtv T N p) := by
  obtain ⟨c, j, hN, hc, ⟨o1, o2, o3⟩, he, hj, hx, rfl⟩ := h
  have n0 : ¬ M 17 1 < 0 := by rw [hx, Int32.lt_iff_toInt_lt, ofN_toInt (by omega), show (0 : Int32).toInt = 0 by decide]; omega
  have hcl : Int32.toNatClampNeg (M 17 1) = j := by rw [hx]; exact ofN_clamp (by omega)
  have hle : (M 18 1 ≤ M 17 1) ↔ c ≤ j := by rw [o1, hx, Int32.le_iff_toInt_le, ofN_toInt (by omega), ofN_toInt (by omega)]; omega
  unfold s_X7_codeAt s_X7_placeAt s_X7_valueAt
  rw [if_neg n0, if_neg n0, if_neg n0, hcl]
  by_cases hcj : c ≤ j
  · obtain rfl : j = c := by omega
    rw [if_pos (hle.mpr hcj), if_pos (hle.mpr hcj), he]
    exact ⟨fun _ => ⟨rfl, o2⟩, fun h => absurd (txtc_0 (Nat.lt_irrefl N)) h⟩
  · rw [if_neg (fun h => hcj (hle.mp h)), if_neg (fun h => hcj (hle.mp h)), if_neg (fun h => hcj (hle.mp h))]
    obtain ⟨a, b, d, e⟩ := o3 j (by omega)
    exact ⟨fun h => absurd h (txtc_z a), fun _ => ⟨b, d, e⟩⟩
theorem txC_code (h : txC T N M p) : s_X7_codeAt M (M 17 1) = txtc T N p := by
  by_cases h0 : txtc T N p = 0
  · rw [((txC_idx h).1 h0).1, h0]
  · exact ((txC_idx h).2 h0).1
theorem txC_place (h : txC T N M p) : s_X7_placeAt M (M 17 1) = Int32.ofNat p := by
  by_cases h0 : txtc T N p = 0
  · exact ((txC_idx h).1 h0).2
  · exact ((txC_idx h).2 h0).2.1
theorem txC_val (h : txC T N M p) (h0 : ¬ txtc T N p = 0) : s_X7_valueAt M (M 17 1) = txtv T N p := ((txC_idx h).2 h0).2.2
theorem txC_fr (h : txC T N M p) (h17 : M1 17 1 = M 17 1) (hf : ∀ i, 18 ≤ i → i ≤ 21 → M1 i = M i) : txC T N M1 p := by
  obtain ⟨c, j, hN, hc, ⟨o1, o2, o3⟩, he, hj, hx, hp⟩ := h
  refine ⟨c, j, hN, hc, ⟨by rw [hf 18 (by decide) (by decide)]; exact o1, by rw [hf 18 (by decide) (by decide)]; exact o2, fun i hi => ?_⟩, he, hj, h17.trans hx, hp⟩
  rw [hf 19 (by decide) (by decide), hf 20 (by decide) (by decide), hf 21 (by decide) (by decide)]
  exact o3 i hi
theorem txC_nx (h : txC T N M p) (h0 : ¬ txtc T N p = 0) : txC T N (up2 M 17 1 ((M 17 1) + 1)) (txnx T N p) := by
  obtain ⟨c, j, hN, hc, ⟨o1, o2, o3⟩, he, hj, hx, rfl⟩ := h
  have hjc : j < c := Nat.lt_of_le_of_ne hj (fun e => by rw [e, he] at h0; exact h0 (txtc_0 (Nat.lt_irrefl N)))
  refine ⟨c, j + 1, hN, hc, ⟨by rw [upo (by decide)]; exact o1, by rw [upo (by decide)]; exact o2, fun i hi => ?_⟩, he, hjc, ?_, rfl⟩
  · rw [upo (show ¬ 19 = 17 by decide), upo (show ¬ 20 = 17 by decide), upo (show ¬ 21 = 17 by decide)]
    exact o3 i hi
  · rw [up_s, hx, show (1 : Int32) = Int32.ofNat 1 from rfl, ofN_add]
end TXC

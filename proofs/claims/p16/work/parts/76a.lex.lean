/-! THE TEXT, told without the machine: runs of places, tokens, statements -/
def txF (P : Nat → Bool) (N : Nat) : Nat → Nat → Nat
  | 0, p => p
  | f + 1, p => if p < N ∧ P p = true then txF P N f (p + 1) else p
/-- the end of the run of P from p on -/
def txR (P : Nat → Bool) (N p : Nat) : Nat := txF P N (N - p) p
theorem txR_go {P : Nat → Bool} {N p : Nat} (h : p < N) (hp : P p = true) : txR P N p = txR P N (p + 1) := by
  unfold txR
  rw [show N - p = (N - (p + 1)) + 1 by omega]
  show (if p < N ∧ P p = true then txF P N (N - (p + 1)) (p + 1) else p) = _
  rw [if_pos ⟨h, hp⟩]
theorem txR_no {P : Nat → Bool} {N p : Nat} (h : ¬ (p < N ∧ P p = true)) : txR P N p = p := by
  unfold txR
  cases N - p with
  | zero => rfl
  | succ f =>
    show (if p < N ∧ P p = true then txF P N f (p + 1) else p) = p
    rw [if_neg h]
theorem txR_is {P : Nat → Bool} {N : Nat} : ∀ (d p q : Nat), p + d = q → q ≤ N → (∀ k, p ≤ k → k < q → P k = true) → (q < N → ¬ P q = true) → txR P N p = q := by
  intro d
  induction d with
  | zero =>
    intro p q h hq _ he
    obtain rfl : p = q := by omega
    exact txR_no (fun h9 => he h9.1 h9.2)
  | succ d ih =>
    intro p q h hq hp he
    rw [txR_go (by omega) (hp p (Nat.le_refl _) (by omega))]
    exact ih (p + 1) q (by omega) hq (fun k h1 h2 => hp k (by omega) h2) he
theorem txR_sp {P : Nat → Bool} {N : Nat} : ∀ (d p : Nat), p + d = N → p ≤ txR P N p ∧ txR P N p ≤ N ∧ (∀ k, p ≤ k → k < txR P N p → P k = true) ∧ (txR P N p < N → ¬ P (txR P N p) = true) := by
  intro d
  induction d with
  | zero =>
    intro p h
    rw [txR_no (by omega)]
    exact ⟨Nat.le_refl _, by omega, fun k h1 h2 => by omega, fun h9 => by omega⟩
  | succ d ih =>
    intro p h
    by_cases hp : P p = true
    · rw [txR_go (by omega) hp]
      obtain ⟨a, b, c, e⟩ := ih (p + 1) (by omega)
      refine ⟨by omega, b, fun k h1 h2 => ?_, e⟩
      by_cases hk : k = p
      · rw [hk]; exact hp
      · exact c k (by omega) h2
    · rw [txR_no (fun h9 => hp h9.2)]
      exact ⟨Nat.le_refl _, by omega, fun k h1 h2 => by omega, fun _ => hp⟩
theorem txR_s {P : Nat → Bool} {N p : Nat} (h : p ≤ N) : p ≤ txR P N p ∧ txR P N p ≤ N ∧ (∀ k, p ≤ k → k < txR P N p → P k = true) ∧ (txR P N p < N → ¬ P (txR P N p) = true) := txR_sp (N - p) p (by omega)
theorem txR_gt {P : Nat → Bool} {N p : Nat} (h : p < N) (hp : P p = true) : p < txR P N p := by
  rw [txR_go h hp]
  exact (txR_s (P := P) (show p + 1 ≤ N by omega)).1
def txL (x : Int32) : Bool := decide (97 ≤ x) && decide (x ≤ 122)
def txD (x : Int32) : Bool := decide (48 ≤ x) && decide (x ≤ 57)
def txB (x : Int32) : Bool := decide (x = 32) || decide (x = 10)
def txG (x : Int32) : Int32 := if x = 59 then x else (if x = 60 then x else (if x = 61 then x else (if x = 62 then x else 16)))
theorem txL_i {x : Int32} : txL x = true ↔ 97 ≤ x.toInt ∧ x.toInt ≤ 122 := by
  unfold txL
  rw [Bool.and_eq_true, decide_eq_true_iff, decide_eq_true_iff, Int32.le_iff_toInt_le, Int32.le_iff_toInt_le, show (97 : Int32).toInt = 97 by decide, show (122 : Int32).toInt = 122 by decide]
theorem txD_i {x : Int32} : txD x = true ↔ 48 ≤ x.toInt ∧ x.toInt ≤ 57 := by
  unfold txD
  rw [Bool.and_eq_true, decide_eq_true_iff, decide_eq_true_iff, Int32.le_iff_toInt_le, Int32.le_iff_toInt_le, show (48 : Int32).toInt = 48 by decide, show (57 : Int32).toInt = 57 by decide]
theorem txB_i {x : Int32} : txB x = true ↔ x.toInt = 32 ∨ x.toInt = 10 := by
  have a : x = 32 ↔ x.toInt = 32 := ⟨fun h => by rw [h]; decide, fun h => Int32.toInt_inj.mp (by rw [h]; decide)⟩
  have b : x = 10 ↔ x.toInt = 10 := ⟨fun h => by rw [h]; decide, fun h => Int32.toInt_inj.mp (by rw [h]; decide)⟩
  unfold txB
  rw [Bool.or_eq_true, decide_eq_true_iff, decide_eq_true_iff, a, b]
theorem txG_15 (x : Int32) : ¬ txG x = 15 ∧ ¬ txG x = 0 ∧ (¬ txG x = 16 → x = txG x ∧ (x = 59 ∨ x = 60 ∨ x = 61 ∨ x = 62)) ∧ ∀ w : Nat, w < 14 → ¬ txG x = Int32.ofNat (w + 1) := by
  unfold txG
  by_cases h1 : x = 59
  · rw [if_pos h1, h1]; decide
  · rw [if_neg h1]
    by_cases h2 : x = 60
    · rw [if_pos h2, h2]; decide
    · rw [if_neg h2]
      by_cases h3 : x = 61
      · rw [if_pos h3, h3]; decide
      · rw [if_neg h3]
        by_cases h4 : x = 62
        · rw [if_pos h4, h4]; decide
        · rw [if_neg h4]; exact ⟨by decide, by decide, fun h => absurd rfl h, by decide⟩
/-- the end of the blanks, of the letters, of the digits from p on -/
def txsk (T : Nat → Int32) (N p : Nat) : Nat := txR (fun k => txB (T k)) N p
def txln (T : Nat → Int32) (N p : Nat) : Nat := txR (fun k => txL (T k)) N p
def txdn (T : Nat → Int32) (N p : Nat) : Nat := txR (fun k => txD (T k)) N p
abbrev txsp (T : Nat → Int32) (w p q : Nat) : Prop := q - p = lenJ.getD w 0 ∧ ∀ k, k < lenJ.getD w 0 → T (p + k) = (bytJ.getD w []).getD k 0
def txwF (T : Nat → Int32) (p q : Nat) : Nat → Int32
  | 0 => 16
  | f + 1 => if txsp T (13 - f) p q then Int32.ofNat (14 - f) else txwF T p q f
/-- the code of a word -/
def txwc (T : Nat → Int32) (p q : Nat) : Int32 := txwF T p q 14
theorem txwF_is {T : Nat → Int32} {p q : Nat} : ∀ f, f ≤ 14 → (∀ j, 14 - f ≤ j → j < 14 → txsp T j p q → (∀ i, 14 - f ≤ i → i < j → ¬ txsp T i p q) → txwF T p q f = Int32.ofNat (j + 1)) ∧ ((∀ i, 14 - f ≤ i → i < 14 → ¬ txsp T i p q) → txwF T p q f = 16) := by
  intro f
  induction f with
  | zero => intro _; exact ⟨fun j h1 h2 => by omega, fun _ => rfl⟩
  | succ f ih =>
    intro hf
    obtain ⟨a, b⟩ := ih (by omega)
    have e : 14 - (f + 1) = 13 - f := by omega
    rw [e]
    refine ⟨fun j h1 h2 hj hi => ?_, fun hi => ?_⟩
    · show (if txsp T (13 - f) p q then Int32.ofNat (14 - f) else txwF T p q f) = _
      by_cases hs : txsp T (13 - f) p q
      · rw [if_pos hs]
        have : j = 13 - f := Nat.le_antisymm (Nat.not_lt.mp fun h9 => hi (13 - f) (Nat.le_refl _) h9 hs) h1
        rw [this, show 13 - f + 1 = 14 - f by omega]
      · rw [if_neg hs]
        have : ¬ j = 13 - f := fun h9 => hs (h9 ▸ hj)
        exact a j (by omega) h2 hj (fun i h3 h4 => hi i (by omega) h4)
    · show (if txsp T (13 - f) p q then Int32.ofNat (14 - f) else txwF T p q f) = _
      rw [if_neg (hi (13 - f) (Nat.le_refl _) (by omega))]
      exact b (fun i h3 h4 => hi i (by omega) h4)
theorem txdis : ∀ i, i < 14 → ∀ j, j < 14 → i ≠ j → ¬ (lenJ.getD i 0 = lenJ.getD j 0 ∧ ∀ k, k < lenJ.getD i 0 → (bytJ.getD i []).getD k 0 = (bytJ.getD j []).getD k 0) := by decide
theorem txsp_1 {T : Nat → Int32} {p q i j : Nat} (hi : i < 14) (hj : j < 14) (h1 : txsp T i p q) (h2 : txsp T j p q) : i = j := by
  by_cases h : i = j
  · exact h
  · exact absurd ⟨h1.1.symm.trans h2.1, fun k hk => (h1.2 k hk).symm.trans (h2.2 k (by rw [← h2.1, h1.1]; exact hk))⟩ (txdis i hi j hj h)
theorem txwc_y {T : Nat → Int32} {p q w : Nat} (hw : w < 14) (h : txsp T w p q) : txwc T p q = Int32.ofNat (w + 1) := ((txwF_is 14 (Nat.le_refl _)).1 w (by omega) hw h (fun i _ h2 h3 => by have := txsp_1 (by omega) hw h3 h; omega))
theorem txwc_n {T : Nat → Int32} {p q : Nat} (h : ∀ i, i < 14 → ¬ txsp T i p q) : txwc T p q = 16 := (txwF_is 14 (Nat.le_refl _)).2 (fun i _ h2 => h i h2)
theorem txcodes : ∀ i, i < 14 → ∀ j, j < 14 → Int32.ofNat (i + 1) = Int32.ofNat (j + 1) → i = j := by decide
theorem tx16 : ∀ j, j < 14 → ¬ (16 : Int32) = Int32.ofNat (j + 1) := by decide
theorem tx15 : ∀ j, j < 14 → ¬ Int32.ofNat (j + 1) = 15 := by decide
theorem tx00 : ∀ j, j < 14 → ¬ Int32.ofNat (j + 1) = 0 := by decide
theorem txwc_c {T : Nat → Int32} {p q : Nat} : (∃ w, w < 14 ∧ txsp T w p q ∧ txwc T p q = Int32.ofNat (w + 1)) ∨ ((∀ w, w < 14 → ¬ txsp T w p q) ∧ txwc T p q = 16) := by
  by_cases h : ∃ w, w < 14 ∧ txsp T w p q
  · obtain ⟨w, hw, hs⟩ := h
    exact Or.inl ⟨w, hw, hs, txwc_y hw hs⟩
  · have h2 : ∀ w, w < 14 → ¬ txsp T w p q := fun w hw hs => h ⟨w, hw, hs⟩
    exact Or.inr ⟨h2, txwc_n h2⟩
theorem txwc_i {T : Nat → Int32} {p q w : Nat} (hw : w < 14) : txwc T p q = Int32.ofNat (w + 1) ↔ txsp T w p q := by
  refine ⟨fun h => ?_, txwc_y hw⟩
  rcases txwc_c (T := T) (p := p) (q := q) with ⟨v, hv, hs, e⟩ | ⟨hn, e⟩
  · rw [e] at h
    rw [← txcodes v hv w hw h]; exact hs
  · rw [e] at h; exact absurd h (tx16 w hw)
theorem txwc_15 (T : Nat → Int32) (p q : Nat) : ¬ txwc T p q = 15 ∧ ¬ txwc T p q = 0 ∧ (txwc T p q = 16 ∨ ∃ w, w < 14 ∧ txwc T p q = Int32.ofNat (w + 1)) := by
  rcases txwc_c (T := T) (p := p) (q := q) with ⟨v, hv, hs, e⟩ | ⟨hn, e⟩
  · rw [e]; exact ⟨tx15 v hv, tx00 v hv, Or.inr ⟨v, hv, rfl⟩⟩
  · rw [e]; exact ⟨by decide, by decide, Or.inl rfl⟩
/-- a token's code, end, value; the place of the next one -/
def txtc (T : Nat → Int32) (N p : Nat) : Int32 := if p < N then (if txL (T p) = true then txwc T p (txln T N p) else (if txD (T p) = true then (if txdn T N p - p ≤ 4 then 15 else 16) else txG (T p))) else 0
def txte (T : Nat → Int32) (N p : Nat) : Nat := if p < N then (if txL (T p) = true then txln T N p else (if txD (T p) = true then txdn T N p else p + 1)) else p
def txnF (T : Nat → Int32) (a : Nat) : Nat → Int32
  | 0 => 0
  | k + 1 => ((10 * txnF T a k) + T (a + k)) - 48
def txtv (T : Nat → Int32) (N p : Nat) : Int32 := if txtc T N p = 15 then txnF T p (txdn T N p - p) else 0
def txnx (T : Nat → Int32) (N p : Nat) : Nat := txsk T N (txte T N p)
def txpt (T : Nat → Int32) (N : Nat) : Nat → Nat
  | 0 => txsk T N 0
  | i + 1 => txnx T N (txpt T N i)
section TX
variable {T : Nat → Int32} {N p : Nat}
theorem txLD {x : Int32} (h : txL x = true) : ¬ txD x = true := fun g => by rw [txL_i] at h; rw [txD_i] at g; omega
theorem txLB {x : Int32} (h : txL x = true) : ¬ txB x = true := fun g => by rw [txL_i] at h; rw [txB_i] at g; omega
theorem txDB {x : Int32} (h : txD x = true) : ¬ txB x = true := fun g => by rw [txD_i] at h; rw [txB_i] at g; omega
theorem txtc_0 (h : ¬ p < N) : txtc T N p = 0 := by unfold txtc; rw [if_neg h]
theorem txtc_L (h : p < N) (h1 : txL (T p) = true) : txtc T N p = txwc T p (txln T N p) := by unfold txtc; rw [if_pos h, if_pos h1]
theorem txtc_D (h : p < N) (h1 : txD (T p) = true) : txtc T N p = if txdn T N p - p ≤ 4 then 15 else 16 := by unfold txtc; rw [if_pos h, if_neg (fun g => txLD g h1), if_pos h1]
theorem txtc_S (h : p < N) (h1 : ¬ txL (T p) = true) (h2 : ¬ txD (T p) = true) : txtc T N p = txG (T p) := by unfold txtc; rw [if_pos h, if_neg h1, if_neg h2]
theorem txte_0 (h : ¬ p < N) : txte T N p = p := by unfold txte; rw [if_neg h]
theorem txte_L (h : p < N) (h1 : txL (T p) = true) : txte T N p = txln T N p := by unfold txte; rw [if_pos h, if_pos h1]
theorem txte_D (h : p < N) (h1 : txD (T p) = true) : txte T N p = txdn T N p := by unfold txte; rw [if_pos h, if_neg (fun g => txLD g h1), if_pos h1]
theorem txte_S (h : p < N) (h1 : ¬ txL (T p) = true) (h2 : ¬ txD (T p) = true) : txte T N p = p + 1 := by unfold txte; rw [if_pos h, if_neg h1, if_neg h2]
theorem txtc_z (h : p < N) : ¬ txtc T N p = 0 := by
  by_cases h1 : txL (T p) = true
  · rw [txtc_L h h1]; exact (txwc_15 T p _).2.1
  · by_cases h2 : txD (T p) = true
    · rw [txtc_D h h2]
      by_cases h3 : txdn T N p - p ≤ 4
      · rw [if_pos h3]; decide
      · rw [if_neg h3]; decide
    · rw [txtc_S h h1 h2]; exact (txG_15 _).2.1
theorem txtc_zi : txtc T N p = 0 ↔ ¬ p < N := ⟨fun h g => txtc_z g h, txtc_0⟩
theorem txlt_of {l : List Int32} (h : txtc T N p ∈ l) (h0 : ¬ (0 : Int32) ∈ l) : p < N := Nat.not_le.mp fun g => h0 (by rw [← txtc_0 (T := T) (Nat.not_lt.mpr g)]; exact h)
theorem txte_b (h : p ≤ N) : p ≤ txte T N p ∧ txte T N p ≤ N ∧ (p < N → p < txte T N p) := by
  by_cases h0 : p < N
  · by_cases h1 : txL (T p) = true
    · rw [txte_L h0 h1]
      have := txR_s (P := fun k => txL (T k)) h
      exact ⟨this.1, this.2.1, fun _ => txR_gt (P := fun k => txL (T k)) h0 h1⟩
    · by_cases h2 : txD (T p) = true
      · rw [txte_D h0 h2]
        have := txR_s (P := fun k => txD (T k)) h
        exact ⟨this.1, this.2.1, fun _ => txR_gt (P := fun k => txD (T k)) h0 h2⟩
      · rw [txte_S h0 h1 h2]; omega
  · rw [txte_0 h0]; exact ⟨Nat.le_refl _, h, fun g => absurd g h0⟩
theorem txsk_b (h : p ≤ N) : p ≤ txsk T N p ∧ txsk T N p ≤ N ∧ (txsk T N p < N → ¬ txB (T (txsk T N p)) = true) := by
  have := txR_s (P := fun k => txB (T k)) h
  exact ⟨this.1, this.2.1, this.2.2.2⟩
theorem txsk_n (h : p < N → ¬ txB (T p) = true) : txsk T N p = p := txR_no (P := fun k => txB (T k)) (fun g => h g.1 g.2)
theorem txsk_sk (h : p ≤ N) : txsk T N (txsk T N p) = txsk T N p := txsk_n (txsk_b h).2.2
theorem txsk_go (h : p < N) (hb : txB (T p) = true) : txsk T N p = txsk T N (p + 1) := txR_go (P := fun k => txB (T k)) h hb
theorem txnx_b (h : p ≤ N) : txnx T N p ≤ N := (txsk_b (txte_b h).2.1).2.1
theorem txpt_b : ∀ i, txpt T N i ≤ N
  | 0 => (txsk_b (Nat.zero_le N)).2.1
  | i + 1 => txnx_b (txpt_b i)
theorem txtc_15 (h : txtc T N p = 15) : p < N ∧ txD (T p) = true ∧ txdn T N p - p ≤ 4 := by
  have h0 : p < N := Nat.not_le.mp fun g => by rw [txtc_0 (Nat.not_lt.mpr g)] at h; exact absurd h (by decide)
  by_cases h1 : txL (T p) = true
  · rw [txtc_L h0 h1] at h; exact absurd h (txwc_15 T p _).1
  · by_cases h2 : txD (T p) = true
    · rw [txtc_D h0 h2] at h
      by_cases h3 : txdn T N p - p ≤ 4
      · exact ⟨h0, h2, h3⟩
      · rw [if_neg h3] at h; exact absurd h (by decide)
    · rw [txtc_S h0 h1 h2] at h; exact absurd h (txG_15 _).1
theorem txnF_b : ∀ k, k ≤ 4 → (∀ j, j < k → txD (T (p + j)) = true) → 0 ≤ (txnF T p k).toInt ∧ (txnF T p k).toInt < 10 ^ k
  | 0, _, _ => by show 0 ≤ (0 : Int32).toInt ∧ (0 : Int32).toInt < 10 ^ 0; decide
  | k + 1, hk, h => by
    obtain ⟨a, b⟩ := txnF_b k (by omega) (fun j hj => h j (by omega))
    have d := txD_i.mp (h k (by omega))
    have e10 : (10 : Int32).toInt = 10 := by decide
    have e48 : (48 : Int32).toInt = 48 := by decide
    have hb : (10 : Int) ^ k ≤ 10 ^ 3 := by
      have : k = 0 ∨ k = 1 ∨ k = 2 ∨ k = 3 := by omega
      rcases this with rfl | rfl | rfl | rfl <;> decide
    have ep : (10 : Int) ^ (k + 1) = 10 * 10 ^ k := by rw [Int.pow_succ]; omega
    show 0 ≤ (((10 * txnF T p k) + T (p + k)) - 48).toInt ∧ (((10 * txnF T p k) + T (p + k)) - 48).toInt < 10 ^ (k + 1)
    rw [Int32.toInt_sub, Int32.toInt_add, Int32.toInt_mul, e10, e48, ep]
    have hb2 : (10 : Int) ^ 3 = 1000 := by decide
    rw [Int.bmod_eq_of_le (n := 10 * (txnF T p k).toInt) (by omega) (by omega), Int.bmod_eq_of_le (n := 10 * (txnF T p k).toInt + (T (p + k)).toInt) (by omega) (by omega), Int.bmod_eq_of_le (by omega) (by omega)]
    omega
theorem txtv_n (h : txtc T N p = 15) : ¬ txtv T N p = (-1) := by
  obtain ⟨h0, h1, h2⟩ := txtc_15 h
  unfold txtv
  rw [if_pos h]
  have := txnF_b (T := T) (p := p) (txdn T N p - p) h2 (fun j hj => (txR_s (P := fun k => txD (T k)) (Nat.le_of_lt h0)).2.2.1 (p + j) (by omega) (by unfold txdn at hj; omega))
  intro e
  rw [e, show (-1 : Int32).toInt = -1 by decide] at this
  omega
/-- codes in their order: where they hold, the place behind; else the place of the fault -/
def txsq (T : Nat → Int32) (N : Nat) : List (List Int32) → Nat → Bool × Nat
  | [], p => (true, p)
  | l :: ls, p => if txtc T N p ∈ l then txsq T N ls (txnx T N p) else (false, p)
theorem txsq_y {l : List Int32} {ls : List (List Int32)} (h : txtc T N p ∈ l) : txsq T N (l :: ls) p = txsq T N ls (txnx T N p) := by
  show (if txtc T N p ∈ l then txsq T N ls (txnx T N p) else (false, p)) = _
  rw [if_pos h]
theorem txsq_n {l : List Int32} {ls : List (List Int32)} (h : ¬ txtc T N p ∈ l) : txsq T N (l :: ls) p = (false, p) := by
  show (if txtc T N p ∈ l then txsq T N ls (txnx T N p) else (false, p)) = _
  rw [if_neg h]
theorem txsq_a {q : Nat} {bs : List (List Int32)} : ∀ (as : List (List Int32)) (p : Nat), txsq T N as p = (true, q) → txsq T N (as ++ bs) p = txsq T N bs q := by
  intro as
  induction as with
  | nil => intro p h; cases h; rfl
  | cons a as ih =>
    intro p h
    by_cases g : txtc T N p ∈ a
    · rw [txsq_y g] at h
      exact (txsq_y g).trans (ih _ h)
    · rw [txsq_n g] at h; cases h
theorem txsq_f {q : Nat} {bs : List (List Int32)} : ∀ (as : List (List Int32)) (p : Nat), txsq T N as p = (false, q) → txsq T N (as ++ bs) p = (false, q) := by
  intro as
  induction as with
  | nil => intro p h; cases h
  | cons a as ih =>
    intro p h
    by_cases g : txtc T N p ∈ a
    · rw [txsq_y g] at h
      exact (txsq_y g).trans (ih _ h)
    · rw [txsq_n g] at h
      exact (txsq_n g).trans h
end TX
def txTS : List (List Int32) := [[12, 13, 14], [60, 62, 61], [15]]
def txED : List (List Int32) := [[8], [9, 10, 11]]
def txCL : List (List Int32) := [[15], [4], [15], [5], [15], [4], [15]]
/-- the tests of a rule, n more may come; then E -/
def txrl (T : Nat → Int32) (N : Nat) (E : List (List Int32)) : Nat → Nat → Bool × Nat
  | 0, p => (false, p)
  | n + 1, p => if (txsq T N txTS p).1 = true then (if txtc T N (txsq T N txTS p).2 ∈ [7] then txrl T N E n (txnx T N (txsq T N txTS p).2) else txsq T N E (txsq T N txTS p).2) else (false, (txsq T N txTS p).2)
section TX2
variable {T : Nat → Int32} {N p q n : Nat} {E : List (List Int32)}
theorem txrl_n (h : txsq T N txTS p = (false, q)) : txrl T N E (n + 1) p = (false, q) := by
  show (if (txsq T N txTS p).1 = true then _ else _) = _
  rw [h]; rfl
theorem txrl_a (h : txsq T N txTS p = (true, q)) (h7 : txtc T N q ∈ [7]) : txrl T N E (n + 1) p = txrl T N E n (txnx T N q) := by
  show (if (txsq T N txTS p).1 = true then (if txtc T N (txsq T N txTS p).2 ∈ [7] then _ else _) else _) = _
  rw [h, if_pos rfl, if_pos h7]
theorem txrl_e (h : txsq T N txTS p = (true, q)) (h7 : ¬ txtc T N q ∈ [7]) : txrl T N E (n + 1) p = txsq T N E q := by
  show (if (txsq T N txTS p).1 = true then (if txtc T N (txsq T N txTS p).2 ∈ [7] then _ else _) else _) = _
  rw [h, if_pos rfl, if_neg h7]
theorem txrl_x : ∀ (n p : Nat) (bs : List (List Int32)), (∀ q, txrl T N E n p = (true, q) → txrl T N (E ++ bs) n p = txsq T N bs q) ∧ (∀ q, txrl T N E n p = (false, q) → txrl T N (E ++ bs) n p = (false, q)) := by
  intro n
  induction n with
  | zero => intro p bs; exact ⟨fun q h => (by cases h), fun q h => h⟩
  | succ n ih =>
    intro p bs
    obtain ⟨b, r⟩ : ∃ b r, txsq T N txTS p = (b, r) := ⟨_, _, rfl⟩
    obtain ⟨r, h9⟩ := r
    cases b with
    | false => exact ⟨fun q h => (by rw [txrl_n h9] at h; cases h), fun q h => (by rw [txrl_n h9] at h ⊢; exact h)⟩
    | true =>
      by_cases h7 : txtc T N r ∈ [7]
      · rw [txrl_a (E := E) h9 h7, txrl_a (E := E ++ bs) h9 h7]
        exact ih _ bs
      · rw [txrl_e (E := E) h9 h7, txrl_e (E := E ++ bs) h9 h7]
        exact ⟨fun q h => txsq_a E r h, fun q h => txsq_f E r h⟩
end TX2
/-- a statement: whether it holds, the place behind it or of its fault -/
def txst (T : Nat → Int32) (N p : Nat) : Bool × Nat := if txtc T N p ∈ [1] then txsq T N [[15], [59]] (txnx T N p) else (if txtc T N p ∈ [2] then txsq T N [[15], [59]] (txnx T N p) else (if txtc T N p ∈ [3] then txsq T N (txCL ++ [[59]]) (txnx T N p) else (if txtc T N p ∈ [6] then txrl T N (txED ++ [[59]]) 3 (txnx T N p) else (false, p))))
abbrev txCT : Type := Int32 × Int32 × List (Int32 × Int32 × Int32 × Int32)
/-- what a statement that holds does to LIMIT, DEPTH and the closings -/
def txef (T : Nat → Int32) (N p : Nat) (c : txCT) : txCT := if txtc T N p ∈ [1] then (txtv T N (txnx T N p), c.2.1, c.2.2) else (if txtc T N p ∈ [2] then (c.1, txtv T N (txnx T N p), c.2.2) else (if txtc T N p ∈ [3] then (c.1, c.2.1, c.2.2 ++ [(txtv T N (txnx T N p), txtv T N (txnx T N (txnx T N (txnx T N p))), txtv T N (txnx T N (txnx T N (txnx T N (txnx T N (txnx T N p))))), txtv T N (txnx T N (txnx T N (txnx T N (txnx T N (txnx T N (txnx T N (txnx T N p))))))))]) else c))
/-- a text of at most n statements from p on: whether it holds, the place of the fault -/
def txlw (T : Nat → Int32) (N : Nat) : Nat → Nat → Bool × Nat
  | 0, p => if txtc T N p = 0 then (true, p) else (false, p)
  | n + 1, p => if txtc T N p = 0 then (true, p) else (if (txst T N p).1 = true then txlw T N n (txst T N p).2 else (false, (txst T N p).2))
def txlc (T : Nat → Int32) (N : Nat) : Nat → Nat → txCT → txCT
  | 0, _, c => c
  | n + 1, p, c => if txtc T N p = 0 then c else txlc T N n (txst T N p).2 (txef T N p c)
section TX3
variable {T : Nat → Int32} {N p q n : Nat}
theorem txlw_0 (h : txtc T N p = 0) : txlw T N n p = (true, p) := by
  cases n with
  | zero => show (if txtc T N p = 0 then _ else _) = _; rw [if_pos h]
  | succ n => show (if txtc T N p = 0 then _ else _) = _; rw [if_pos h]
theorem txlw_z (h : ¬ txtc T N p = 0) : txlw T N 0 p = (false, p) := by show (if txtc T N p = 0 then _ else _) = _; rw [if_neg h]
theorem txlw_y (h : ¬ txtc T N p = 0) (hs : txst T N p = (true, q)) : txlw T N (n + 1) p = txlw T N n q := by
  show (if txtc T N p = 0 then _ else (if (txst T N p).1 = true then _ else _)) = _
  rw [if_neg h, hs, if_pos rfl]
theorem txlw_n (h : ¬ txtc T N p = 0) (hs : txst T N p = (false, q)) : txlw T N (n + 1) p = (false, q) := by
  show (if txtc T N p = 0 then _ else (if (txst T N p).1 = true then _ else _)) = _
  rw [if_neg h, hs]; rfl
theorem txlc_0 (h : txtc T N p = 0) (c : txCT) : txlc T N n p c = c := by
  cases n with
  | zero => rfl
  | succ n => show (if txtc T N p = 0 then _ else _) = _; rw [if_pos h]
theorem txlc_y (h : ¬ txtc T N p = 0) (hs : txst T N p = (true, q)) (c : txCT) : txlc T N (n + 1) p c = txlc T N n q (txef T N p c) := by
  show (if txtc T N p = 0 then _ else txlc T N n (txst T N p).2 (txef T N p c)) = _
  rw [if_neg h, hs]
theorem txef_len (c : txCT) : (txef T N p c).2.2.length ≤ c.2.2.length + 1 := by
  unfold txef
  by_cases h1 : txtc T N p ∈ [1]
  · rw [if_pos h1]; exact Nat.le_succ _
  · rw [if_neg h1]
    by_cases h2 : txtc T N p ∈ [2]
    · rw [if_pos h2]; exact Nat.le_succ _
    · rw [if_neg h2]
      by_cases h3 : txtc T N p ∈ [3]
      · rw [if_pos h3]; simp
      · rw [if_neg h3]; exact Nat.le_succ _
theorem txst_1 (h : txtc T N p ∈ [1]) : txst T N p = txsq T N [[15], [59]] (txnx T N p) := by unfold txst; rw [if_pos h]
theorem txst_2 (h : txtc T N p ∈ [2]) : txst T N p = txsq T N [[15], [59]] (txnx T N p) := by
  unfold txst
  by_cases h1 : txtc T N p ∈ [1]
  · rw [if_pos h1]
  · rw [if_neg h1, if_pos h]
theorem tx12 {a b : Int32} (h : txtc T N p ∈ [a]) (hab : ¬ a = b) : ¬ txtc T N p ∈ [b] := fun g => hab ((List.mem_singleton.mp h).symm.trans (List.mem_singleton.mp g))
theorem txst_3 (h : txtc T N p ∈ [3]) : txst T N p = txsq T N (txCL ++ [[59]]) (txnx T N p) := by unfold txst; rw [if_neg (tx12 h (by decide)), if_neg (tx12 h (by decide)), if_pos h]
theorem txst_6 (h : txtc T N p ∈ [6]) : txst T N p = txrl T N (txED ++ [[59]]) 3 (txnx T N p) := by unfold txst; rw [if_neg (tx12 h (by decide)), if_neg (tx12 h (by decide)), if_neg (tx12 h (by decide)), if_pos h]
theorem txst_n (h1 : ¬ txtc T N p ∈ [1]) (h2 : ¬ txtc T N p ∈ [2]) (h3 : ¬ txtc T N p ∈ [3]) (h6 : ¬ txtc T N p ∈ [6]) : txst T N p = (false, p) := by unfold txst; rw [if_neg h1, if_neg h2, if_neg h3, if_neg h6]
theorem txef_1 (h : txtc T N p ∈ [1]) (c : txCT) : txef T N p c = (txtv T N (txnx T N p), c.2.1, c.2.2) := by unfold txef; rw [if_pos h]
theorem txef_2 (h : txtc T N p ∈ [2]) (c : txCT) : txef T N p c = (c.1, txtv T N (txnx T N p), c.2.2) := by unfold txef; rw [if_neg (tx12 h (by decide)), if_pos h]
theorem txef_3 (h : txtc T N p ∈ [3]) (c : txCT) : txef T N p c = (c.1, c.2.1, c.2.2 ++ [(txtv T N (txnx T N p), txtv T N (txnx T N (txnx T N (txnx T N p))), txtv T N (txnx T N (txnx T N (txnx T N (txnx T N (txnx T N p))))), txtv T N (txnx T N (txnx T N (txnx T N (txnx T N (txnx T N (txnx T N (txnx T N p))))))))]) := by unfold txef; rw [if_neg (tx12 h (by decide)), if_neg (tx12 h (by decide)), if_pos h]
theorem txef_6 (h : txtc T N p ∈ [6]) (c : txCT) : txef T N p c = c := by unfold txef; rw [if_neg (tx12 h (by decide)), if_neg (tx12 h (by decide)), if_neg (tx12 h (by decide))]
end TX3

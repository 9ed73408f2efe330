/-! the reference's text: signed bytes, words packed into longs -/
def BY (s u : Int32) : Prop := (-128 ≤ s.toInt ∧ s.toInt ≤ 127) ∧ u = s &&& 255
def bySg (n : Nat) : Int32 := Int32.ofNat n - 128
theorem by_dec : ∀ n, n < 256 → txL (bySg n &&& 255) = txL (bySg n) ∧ txD (bySg n &&& 255) = txD (bySg n) ∧ txB (bySg n &&& 255) = txB (bySg n) ∧ txG (bySg n &&& 255) = txG (bySg n) ∧ (txL (bySg n) = true → bySg n &&& 255 = bySg n) ∧ (txD (bySg n) = true → bySg n &&& 255 = bySg n) ∧ (¬ txG (bySg n) = 16 → bySg n &&& 255 = bySg n) := by decide +kernel
theorem by_sg {s : Int32} (h : -128 ≤ s.toInt ∧ s.toInt ≤ 127) : ∃ n, n < 256 ∧ s = bySg n := by
  refine ⟨(s.toInt + 128).toNat, by omega, Int32.toInt_inj.mp ?_⟩
  unfold bySg
  rw [Int32.toInt_sub, ofN_toInt (by omega), show (128 : Int32).toInt = 128 by decide, Int.bmod_eq_of_le (by omega) (by omega)]
  omega
theorem by_all {s u : Int32} (h : BY s u) : txL u = txL s ∧ txD u = txD s ∧ txB u = txB s ∧ txG u = txG s ∧ (txL s = true → u = s) ∧ (txD s = true → u = s) ∧ (¬ txG s = 16 → u = s) := by
  obtain ⟨n, hn, e⟩ := by_sg h.1
  rw [h.2, e]
  exact by_dec n hn
/-- where the reference stands: the next token is at p -/
def RSx (T : Nat → Int32) (N : Nat) (M : MT) (p : Nat) : Prop := ParI M ∧ (M 0 28).toInt = (N : Int) ∧ N ≤ 500 ∧ (∀ k, k < N → BY (M 17 k) (T k)) ∧ ∃ a : Nat, (M 0 29).toInt = (a : Int) ∧ txsk T N a = p
section RSX
variable {T : Nat → Int32} {N p : Nat} {M M1 : MT} {P : Nat → Prop}
theorem RS_le (h : RSx T N M p) : p ≤ N ∧ N ≤ 500 := by
  obtain ⟨h1, h2, h3, -, a, ha, rfl⟩ := h
  have := h1.2.2.2
  exact ⟨(txsk_b (by omega)).2.1, h3⟩
theorem RS_sk (h : RSx T N M p) : txsk T N p = p := by
  obtain ⟨h1, h2, h3, -, a, ha, rfl⟩ := h
  have := h1.2.2.2
  exact txsk_sk (by omega)
theorem RS_at (h : RSx T N M p) (k : Kt P M M1) (h17 : P 17) {q : Nat} (e : M1 0 29 = Int32.ofNat q) (hq : q ≤ N) : RSx T N M1 (txsk T N q) := ⟨k.1, by rw [k.2.1 28 (by decide) (by decide) (by decide)]; exact h.2.1, h.2.2.1, fun j hj => by rw [k.2.2 17 h17]; exact h.2.2.2.1 j hj, q, by have := h.2.2.1; rw [e]; exact ofN_toInt (by omega), rfl⟩
theorem RS_st (h : RSx T N M p) (k : Kt P M M1) (h17 : P 17) (e : M1 0 29 = Int32.ofNat p) : RSx T N M1 p := by
  have := RS_at h k h17 e (RS_le h).1
  rw [RS_sk h] at this
  exact this
theorem RS_nx (h : RSx T N M p) (k : Kt P M M1) (h17 : P 17) (e : M1 0 29 = Int32.ofNat (txte T N p)) : RSx T N M1 (txnx T N p) := RS_at h k h17 e (txte_b (RS_le h).1).2.1
theorem RS_w (h : RSx T N M p) (hp : ParI M1) (e0 : M1 0 = M 0) (e17 : M1 17 = M 17) : RSx T N M1 p := ⟨hp, by rw [e0]; exact h.2.1, h.2.2.1, by rw [e17]; exact h.2.2.2.1, by rw [e0]; exact h.2.2.2.2⟩
theorem RS_mv (h : RSx T N M p) {q : Nat} {v : Int32} (e : v = Int32.ofNat q) (hq : q ≤ N) : RSx T N (up2 M 0 29 v) (txsk T N q) := by
  obtain ⟨⟨i1, i2, i3⟩, h2, h3, h4, -⟩ := h
  have ev : v.toInt = (q : Int) := by rw [e]; exact ofN_toInt (by omega)
  refine ⟨⟨InvS_0 i1 (by decide) v, by rw [up_k (by decide) rfl]; exact i2, by rw [up_s, up_k (by decide) rfl]; omega⟩, by rw [up_k (by decide) rfl]; exact h2, h3, by rw [upo (by decide)]; exact h4, q, by rw [up_s]; exact ev, rfl⟩
theorem kt_b (h : RSx T N M p) {q : Nat} {v : Int32} (e : v = Int32.ofNat q) (hq : q ≤ N) : 0 ≤ v.toInt ∧ v.toInt ≤ (M 0 28).toInt := by
  have h3 := h.2.2.1
  rw [h.2.1, e, ofN_toInt (by omega)]
  omega
theorem rs_c {x : Int32} {a : Nat} (h : RSx T N M p) (k : Kt P M M1) (h17 : P 17) (hx : x.toInt = (a : Int)) : ((M1 0 28) ≤ x ↔ N ≤ a) ∧ (a < N → BY (M1 17 (Int32.toNatClampNeg x)) (T a)) := by
  refine ⟨?_, fun ha => ?_⟩
  · rw [Int32.le_iff_toInt_le, k.2.1 28 (by decide) (by decide) (by decide), h.2.1, hx]; omega
  · rw [k.2.2 17 h17, nat_eq hx]; exact h.2.2.2.1 a ha
theorem b17 : bP 17 := fun q => absurd q (by decide)
theorem t17 : tP 17 := ⟨fun q => absurd q (by decide), Or.inl (by decide)⟩
theorem s17 : sP 17 := ⟨fun q => absurd q (by decide), Or.inl (by decide)⟩
theorem ofN_eq {x : Int32} {a : Nat} (h : x.toInt = (a : Int)) (ha : a ≤ 1000) : x = Int32.ofNat a := of_toInt h (by omega)
/-- a blank, or none -/
theorem bl_y {a : Nat} {s : Int32} (h : BY s (T a)) (c : s = 32 ∨ s = 10) : txB (T a) = true := by
  rw [(by_all h).2.2.1]
  rcases c with rfl | rfl <;> decide
theorem bl_n {a : Nat} {s : Int32} (h : BY s (T a)) (c1 : ¬ s = 32) (c2 : ¬ s = 10) : ¬ txB (T a) = true := by
  rw [(by_all h).2.2.1]
  unfold txB
  rw [Bool.or_eq_true, decide_eq_true_iff, decide_eq_true_iff]
  exact fun g => g.elim c1 c2
theorem le_y {a : Nat} {s : Int32} (h : BY s (T a)) (c1 : ¬ s < 97) (c2 : ¬ 122 < s) : txL (T a) = true ∧ T a = s := by
  have e1 : (97 : Int32).toInt = 97 := by decide
  have e2 : (122 : Int32).toInt = 122 := by decide
  rw [Int32.lt_iff_toInt_lt, e1] at c1
  rw [Int32.lt_iff_toInt_lt, e2] at c2
  have hs : txL s = true := by rw [txL_i]; omega
  exact ⟨by rw [(by_all h).1]; exact hs, (by_all h).2.2.2.2.1 hs⟩
theorem le_n {a : Nat} {s : Int32} (h : BY s (T a)) (c : s < 97 ∨ 122 < s) : ¬ txL (T a) = true := by
  have e1 : (97 : Int32).toInt = 97 := by decide
  have e2 : (122 : Int32).toInt = 122 := by decide
  rw [Int32.lt_iff_toInt_lt, Int32.lt_iff_toInt_lt, e1, e2] at c
  rw [(by_all h).1, txL_i]; omega
theorem di_y {a : Nat} {s : Int32} (h : BY s (T a)) (c1 : ¬ s < 48) (c2 : ¬ 57 < s) : txD (T a) = true ∧ T a = s := by
  have e1 : (48 : Int32).toInt = 48 := by decide
  have e2 : (57 : Int32).toInt = 57 := by decide
  rw [Int32.lt_iff_toInt_lt, e1] at c1
  rw [Int32.lt_iff_toInt_lt, e2] at c2
  have hs : txD s = true := by rw [txD_i]; omega
  exact ⟨by rw [(by_all h).2.1]; exact hs, (by_all h).2.2.2.2.2.1 hs⟩
theorem di_n {a : Nat} {s : Int32} (h : BY s (T a)) (c : s < 48 ∨ 57 < s) : ¬ txD (T a) = true := by
  have e1 : (48 : Int32).toInt = 48 := by decide
  have e2 : (57 : Int32).toInt = 57 := by decide
  rw [Int32.lt_iff_toInt_lt, Int32.lt_iff_toInt_lt, e1, e2] at c
  rw [(by_all h).2.1, txD_i]; omega
end RSX
theorem ltS {P : Nat → Prop} {k : Nat} (h : ∀ j, j < k → P j) (hk : P k) : ∀ j, j < k + 1 → P j := fun j hj => by
  by_cases g : j = k
  · rw [g]; exact hk
  · exact h j (by omega)
theorem n4 {k : Nat} (h : 4 ≤ k) : (if k ≤ 4 then k else 4) = 4 := by
  by_cases g : k ≤ 4
  · rw [if_pos g]; omega
  · rw [if_neg g]
/-- letters packed to the base 256 -/
def pkG (f : Nat → Nat) : Nat → Nat
  | 0 => 0
  | k + 1 => pkG f k * 256 + f k
theorem pkG_inj {f g : Nat → Nat} : ∀ (k l : Nat), (∀ j, j < k → 1 ≤ f j ∧ f j ≤ 255) → (∀ j, j < l → 1 ≤ g j ∧ g j ≤ 255) → pkG f k = pkG g l → k = l ∧ ∀ j, j < k → f j = g j := by
  intro k
  induction k with
  | zero =>
    intro l _ hg h
    cases l with
    | zero => exact ⟨rfl, fun j hj => absurd hj (Nat.not_lt_zero j)⟩
    | succ l =>
      have := hg l (by omega)
      have h9 : 0 = pkG g l * 256 + g l := h
      omega
  | succ k ih =>
    intro l hf hg h
    cases l with
    | zero =>
      have := hf k (by omega)
      have h9 : pkG f k * 256 + f k = 0 := h
      omega
    | succ l =>
      have a := hf k (by omega)
      have b := hg l (by omega)
      have h9 : pkG f k * 256 + f k = pkG g l * 256 + g l := h
      obtain ⟨e, hj⟩ := ih l (fun j hj => hf j (by omega)) (fun j hj => hg j (by omega)) (by omega)
      subst e
      refine ⟨rfl, fun j h1 => ?_⟩
      by_cases h2 : j = k
      · subst h2; omega
      · exact hj j (by omega)
theorem pkG_b {f : Nat → Nat} : ∀ k, (∀ j, j < k → f j ≤ 255) → pkG f k < 256 ^ k
  | 0, _ => by show 0 < 256 ^ 0; decide
  | k + 1, h => by
    have := pkG_b k (fun j hj => h j (by omega))
    have h2 := h k (by omega)
    show pkG f k * 256 + f k < 256 ^ (k + 1)
    rw [Nat.pow_succ]; omega
theorem pkG_c {f g : Nat → Nat} : ∀ k, (∀ j, j < k → f j = g j) → pkG f k = pkG g k
  | 0, _ => rfl
  | k + 1, h => by
    show pkG f k * 256 + f k = pkG g k * 256 + g k
    rw [pkG_c k (fun j hj => h j (by omega)), h k (by omega)]
def w64 (T : Nat → Int32) (p k : Nat) : Int64 := if k ≤ 7 then Int64.ofNat (pkG (fun j => (T (p + j)).toInt.toNat) k) else 0
def kWd (d : Nat) : Nat := [465625246068, 431198598248, 427021005669, 29807, 1718775661, 26982, 6385252, 1952998766, 1953854062, 1936027236, 1801807216, 1751474548, 512802253683, 1953459827].getD d 0
def bdG (d j : Nat) : Nat := ((bytJ.getD d []).getD j 0).toInt.toNat
theorem kWd_p : ∀ d, d < 14 → kWd d = pkG (bdG d) (lenJ.getD d 0) ∧ 0 < kWd d ∧ kWd d < 256 ^ 7 ∧ lenJ.getD d 0 ≤ 5 ∧ ∀ j, j < lenJ.getD d 0 → 97 ≤ ((bytJ.getD d []).getD j 0).toInt ∧ ((bytJ.getD d []).getD j 0).toInt ≤ 122 := by decide +kernel
theorem o64_inj {a b : Nat} (ha : a < 256 ^ 7) (hb : b < 256 ^ 7) (h : Int64.ofNat a = Int64.ofNat b) : a = b := by
  have e := congrArg Int64.toInt h
  have e7 : (256 : Nat) ^ 7 = 72057594037927936 := by decide
  rw [e7] at ha hb
  rw [Int64.toInt_ofNat_of_lt (by omega), Int64.toInt_ofNat_of_lt (by omega)] at e
  omega
/-- the packed word is the d-th one just where the letters spell it -/
theorem w64_i {T : Nat → Int32} {p k d : Nat} (hd : d < 14) (hl : ∀ j, j < k → txL (T (p + j)) = true) : w64 T p k = Int64.ofNat (kWd d) ↔ txsp T d p (p + k) := by
  obtain ⟨e, h0, h7, h5, hb⟩ := kWd_p d hd
  have hr : ∀ j, j < k → 1 ≤ (T (p + j)).toInt.toNat ∧ (T (p + j)).toInt.toNat ≤ 255 := fun j hj => by have := txL_i.mp (hl j hj); omega
  have hg : ∀ j, j < lenJ.getD d 0 → 1 ≤ bdG d j ∧ bdG d j ≤ 255 := fun j hj => by have := hb j hj; unfold bdG; omega
  unfold w64
  by_cases hk : k ≤ 7
  · rw [if_pos hk]
    have hlt : pkG (fun j => (T (p + j)).toInt.toNat) k < 256 ^ 7 := Nat.lt_of_lt_of_le (pkG_b k (fun j hj => (hr j hj).2)) (Nat.pow_le_pow_right (by decide) hk)
    refine ⟨fun h => ?_, fun h => ?_⟩
    · have h2 := o64_inj hlt h7 h
      rw [e] at h2
      obtain ⟨h3, h4⟩ := pkG_inj k _ hr hg h2
      refine ⟨by omega, fun j hj => Int32.toInt_inj.mp ?_⟩
      have a := h4 j (by omega)
      have b := txL_i.mp (hl j (by omega))
      have c := hb j hj
      unfold bdG at a
      omega
    · have hk2 : k = lenJ.getD d 0 := by have := h.1; omega
      rw [e, ← hk2]
      congr 1
      refine pkG_c k (fun j hj => ?_)
      show (T (p + j)).toInt.toNat = bdG d j
      unfold bdG
      rw [h.2 j (by omega)]
  · rw [if_neg hk]
    refine ⟨fun h => ?_, fun h => absurd h.1 (by omega)⟩
    have h2 := o64_inj (a := 0) (by decide) h7 h
    omega
theorem w64_y {T : Nat → Int32} {p k : Nat} {x : Int32} (hk : k < 7) (hx : T (p + k) = x) (hl : txL x = true) (hl2 : ∀ j, j < k → txL (T (p + j)) = true) : (w64 T p k <<< ((8 : Int32).toInt64 &&& 63)) ||| x.toInt64 = w64 T p (k + 1) := by
  have hr := txL_i.mp hl
  have hb := pkG_b (f := fun j => (T (p + j)).toInt.toNat) k (fun j hj => by have := txL_i.mp (hl2 j hj); omega)
  have hp : (256 : Nat) ^ k ≤ 256 ^ 6 := Nat.pow_le_pow_right (by decide) (by omega)
  have e6 : (256 : Nat) ^ 6 = 281474976710656 := by decide
  have e8 : ((8 : Int32).toInt64 &&& 63) = 8 := by decide
  have ex : x.toInt64 = Int64.ofNat x.toInt.toNat := Int64.toInt_inj.mp (by
    rw [Int32.toInt_toInt64, Int64.toInt_ofNat_of_lt (by omega)]; omega)
  unfold w64
  rw [if_pos (by omega), if_pos (by omega), e8, ex]
  show (Int64.ofNat (pkG (fun j => (T (p + j)).toInt.toNat) k) <<< (8 : Int64)) ||| Int64.ofNat x.toInt.toNat = Int64.ofNat (pkG (fun j => (T (p + j)).toInt.toNat) k * 256 + (T (p + k)).toInt.toNat)
  rw [hx]
  generalize pkG (fun j => (T (p + j)).toInt.toNat) k = a at hb ⊢
  generalize hy : x.toInt.toNat = y
  have hy2 : y < 256 := by omega
  apply Int64.toBitVec_inj.mp
  rw [Int64.toBitVec_or, Int64.toBitVec_shiftLeft]
  apply BitVec.eq_of_toNat_eq
  have ea : (Int64.ofNat a).toBitVec.toNat = a := by
    show (BitVec.ofNat 64 a).toNat = a
    rw [BitVec.toNat_ofNat, Nat.mod_eq_of_lt (by omega)]
  have ey : (Int64.ofNat y).toBitVec.toNat = y := by
    show (BitVec.ofNat 64 y).toNat = y
    rw [BitVec.toNat_ofNat, Nat.mod_eq_of_lt (by omega)]
  have es : (Int64.ofNat (a * 256 + y)).toBitVec.toNat = a * 256 + y := by
    show (BitVec.ofNat 64 (a * 256 + y)).toNat = _
    rw [BitVec.toNat_ofNat, Nat.mod_eq_of_lt (by omega)]
  have e9 : ((8 : Int64).toBitVec.smod 64) = 8#64 := by decide
  rw [es, BitVec.toNat_or, ey, e9, BitVec.shiftLeft_eq', BitVec.toNat_shiftLeft, ea, show (8#64).toNat = 8 by decide, Nat.shiftLeft_eq, show (2 : Nat) ^ 8 = 256 by decide, Nat.mod_eq_of_lt (by omega)]
  have := Nat.shiftLeft_add_eq_or_of_lt (i := 8) (b := y) (by omega) a
  rw [Nat.shiftLeft_eq, show (2 : Nat) ^ 8 = 256 by decide] at this
  exact this.symm
theorem w64_n {T : Nat → Int32} {p k : Nat} (hk : ¬ k < 7) : (0 : Int64) = w64 T p (k + 1) := by unfold w64; rw [if_neg (by omega)]
theorem w64_0 (T : Nat → Int32) (p : Nat) : (0 : Int64) = w64 T p 0 := rfl
theorem w64_e {T : Nat → Int32} {p k : Nat} (hk : ¬ k ≤ 7) : (0 : Int64) = w64 T p k := by unfold w64; rw [if_neg hk]
/-- the packed word against the token's code -/
theorem wd_i {T : Nat → Int32} {N p d : Nat} (hp : p ≤ N) (hd : d < 14) : w64 T p (txln T N p - p) = Int64.ofNat (kWd d) ↔ txtc T N p = Int32.ofNat (d + 1) := by
  have hs := txR_s (P := fun k => txL (T k)) hp
  have hle : p ≤ txln T N p := hs.1
  have hl : ∀ j, j < txln T N p - p → txL (T (p + j)) = true := fun j hj => hs.2.2.1 (p + j) (by omega) (by unfold txln at hj; omega)
  rw [w64_i hd hl, show p + (txln T N p - p) = txln T N p by omega]
  by_cases h0 : p < N
  · by_cases h1 : txL (T p) = true
    · rw [txtc_L h0 h1]; exact (txwc_i hd).symm
    · have e : txln T N p = p := txR_no (P := fun k => txL (T k)) (fun g => h1 g.2)
      have h5 := (kWd_p d hd)
      refine ⟨fun h => ?_, fun h => ?_⟩
      · have h6 := h.1
        rw [e] at h6
        have h7 : lenJ.getD d 0 = 0 := by omega
        have h8 := h5.1
        rw [h7] at h8
        have : kWd d = 0 := h8
        omega
      · by_cases h2 : txD (T p) = true
        · rw [txtc_D h0 h2] at h
          by_cases h3 : txdn T N p - p ≤ 4
          · rw [if_pos h3] at h; exact absurd h.symm (tx15 d hd)
          · rw [if_neg h3] at h; exact absurd h (tx16 d hd)
        · rw [txtc_S h0 h1 h2] at h; exact absurd h ((txG_15 _).2.2.2 d hd)
  · have e : txln T N p = p := txR_no (P := fun k => txL (T k)) (fun g => h0 g.1)
    refine ⟨fun h => ?_, fun h => ?_⟩
    · have h6 := h.1
      rw [e] at h6
      have h7 : lenJ.getD d 0 = 0 := by omega
      have h8 := (kWd_p d hd).1
      rw [h7] at h8
      have h9 := (kWd_p d hd).2.1
      have : kWd d = 0 := h8
      omega
    · rw [txtc_0 h0] at h; exact absurd h.symm (tx00 d hd)
theorem wd_c {T : Nat → Int32} {N p d : Nat} {x : Int64} (hp : p ≤ N) (hd : d < 14) (hx : x = Int64.ofNat (kWd d)) : lg_cmp (w64 T p (txln T N p - p)) x = 0 ↔ txtc T N p = Int32.ofNat (d + 1) := by
  rw [lg_cmp_eq, hx]; exact wd_i hp hd
theorem te_w {T : Nat → Int32} {N p d : Nat} (hd : d < 14) (h : txtc T N p = Int32.ofNat (d + 1)) : txte T N p = txln T N p ∧ p < N := by
  have h0 : p < N := Nat.not_le.mp fun g => by rw [txtc_0 (Nat.not_lt.mpr g)] at h; exact absurd h.symm (tx00 d hd)
  by_cases h1 : txL (T p) = true
  · exact ⟨txte_L h0 h1, h0⟩
  · by_cases h2 : txD (T p) = true
    · rw [txtc_D h0 h2] at h
      by_cases h3 : txdn T N p - p ≤ 4
      · rw [if_pos h3] at h; exact absurd h.symm (tx15 d hd)
      · rw [if_neg h3] at h; exact absurd h (tx16 d hd)
    · rw [txtc_S h0 h1 h2] at h; exact absurd h ((txG_15 _).2.2.2 d hd)
theorem gsig : ∀ c : Int32, c ∈ [59, 60, 61, 62] → txG c = c ∧ ¬ txL c = true ∧ ¬ txD c = true ∧ ¬ c = 16 ∧ ¬ c = 15 ∧ ¬ c = 0 := by decide
theorem gsw : ∀ c : Int32, c ∈ [59, 60, 61, 62] → ∀ d, d < 14 → ¬ Int32.ofNat (d + 1) = c := by decide
/-- a single sign -/
theorem sg_i {T : Nat → Int32} {N p : Nat} {s c : Int32} (h0 : p < N) (h : BY s (T p)) (hc : c ∈ [59, 60, 61, 62]) : s = c ↔ txtc T N p = c := by
  obtain ⟨g1, g2, g3, g4, g5, g6⟩ := gsig c hc
  have ha := by_all h
  refine ⟨fun e => ?_, fun e => ?_⟩
  · subst e
    rw [txtc_S h0 (by rw [ha.1]; exact g2) (by rw [ha.2.1]; exact g3), ha.2.2.2.1]
    exact g1
  · by_cases h1 : txL (T p) = true
    · rw [txtc_L h0 h1] at e
      rcases (txwc_15 T p (txln T N p)).2.2 with q | ⟨d, hd, q⟩
      · rw [q] at e; exact absurd e.symm g4
      · rw [q] at e; exact absurd e (gsw c hc d hd)
    · by_cases h2 : txD (T p) = true
      · rw [txtc_D h0 h2] at e
        by_cases h3 : txdn T N p - p ≤ 4
        · rw [if_pos h3] at e; exact absurd e.symm g5
        · rw [if_neg h3] at e; exact absurd e.symm g4
      · rw [txtc_S h0 h1 h2, ha.2.2.2.1] at e
        have := (txG_15 s).2.2.1 (by rw [e]; exact g4)
        rw [← e]; exact this.1
theorem te_s {T : Nat → Int32} {N p : Nat} {c : Int32} (hc : c ∈ [59, 60, 61, 62]) (h : txtc T N p = c) : txte T N p = p + 1 ∧ p < N := by
  obtain ⟨g1, g2, g3, g4, g5, g6⟩ := gsig c hc
  have h0 : p < N := Nat.not_le.mp fun g => by rw [txtc_0 (Nat.not_lt.mpr g)] at h; exact g6 h.symm
  by_cases h1 : txL (T p) = true
  · rw [txtc_L h0 h1] at h
    rcases (txwc_15 T p (txln T N p)).2.2 with q | ⟨d, hd, q⟩
    · rw [q] at h; exact absurd h.symm g4
    · rw [q] at h; exact absurd h (gsw c hc d hd)
  · by_cases h2 : txD (T p) = true
    · rw [txtc_D h0 h2] at h
      by_cases h3 : txdn T N p - p ≤ 4
      · rw [if_pos h3] at h; exact absurd h.symm g5
      · rw [if_neg h3] at h; exact absurd h.symm g4
    · exact ⟨txte_S h0 h1 h2, h0⟩
section RSY
variable {T : Nat → Int32} {N p : Nat} {M : MT}
/-- 'at' stands at p: is the text at its end, which sign is there -/
theorem at_e (h : RSx T N M p) (e : M 0 29 = Int32.ofNat p) : (M 0 29) = (M 0 28) ↔ ¬ p < N := by
  have hl := RS_le h
  rw [← Int32.toInt_inj, e, ofN_toInt (by omega), h.2.1]
  omega
theorem at_s {c : Int32} (h : RSx T N M p) (e : M 0 29 = Int32.ofNat p) (hn : ¬ (M 0 29) = (M 0 28)) (hc : c ∈ [59, 60, 61, 62]) : M 17 (Int32.toNatClampNeg (M 0 29)) = c ↔ txtc T N p = c := by
  have hl := RS_le h
  have hp : p < N := Classical.byContradiction fun g => hn ((at_e h e).mpr g)
  rw [e, ofN_clamp (by omega)]
  exact sg_i hp (h.2.2.2.1 p hp) hc
theorem at_0 {l : List Int32} (h : RSx T N M p) (e : M 0 29 = Int32.ofNat p) (hn : (M 0 29) = (M 0 28)) (h0 : ¬ (0 : Int32) ∈ l) : ¬ txtc T N p ∈ l := by
  rw [txtc_0 ((at_e h e).mp hn)]; exact h0
theorem at_1 {q : Nat} (e : M 0 29 = Int32.ofNat p) (hq : q = p + 1) : (M 0 29) + 1 = Int32.ofNat q := by
  rw [e, hq, show (1 : Int32) = Int32.ofNat 1 from rfl, ofN_add]
end RSY

/-! the law in force, its closings -/
def clP (b y : Int32) (q : Int32 × Int32 × Int32 × Int32) : Prop := (q.1 ≤ b ∧ b ≤ q.2.1) ∧ ((q.2.2.1 ≤ q.2.2.2 ∧ q.2.2.1 ≤ y ∧ y ≤ q.2.2.2) ∨ (¬ q.2.2.1 ≤ q.2.2.2 ∧ (q.2.2.1 ≤ y ∨ y ≤ q.2.2.2)))
def clR (b y : Int32) (L : List (Int32 × Int32 × Int32 × Int32)) (r : Int32) : Prop := (r = 1 ∧ ∃ q ∈ L, clP b y q) ∨ (r = 0 ∧ ∀ q ∈ L, ¬ clP b y q)
theorem clR_1 {b y r s : Int32} {L : List (Int32 × Int32 × Int32 × Int32)} (h : clR b y L r) (g : clR b y L s) : r = s := by
  rcases h with ⟨h1, q, hq, hp⟩ | ⟨h1, hn⟩
  · rcases g with ⟨g1, _⟩ | ⟨g1, gn⟩
    · rw [h1, g1]
    · exact absurd hp (gn q hq)
  · rcases g with ⟨g1, q, hq, hp⟩ | ⟨g1, gn⟩
    · exact absurd hp (hn q hq)
    · rw [h1, g1]
theorem wi_i {M : MT} {a b e : Int32} : (¬ s_X8_within M a b e = 0) ↔ b ≤ a ∧ a ≤ e := by
  refine ⟨within_of, fun h => ?_⟩
  unfold s_X8_within
  rw [if_neg (Int32.not_lt.mpr h.1), if_neg (Int32.not_lt.mpr h.2)]
  decide
theorem wi9 {M : MT} {a b e : Int32} : (¬ s_X9_isIn M a b e = 0) ↔ b ≤ a ∧ a ≤ e := wi_i (M := M)
theorem ru_i {M : MT} {i : Nat} {c y : Int32} : (¬ s_X1_runsOn M i c y = 0) ↔ ((M (i + 3) (Int32.toNatClampNeg c) ≤ M (i + 4) (Int32.toNatClampNeg c) ∧ M (i + 3) (Int32.toNatClampNeg c) ≤ y ∧ y ≤ M (i + 4) (Int32.toNatClampNeg c)) ∨ (¬ M (i + 3) (Int32.toNatClampNeg c) ≤ M (i + 4) (Int32.toNatClampNeg c) ∧ (M (i + 3) (Int32.toNatClampNeg c) ≤ y ∨ y ≤ M (i + 4) (Int32.toNatClampNeg c)))) := by
  unfold s_X1_runsOn
  by_cases h1 : (M (i + 3) (Int32.toNatClampNeg c)) ≤ (M (i + 4) (Int32.toNatClampNeg c))
  · rw [if_pos h1, wi_i]
    exact ⟨fun h => Or.inl ⟨h1, h⟩, fun h => h.elim (fun g => g.2) (fun g => absurd h1 g.1)⟩
  · rw [if_neg h1]
    by_cases h2 : (M (i + 3) (Int32.toNatClampNeg c)) ≤ y
    · rw [if_pos h2]; exact ⟨fun _ => Or.inr ⟨h1, Or.inl h2⟩, fun _ => by decide⟩
    · rw [if_neg h2]
      by_cases h3 : (M (i + 4) (Int32.toNatClampNeg c)) < y
      · rw [if_pos h3]
        exact ⟨fun h => absurd rfl h, fun h => h.elim (fun g => absurd g.1 h1) (fun g => g.2.elim (fun k => absurd k h2) (fun k => absurd h3 (Int32.not_lt.mpr k)))⟩
      · rw [if_neg h3]; exact ⟨fun _ => Or.inr ⟨h1, Or.inr (Int32.not_lt.mp h3)⟩, fun _ => by decide⟩
def clE (M : MT) (i c : Nat) : Int32 × Int32 × Int32 × Int32 := (M (i + 1) c, M (i + 2) c, M (i + 3) c, M (i + 4) c)
theorem cl_in {M : MT} {i c : Nat} (h : c < (M i 4).toInt.toNat) : clE M i c ∈ (cB M i).2.2 := List.mem_map.mpr ⟨c, List.mem_range.mpr h, rfl⟩
theorem cl_all {M : MT} {i : Nat} {P : Int32 × Int32 × Int32 × Int32 → Prop} (h : ∀ c, c < (M i 4).toInt.toNat → P (clE M i c)) : ∀ q ∈ (cB M i).2.2, P q := fun q hq => by
  obtain ⟨c, hc, e⟩ := List.mem_map.mp hq
  rw [← e]; exact h c (List.mem_range.mp hc)
def LO (M : MT) (a : Int32) (j : Nat) : Prop := (∃ l, l < Int32.toNatClampNeg (M 0 9) ∧ j = 54 + 10 * l ∧ ¬ a < M (54 + 10 * l) 1 ∧ ∀ k, l < k → k < Int32.toNatClampNeg (M 0 9) → a < M (54 + 10 * k) 1) ∨ (j = 4 ∧ ∀ k, k < Int32.toNatClampNeg (M 0 9) → a < M (54 + 10 * k) 1)
def IFx (M : MT) (a : Int32) (n : Nat) (r : Int32) : Prop := (∃ l, l < n ∧ r = Int32.ofNat l ∧ ¬ a < M 19 l ∧ ∀ k, l < k → k < n → a < M 19 k) ∨ (r = (-1) ∧ ∀ k, k < n → a < M 19 k)
def IFo (M : MT) (a r : Int32) : Prop := IFx M a (Int32.toNatClampNeg (M 0 31)) r
theorem IFx_y {M : MT} {a : Int32} {n : Nat} (h : ¬ a < M 19 n) : IFx M a (n + 1) (Int32.ofNat n) := Or.inl ⟨n, by omega, rfl, h, fun k h1 h2 => by omega⟩
theorem IFx_n {M : MT} {a r : Int32} {n : Nat} (h : IFx M a n r) (g : a < M 19 n) : IFx M a (n + 1) r := by
  have ext : ∀ k, k < n + 1 → ¬ k < n → a < M 19 k := fun k h1 h2 => by rw [show k = n by omega]; exact g
  rcases h with ⟨l, h1, h2, h3, h4⟩ | ⟨h1, h2⟩
  · exact Or.inl ⟨l, by omega, h2, h3, fun k k1 k2 => by
      by_cases e : k < n
      · exact h4 k k1 e
      · exact ext k k2 e⟩
  · exact Or.inr ⟨h1, fun k k2 => by
      by_cases e : k < n
      · exact h2 k e
      · exact ext k k2 e⟩
theorem IFo_r {M : MT} {a r : Int32} (hS : InvS M) (h : IFo M a r) : r = (-1) ∨ (0 ≤ r.toInt ∧ r.toInt ≤ 7) := by
  have r31 := hS.2.1
  rcases h with ⟨l, h1, h2, -⟩ | ⟨h1, -⟩
  · have : l < (M 0 31).toInt.toNat := h1
    exact Or.inr (by rw [h2, ofN_toInt (by omega)]; omega)
  · exact Or.inl h1
/-- LIMIT, DEPTH, closings of the law in force in the reference -/
def cMX (M : MT) (f : Int32) : txCT := if f = (-1) then (550, 0, []) else cMF M (Int32.toNatClampNeg f) (M 18 (Int32.toNatClampNeg f)).toInt.toNat
def fldM (b : Int32) (c : txCT) : Int32 := if b = 0 then c.1 else c.2.1
theorem fld0 (c : txCT) : fldM 0 c = c.1 := by unfold fldM; rw [if_pos rfl]
theorem fld1 (c : txCT) : fldM 1 c = c.2.1 := by unfold fldM; rw [if_neg (by decide)]
theorem fld_s {M : MT} {b : Int32} {l k : Nat} (hb : b = 0 ∨ b = 1) : (M 20 (16 * l + k) = b → fldM b (cMF M l (k + 1)) = M 21 (16 * l + k)) ∧ (¬ M 20 (16 * l + k) = b → fldM b (cMF M l (k + 1)) = fldM b (cMF M l k)) := by
  have e : cMF M l (k + 1) = effM M (16 * l + k) (cMF M l k) := rfl
  rw [e]
  rcases hb with rfl | rfl
  · simp only [fld0]
    unfold effM
    refine ⟨fun h => by rw [if_pos h], fun h => ?_⟩
    rw [if_neg h]
    by_cases h1 : M 20 (16 * l + k) = 1
    · rw [if_pos h1]
    · rw [if_neg h1]
      by_cases h2 : M 20 (16 * l + k) = 2
      · rw [if_pos h2]
      · rw [if_neg h2]
  · simp only [fld1]
    unfold effM
    refine ⟨fun h => by rw [if_neg (by rw [h]; decide), if_pos h], fun h => ?_⟩
    by_cases h0 : M 20 (16 * l + k) = 0
    · rw [if_pos h0]
    · rw [if_neg h0, if_neg h]
      by_cases h2 : M 20 (16 * l + k) = 2
      · rw [if_pos h2]
      · rw [if_neg h2]
def rwE (M : MT) (s : Nat) : Int32 × Int32 × Int32 × Int32 := (M 21 s, M 22 s, M 23 s, M 24 s)
theorem cls_s {M : MT} {l k : Nat} : (M 20 (16 * l + k) = 2 → (cMF M l (k + 1)).2.2 = (cMF M l k).2.2 ++ [rwE M (16 * l + k)]) ∧ (¬ M 20 (16 * l + k) = 2 → (cMF M l (k + 1)).2.2 = (cMF M l k).2.2) := by
  have e : cMF M l (k + 1) = effM M (16 * l + k) (cMF M l k) := rfl
  rw [e]
  unfold effM
  refine ⟨fun h => ?_, fun h => ?_⟩
  · rw [if_neg (by rw [h]; decide), if_neg (by rw [h]; decide), if_pos h]; rfl
  · by_cases h0 : M 20 (16 * l + k) = 0
    · rw [if_pos h0]
    · rw [if_neg h0]
      by_cases h1 : M 20 (16 * l + k) = 1
      · rw [if_pos h1]
      · rw [if_neg h1, if_neg h]
theorem clR_n {M : MT} {b y t : Int32} {l k : Nat} (h : clR b y (cMF M l k).2.2 t) (g : ¬ M 20 (16 * l + k) = 2 ∨ ¬ clP b y (rwE M (16 * l + k))) : clR b y (cMF M l (k + 1)).2.2 t := by
  by_cases h2 : M 20 (16 * l + k) = 2
  · rw [(cls_s (M := M)).1 h2]
    have g2 := g.resolve_left (fun n => n h2)
    rcases h with ⟨h1, q, hq, hp⟩ | ⟨h1, hn⟩
    · exact Or.inl ⟨h1, q, List.mem_append_left _ hq, hp⟩
    · refine Or.inr ⟨h1, fun q hq => ?_⟩
      rcases List.mem_append.mp hq with h | h
      · exact hn q h
      · rw [List.mem_singleton.mp h]; exact g2
  · rw [(cls_s (M := M)).2 h2]; exact h
theorem clR_y {M : MT} {b y : Int32} {l k : Nat} (h2 : M 20 (16 * l + k) = 2) (g : clP b y (rwE M (16 * l + k))) : clR b y (cMF M l (k + 1)).2.2 1 := by
  rw [(cls_s (M := M)).1 h2]
  exact Or.inl ⟨rfl, _, List.mem_append_right _ (List.mem_singleton.mpr rfl), g⟩
theorem clR_t {M : MT} {b y t : Int32} {l k : Nat} (h : clR b y (cMF M l k).2.2 t) (ht : ¬ t = 0) : clR b y (cMF M l (k + 1)).2.2 1 := by
  rcases h with ⟨h1, q, hq, hp⟩ | ⟨h1, hn⟩
  · refine Or.inl ⟨rfl, q, ?_, hp⟩
    by_cases h2 : M 20 (16 * l + k) = 2
    · rw [(cls_s (M := M)).1 h2]; exact List.mem_append_left _ hq
    · rw [(cls_s (M := M)).2 h2]; exact hq
  · exact absurd h1 ht
theorem nxt {P : Nat → Prop} {x y : Int32} (h : ∀ c : Nat, (c : Int) < x.toInt → P c) (hk : P (Int32.toNatClampNeg x)) (h0 : 0 ≤ x.toInt) (hy : y.toInt = x.toInt + 1) : ∀ c : Nat, (c : Int) < y.toInt → P c := fun c hc => by
  by_cases g : (c : Int) < x.toInt
  · exact h c g
  · have e5 : c = Int32.toNatClampNeg x := by show c = x.toInt.toNat; omega
    rw [e5]; exact hk
theorem nxd {P : Nat → Prop} {n m B : Nat} {x : Int32} (h : ∀ k, n ≤ k → k < B → P k) (hk : P (Int32.toNatClampNeg x)) (hx : x.toInt + 1 = (n : Int)) (hm : n = m + 1) : ∀ k, m ≤ k → k < B → P k := fun k h1 h2 => by
  by_cases g : n ≤ k
  · exact h k g h2
  · have e5 : k = Int32.toNatClampNeg x := by show k = x.toInt.toNat; omega
    rw [e5]; exact hk
theorem fld_e {b e : Int32} (h : (b = 0 ∧ e = 550) ∨ (b = 1 ∧ e = 0)) : e = fldM b (550, 0, []) := by
  rcases h with ⟨q1, q2⟩ | ⟨q1, q2⟩
  · rw [q1, q2, fld0]
  · rw [q1, q2, fld1]
theorem one_i {M : MT} {r : Int32} (h : r = 0 ∨ r = 1) : s_X9_one M r = r := by
  rcases h with rfl | rfl
  · rfl
  · rfl
def TBr (M : MT) (a e r : Int32) : Prop := ((s_X8_within M a 0 1000) = 0 ∧ r = (-1)) ∨ (¬ (s_X8_within M a 0 1000) = 0 ∧ ∃ j, LO M a j ∧ ((¬ (s_X8_within M e 10 25) = 0 ∧ clR (e - 10) (a - a / 365 * 365) (cB M j).2.2 r) ∨ ((s_X8_within M e 10 25) = 0 ∧ ((e = 0 ∧ r = M j 2) ∨ (e = 1 ∧ r = M j 3) ∨ (e = 2 ∧ r = M j 0) ∨ (¬ e = 0 ∧ ¬ e = 1 ∧ ¬ e = 2 ∧ r = (-1))))))
def TMr (M : MT) (a e r : Int32) : Prop := ((s_X9_isIn M a 0 1000) = 0 ∧ r = (-1)) ∨ (¬ (s_X9_isIn M a 0 1000) = 0 ∧ (s_X9_isIn M e 10 25) = 0 ∧ ¬ e = 0 ∧ ¬ e = 1 ∧ ¬ e = 2 ∧ r = (-1)) ∨ (¬ (s_X9_isIn M a 0 1000) = 0 ∧ ∃ f, IFo M a f ∧ ((¬ (s_X9_isIn M e 10 25) = 0 ∧ clR (e - 10) (a - a / 365 * 365) (cMX M f).2.2 r) ∨ ((s_X9_isIn M e 10 25) = 0 ∧ ((e = 0 ∧ r = (cMX M f).1) ∨ (e = 1 ∧ r = (cMX M f).2.1) ∨ (e = 2 ∧ r = f)))))
/-- the same law is in force on both sides, and says the same -/
theorem LO_IF {MB MM : MT} {a f : Int32} {j : Nat} (hS : InvS MM) (h : LawR MB MM) (hj : LO MB a j) (hf : IFo MM a f) : cB MB j = cMX MM f ∧ MB j 0 = f := by
  obtain ⟨h1, h2, h3, h4, h5⟩ := h
  have r31 := hS.2.1
  have en : Int32.toNatClampNeg (MB 0 9) = Int32.toNatClampNeg (MM 0 31) := by rw [h1]
  have l8 : Int32.toNatClampNeg (MM 0 31) ≤ 8 := by show (MM 0 31).toInt.toNat ≤ 8; omega
  unfold LO at hj
  rw [en] at hj
  rcases hj with ⟨l, p1, p2, p3, p4⟩ | ⟨p1, p2⟩
  · rcases hf with ⟨k, q1, q2, q3, q4⟩ | ⟨q1, q2⟩
    · have el : l = k := by
        rcases Nat.lt_trichotomy l k with x | x | x
        · exact absurd ((h5 k q1).2.1 ▸ p4 k x q1) q3
        · exact x
        · exact absurd (p3) (fun g => g ((h5 l p1).2.1 ▸ q4 l x p1))
      subst el
      obtain ⟨e1, e2, c, hc, e3, e4⟩ := h5 l p1
      have em : ¬ f = (-1) := by rw [q2]; exact ofN_m1 (by omega)
      have ef : Int32.toNatClampNeg f = l := by rw [q2]; exact ofN_clamp (by omega)
      unfold cMX
      rw [if_neg em, ef, p2, e4, e3, e1, q2]
      exact ⟨by rw [Int.toNat_natCast], rfl⟩
    · exact absurd ((h5 l p1).2.1 ▸ q2 l p1) p3
  · rcases hf with ⟨k, q1, q2, q3, q4⟩ | ⟨q1, q2⟩
    · exact absurd ((h5 k q1).2.1 ▸ p2 k q1) q3
    · unfold cMX
      rw [if_pos q1, p1, q1]
      obtain ⟨g1, g2, g3, g4⟩ := h4
      refine ⟨?_, g1⟩
      unfold cB
      rw [g2, g3, g4]; rfl
theorem Rl_tells {MB MM : MT} {a e r s : Int32} (hS : InvS MM) (h : LawR MB MM) (t1 : TBr MB a e r) (t2 : TMr MM a e s) : r = s := by
  unfold TMr at t2
  rw [isIn_eq MM MB, isIn_eq MM MB] at t2
  rcases t1 with ⟨a1, a2⟩ | ⟨a1, j, a2, a3⟩
  · rcases t2 with ⟨b1, b2⟩ | ⟨b1, b2⟩ | ⟨b1, b2⟩
    · rw [a2, b2]
    · exact absurd a1 b1
    · exact absurd a1 b1
  · rcases t2 with ⟨b1, b2⟩ | ⟨b1, b2, b3, b4, b5, b6⟩ | ⟨b1, f, b2, b3⟩
    · exact absurd b1 a1
    · rcases a3 with ⟨c1, c2⟩ | ⟨c1, c2 | c2 | c2 | c2⟩
      · exact absurd b2 c1
      · exact absurd c2.1 b3
      · exact absurd c2.1 b4
      · exact absurd c2.1 b5
      · rw [c2.2.2.2, b6]
    · obtain ⟨k1, k2⟩ := LO_IF hS h a2 b2
      rcases a3 with ⟨c1, c2⟩ | ⟨c1, c2⟩
      · rcases b3 with ⟨d1, d2⟩ | ⟨d1, d2⟩
        · rw [k1] at c2; exact clR_1 c2 d2
        · exact absurd d1 c1
      · rcases b3 with ⟨d1, d2⟩ | ⟨d1, d2⟩
        · exact absurd c1 d1
        · rw [← k1, ← k2] at d2
          rcases c2 with c2 | c2 | c2 | c2
          · rcases d2 with d2 | d2 | d2
            · rw [c2.2, d2.2]; rfl
            · exact absurd (c2.1.symm.trans d2.1) (by decide)
            · exact absurd (c2.1.symm.trans d2.1) (by decide)
          · rcases d2 with d2 | d2 | d2
            · exact absurd (c2.1.symm.trans d2.1) (by decide)
            · rw [c2.2, d2.2]; rfl
            · exact absurd (c2.1.symm.trans d2.1) (by decide)
          · rcases d2 with d2 | d2 | d2
            · exact absurd (c2.1.symm.trans d2.1) (by decide)
            · exact absurd (c2.1.symm.trans d2.1) (by decide)
            · rw [c2.2, d2.2]
          · rcases d2 with d2 | d2 | d2
            · exact absurd d2.1 c2.1
            · exact absurd d2.1 c2.2.1
            · exact absurd d2.1 c2.2.2.1

/-! the rows of statements: those of others stay; what a row says -/
def EN (s : Nat) (M M1 : MT) : Prop := ∀ j k, 20 ≤ j → j ≤ 24 → ¬ k = s → M1 j k = M j k
theorem EN_refl (s : Nat) (M : MT) : EN s M M := fun _ _ _ _ _ => rfl
theorem EN_trans {s : Nat} {M0 M M1 : MT} (h : EN s M0 M) (g : EN s M M1) : EN s M0 M1 := fun j k a b c => (g j k a b c).trans (h j k a b c)
theorem EN_0 {s : Nat} {M M1 : MT} (h : EN s M M1) (k : Nat) (v : Int32) : EN s M (up2 M1 0 k v) := fun j i a b c => (congrFun (upo (by omega)) i).trans (h j i a b c)
theorem EN_c {s i : Nat} {M M1 : MT} (h : EN s M M1) (hi : 25 ≤ i) (k : Nat) (v : Int32) : EN s M (up2 M1 i k v) := fun j l a b c => (congrFun (upo (by omega)) l).trans (h j l a b c)
theorem EN_u {s : Nat} {M M1 : MT} (h : EN s M M1) (i : Nat) (v : Int32) : EN s M (up2 M1 i s v) := fun j k a b c => by
  by_cases e : j = i
  · subst e; rw [up_k c rfl]; exact h j k a b c
  · rw [upo e]; exact h j k a b c
theorem EN_b {s : Nat} {M0 M M1 : MT} (h : EN s M0 M) (g : Kt bP M M1) : EN s M0 M1 := fun j k a b c => (congrFun (g.2.2 j (show ¬ j = 0 by omega)) k).trans (h j k a b c)
theorem EN_t {s : Nat} {M0 M M1 : MT} (h : EN s M0 M) (g : Kt tP M M1) : EN s M0 M1 := fun j k a b c => (congrFun (g.2.2 j ⟨by omega, by omega⟩) k).trans (h j k a b c)
def effM (M : MT) (s : Nat) (c : txCT) : txCT := if M 20 s = 0 then (M 21 s, c.2.1, c.2.2) else (if M 20 s = 1 then (c.1, M 21 s, c.2.2) else (if M 20 s = 2 then (c.1, c.2.1, c.2.2 ++ [(M 21 s, M 22 s, M 23 s, M 24 s)]) else c))
theorem eff_0 {M : MT} {s : Nat} {v : Int32} (h : M 20 s = 0) (h1 : M 21 s = v) (c : txCT) : effM M s c = (v, c.2.1, c.2.2) := by unfold effM; rw [if_pos h, h1]
theorem eff_1 {M : MT} {s : Nat} {v : Int32} (h : M 20 s = 1) (h1 : M 21 s = v) (c : txCT) : effM M s c = (c.1, v, c.2.2) := by unfold effM; rw [if_neg (by rw [h]; decide), if_pos h, h1]
theorem eff_2 {M : MT} {s : Nat} {v1 v2 v3 v4 : Int32} (h : M 20 s = 2) (h1 : M 21 s = v1) (h2 : M 22 s = v2) (h3 : M 23 s = v3) (h4 : M 24 s = v4) (c : txCT) : effM M s c = (c.1, c.2.1, c.2.2 ++ [(v1, v2, v3, v4)]) := by unfold effM; rw [if_neg (by rw [h]; decide), if_neg (by rw [h]; decide), if_pos h, h1, h2, h3, h4]
theorem eff_3 {M : MT} {s : Nat} (h : ¬ M 20 s = 0 ∧ ¬ M 20 s = 1 ∧ ¬ M 20 s = 2) (c : txCT) : effM M s c = c := by unfold effM; rw [if_neg h.1, if_neg h.2.1, if_neg h.2.2]
theorem n012 {x v : Int32} (h : x = v) (hv : ¬ v = 0 ∧ ¬ v = 1 ∧ ¬ v = 2) : ¬ x = 0 ∧ ¬ x = 1 ∧ ¬ x = 2 := by rw [h]; exact hv
theorem m9 {x : Int32} (h : x ∈ [9]) : x ∈ [9, 10, 11] := by rw [List.mem_singleton.mp h]; decide
theorem m10 {x : Int32} (h : x ∈ [10]) : x ∈ [9, 10, 11] := by rw [List.mem_singleton.mp h]; decide
theorem m11 {x : Int32} (h : x ∈ [11]) : x ∈ [9, 10, 11] := by rw [List.mem_singleton.mp h]; decide
theorem nm3 {x a b c : Int32} (h1 : ¬ x ∈ [a]) (h2 : ¬ x ∈ [b]) (h3 : ¬ x ∈ [c]) : ¬ x ∈ [a, b, c] := fun g => by
  rcases List.mem_cons.mp g with g | g
  · exact h1 (List.mem_singleton.mpr g)
  · rcases List.mem_cons.mp g with g | g
    · exact h2 (List.mem_singleton.mpr g)
    · exact h3 g
theorem wd_3 {T : Nat → Int32} {N p : Nat} (hp : p ≤ N) (c1 : ¬ lg_cmp (w64 T p (txln T N p - p)) 1751474548 = 0) (c2 : ¬ lg_cmp (w64 T p (txln T N p - p)) 512802253683 = 0) (c3 : ¬ lg_cmp (w64 T p (txln T N p - p)) 1953459827 = 0) : ¬ txtc T N p ∈ [12, 13, 14] :=
  nm3 (fun g => c1 ((wd_c (d := 11) hp (by decide) (by decide)).mpr (List.mem_singleton.mp g))) (fun g => c2 ((wd_c (d := 12) hp (by decide) (by decide)).mpr (List.mem_singleton.mp g))) (fun g => c3 ((wd_c (d := 13) hp (by decide) (by decide)).mpr (List.mem_singleton.mp g)))
theorem sg_3 {T : Nat → Int32} {N p : Nat} {M : MT} (h : RSx T N M p) (e : M 0 29 = Int32.ofNat p) (hn : ¬ (M 0 29) = (M 0 28)) (c1 : ¬ M 17 (Int32.toNatClampNeg (M 0 29)) = 60) (c2 : ¬ M 17 (Int32.toNatClampNeg (M 0 29)) = 62) (c3 : ¬ M 17 (Int32.toNatClampNeg (M 0 29)) = 61) : ¬ txtc T N p ∈ [60, 62, 61] :=
  nm3 (fun g => c1 ((at_s h e hn (by decide)).mpr (List.mem_singleton.mp g))) (fun g => c2 ((at_s h e hn (by decide)).mpr (List.mem_singleton.mp g))) (fun g => c3 ((at_s h e hn (by decide)).mpr (List.mem_singleton.mp g)))
theorem m3of {x c : Int32} {l : List Int32} (h : x = c) (hc : c ∈ l) : x ∈ l := by rw [h]; exact hc

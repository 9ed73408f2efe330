/-- while a text is read -/
def ParI (M : MT) : Prop := InvS M ∧ (0 ≤ (M 0 28).toInt ∧ (M 0 28).toInt ≤ 500) ∧ 0 ≤ (M 0 29).toInt ∧ (M 0 29).toInt ≤ (M 0 28).toInt
def bP (i : Nat) : Prop := ¬ i = 0
def tP (i : Nat) : Prop := ¬ i = 0 ∧ (i < 26 ∨ 28 < i)
def sP (i : Nat) : Prop := ¬ i = 0 ∧ (i < 20 ∨ 28 < i)
/-- kept by the parts of the reading: the cells of P, all ints of the object but at, wordEnd, number -/
def Kt (P : Nat → Prop) (M M1 : MT) : Prop := ParI M1 ∧ (∀ k, ¬ k = 29 → ¬ k = 43 → ¬ k = 44 → M1 0 k = M 0 k) ∧ ∀ i, P i → M1 i = M i
theorem Kt_refl {P : Nat → Prop} {M : MT} (h : ParI M) : Kt P M M := ⟨h, fun _ _ _ _ => rfl, fun _ _ => rfl⟩
theorem Kt_trans {P : Nat → Prop} {M0 M M1 : MT} (h : Kt P M0 M) (g : Kt P M M1) : Kt P M0 M1 := ⟨g.1, fun k a b c => (g.2.1 k a b c).trans (h.2.1 k a b c), fun i hi => (g.2.2 i hi).trans (h.2.2 i hi)⟩
theorem Kt_sub {P Q : Nat → Prop} {M M1 : MT} (h : Kt P M M1) (hq : ∀ i, Q i → P i) : Kt Q M M1 := ⟨h.1, h.2.1, fun i hi => h.2.2 i (hq i hi)⟩
theorem b_t {M M1 : MT} (h : Kt bP M M1) : Kt tP M M1 := Kt_sub h (fun i hi => hi.1)
theorem b_s {M M1 : MT} (h : Kt bP M M1) : Kt sP M M1 := Kt_sub h (fun i hi => hi.1)
theorem b_b {M M1 : MT} (h : Kt bP M M1) : Kt bP M M1 := h
theorem t_s {M M1 : MT} (h : Kt tP M M1) : Kt sP M M1 := Kt_sub h (fun i hi => ⟨hi.1, by have := hi.2; omega⟩)
theorem s_s {M M1 : MT} (h : Kt sP M M1) : Kt sP M M1 := h
theorem P0 {P : Nat → Prop} (h : P = bP ∨ P = tP ∨ P = sP) {i : Nat} (hi : P i) : ¬ i = 0 := by
  rcases h with rfl | rfl | rfl
  · exact hi
  · exact hi.1
  · exact hi.1
theorem ParI_0 {M : MT} (h : ParI M) {k : Nat} (hk : k = 43 ∨ k = 44) (v : Int32) : ParI (up2 M 0 k v) := by
  obtain ⟨h1, h2, h3⟩ := h
  exact ⟨InvS_0 h1 (by omega) v, by rw [up_k (show (28 : Nat) ≠ k by omega) rfl]; exact h2, by rw [up_k (show (28 : Nat) ≠ k by omega) rfl, up_k (show (29 : Nat) ≠ k by omega) rfl]; exact h3⟩
theorem Kt_wn {P : Nat → Prop} {M M1 : MT} (h : Kt P M M1) (hP : P = bP ∨ P = tP ∨ P = sP) {k : Nat} (hk : k = 43 ∨ k = 44) (v : Int32) : Kt P M (up2 M1 0 k v) := ⟨ParI_0 h.1 hk v, fun j a b c => (up_k (by omega) rfl).trans (h.2.1 j a b c), fun i hi => (upo (P0 hP hi)).trans (h.2.2 i hi)⟩
theorem Kt_at {P : Nat → Prop} {M M1 : MT} (h : Kt P M M1) (hP : P = bP ∨ P = tP ∨ P = sP) {v : Int32} (hv : 0 ≤ v.toInt ∧ v.toInt ≤ (M 0 28).toInt) : Kt P M (up2 M1 0 29 v) := by
  have e := h.2.1 28 (by decide) (by decide) (by decide)
  obtain ⟨h1, h2, h3⟩ := h.1
  exact ⟨⟨InvS_0 h1 (by decide) v, by rw [up_k (by decide) rfl]; exact h2, by rw [up_s, up_k (by decide) rfl, e]; exact hv⟩, fun j a b c => (up_k (by omega) rfl).trans (h.2.1 j a b c), fun i hi => (upo (P0 hP hi)).trans (h.2.2 i hi)⟩
theorem ParI_c {M : MT} (h : ParI M) {i : Nat} (hi : ¬ i = 0 ∧ ¬ i = 18 ∧ ¬ i = 25) (k : Nat) (v : Int32) : ParI (up2 M i k v) := by
  obtain ⟨h1, h2, h3⟩ := h
  have e : up2 M i k v 0 = M 0 := upo (fun q => hi.1 q.symm)
  exact ⟨InvS_up h1 hi k v, by rw [e]; exact h2, by rw [e]; exact h3⟩
theorem Kt_ct {M M1 : MT} (h : Kt tP M M1) {i : Nat} (hi : 26 ≤ i ∧ i ≤ 28) (k : Nat) (v : Int32) : Kt tP M (up2 M1 i k v) := ⟨ParI_c h.1 (by omega) k v, fun j a b c => by rw [upo (show ¬ 0 = i by omega)]; exact h.2.1 j a b c, fun j hj => (upo (by unfold tP at hj; omega)).trans (h.2.2 j hj)⟩
theorem Kt_cs {M M1 : MT} (h : Kt sP M M1) {i : Nat} (hi : 20 ≤ i ∧ i ≤ 28 ∧ ¬ i = 25) (k : Nat) (v : Int32) : Kt sP M (up2 M1 i k v) := ⟨ParI_c h.1 (by omega) k v, fun j a b c => by rw [upo (show ¬ 0 = i by omega)]; exact h.2.1 j a b c, fun j hj => (upo (by unfold sP at hj; omega)).trans (h.2.2 j hj)⟩
theorem InvS_25 {M : MT} (h : InvS M) {k : Nat} {v : Int32} (hv : 0 ≤ v.toInt ∧ v.toInt ≤ 3) : InvS (up2 M 25 k v) := by
  obtain ⟨h1, h2, h3, h4, h5⟩ := h
  refine ⟨by rw [upo (by decide)]; exact h1, by rw [upo (by decide)]; exact h2, by rw [upo (by decide)]; exact h3, by rw [upo (by decide)]; exact h4, fun j hj => ?_⟩
  by_cases q : j = k
  · subst q; rw [up_s]; exact hv
  · rw [up_k q rfl]; exact h5 j hj
theorem Kt_25 {M M1 : MT} (h : Kt sP M M1) {k : Nat} {v : Int32} (hv : 0 ≤ v.toInt ∧ v.toInt ≤ 3) : Kt sP M (up2 M1 25 k v) := by
  obtain ⟨⟨h1, h2, h3⟩, h4, h5⟩ := h
  exact ⟨⟨InvS_25 h1 hv, by rw [upo (by decide)]; exact h2, by rw [upo (by decide)]; exact h3⟩, fun j a b c => by rw [upo (by decide)]; exact h4 j a b c, fun j hj => (upo (by unfold sP at hj; omega)).trans (h5 j hj)⟩
theorem tin {M : MT} {x : Int32} (h : ParI M) (hx : 0 ≤ x.toInt) (hc : ¬ (M 0 28) ≤ x) : vp_in x 500 := by
  have := h.2.1.2
  rw [Int32.le_iff_toInt_le] at hc
  rw [vp_in_iff]; omega
theorem tne {M : MT} (h : ParI M) (hc : ¬ (M 0 29) = (M 0 28)) : ¬ (M 0 28) ≤ (M 0 29) := fun q => hc (Int32.toInt_inj.mp (by
  have := h.2.2.2
  rw [Int32.le_iff_toInt_le] at q; omega))
theorem tinc {M M0 : MT} {P : Nat → Prop} {x : Int32} (h : Kt P M0 M) (hx : 0 ≤ x.toInt) (hc : ¬ (M 0 28) ≤ x) : (0 ≤ (x + 1).toInt ∧ (x + 1).toInt ≤ (M0 0 28).toInt) ∧ (x + 1).toInt = x.toInt + 1 := by
  have e := h.2.1 28 (by decide) (by decide) (by decide)
  have h2 := h.1.2.1.2
  rw [Int32.le_iff_toInt_le] at hc
  have := i32_add (x := x) hx (by omega) (k := 1) (by decide) (by decide)
  have e1 : (1 : Int32).toInt = 1 := by decide
  rw [← e]
  omega
theorem bP25 : bP 25 := fun q => absurd q (by decide)
theorem tP25 : tP 25 := ⟨fun q => absurd q (by decide), Or.inl (by decide)⟩
theorem b1 : bP = bP ∨ bP = tP ∨ bP = sP := Or.inl rfl
theorem t1 : tP = bP ∨ tP = tP ∨ tP = sP := Or.inr (Or.inl rfl)
theorem s1 : sP = bP ∨ sP = tP ∨ sP = sP := Or.inr (Or.inr rfl)
set_option maxHeartbeats 4000000 in
set_option maxRecDepth 100000 in
theorem c3_X9_blanks (l : Launch) (D : va_G) (cy : Nat → ClassId) (X : va_W) (ad : Nat → Nat) (M : MT) (hP : ParI M) : CtP l yX9_blanks cX9_blanks 1 none (rK 0) D cy X ad ZM M [.ref (ad 0)] (fun v M1 => v = none ∧ Kt bP M M1) := by
  refine Ctr.of (by decide +kernel) (Nat.le_of_ble_eq_true rfl) ?_
  intro K f q hnm hl0 hD0 hy0 hX0
  show V K ad 0 0 ZM M 0 [(0, .ref (ad 0))] []
  have loop : ∀ (n : Nat) (M1 : MT), Kt bP M M1 → (M1 0 29).toInt + (n : Nat) = 1000 → V K ad 0 0 ZM M1 0 [(0, .ref (ad 0))] [] := by
    intro n
    induction n using Nat.strongRecOn with
    | ind n ih =>
      intro M1 hK1 hn
      refine V_aload_n f dX9_blanks_0 0 rfl ?_
      refine V_getE (x := M1 0 29) f dX9_blanks_1 lf_9_123 rfl zm_0 rfl ?_
      refine V_aload_n f dX9_blanks_4 0 rfl ?_
      refine V_getE (x := M1 0 28) f dX9_blanks_5 lf_9_126 rfl zm_0 rfl ?_
      refine V_icmp_ge (tgt := 52) f dX9_blanks_8 (by decide) (fun c1 => ?_) (fun c1 => ?_)
      · exact V_vret f q dX9_blanks_52 (Nat.zero_le _) (Nat.zero_le _) ⟨rfl, rfl, rfl, hK1⟩
      · refine V_aload_n f dX9_blanks_11 0 rfl ?_
        refine V_getR f dX9_blanks_12 lf_9_60 rfl zm_0 rfl ?_
        refine V_aload_n f dX9_blanks_15 0 rfl ?_
        refine V_getE (x := M1 0 29) f dX9_blanks_16 lf_9_123 rfl zm_0 rfl ?_
        refine V_bald f dX9_blanks_19 zm_17 (tin hK1.1 hK1.1.2.2.1 c1) ?_
        refine V_bipush (v := 32) f dX9_blanks_20 (by decide) ?_
        refine V_icmp_eq (tgt := 39) f dX9_blanks_22 (by decide) (fun c2 => ?_) (fun c2 => ?_)
        · refine V_aload_n f dX9_blanks_39 0 rfl ?_
          refine V_dup f dX9_blanks_40 rfl ?_
          refine V_getE (x := M1 0 29) f dX9_blanks_41 lf_9_123 rfl zm_0 rfl ?_
          refine V_iconst (v := 1) f dX9_blanks_44 (by decide) ?_
          refine V_iadd f dX9_blanks_45 ?_
          refine V_putI f dX9_blanks_46 lf_9_123 lp_9_29 rfl rfl rfl rfl zm_0 ?_
          refine V_goto (tgt := 0) f dX9_blanks_49 (by decide) ?_
          have q9 := tinc hK1 hK1.1.2.2.1 c1
          have q8 := hK1.1.2.1.2
          have q7 := hK1.1.2.2.2
          exact ih (n - 1) (by omega) _ (Kt_at hK1 b1 q9.1) (by rw [up_s]; omega)
        · refine V_aload_n f dX9_blanks_25 0 rfl ?_
          refine V_getR f dX9_blanks_26 lf_9_60 rfl zm_0 rfl ?_
          refine V_aload_n f dX9_blanks_29 0 rfl ?_
          refine V_getE (x := M1 0 29) f dX9_blanks_30 lf_9_123 rfl zm_0 rfl ?_
          refine V_bald f dX9_blanks_33 zm_17 (tin hK1.1 hK1.1.2.2.1 c1) ?_
          refine V_bipush (v := 10) f dX9_blanks_34 (by decide) ?_
          refine V_icmp_ne (tgt := 52) f dX9_blanks_36 (by decide) (fun c3 => ?_) (fun c3 => ?_)
          · exact V_vret f q dX9_blanks_52 (Nat.zero_le _) (Nat.zero_le _) ⟨rfl, rfl, rfl, hK1⟩
          · refine V_aload_n f dX9_blanks_39 0 rfl ?_
            refine V_dup f dX9_blanks_40 rfl ?_
            refine V_getE (x := M1 0 29) f dX9_blanks_41 lf_9_123 rfl zm_0 rfl ?_
            refine V_iconst (v := 1) f dX9_blanks_44 (by decide) ?_
            refine V_iadd f dX9_blanks_45 ?_
            refine V_putI f dX9_blanks_46 lf_9_123 lp_9_29 rfl rfl rfl rfl zm_0 ?_
            refine V_goto (tgt := 0) f dX9_blanks_49 (by decide) ?_
            have q9 := tinc hK1 hK1.1.2.2.1 c1
            have q8 := hK1.1.2.1.2
            have q7 := hK1.1.2.2.2
            exact ih (n - 1) (by omega) _ (Kt_at hK1 b1 q9.1) (by rw [up_s]; omega)
  have q7 := hP.2.2
  have q8 := hP.2.1.2
  exact loop (1000 - (M 0 29).toInt.toNat) M (Kt_refl hP) (by omega)
set_option maxHeartbeats 4000000 in
set_option maxRecDepth 100000 in
theorem c3_X9_word (l : Launch) (D : va_G) (cy : Nat → ClassId) (X : va_W) (ad : Nat → Nat) (M : MT) (hP : ParI M) : CtP l yX9_word cX9_word 3 (some .long) (rK 1) D cy X ad ZM M [.ref (ad 0)] (fun v M1 => (∃ r : Int64, v = some (.long r)) ∧ Kt bP M M1 ∧ 0 ≤ (M1 0 43).toInt ∧ (M1 0 43).toInt ≤ (M1 0 28).toInt) := by
  refine Ctr.of (by decide +kernel) (Nat.le_of_ble_eq_true rfl) ?_
  intro K f q hnm hl0 hD0 hy0 hX0
  show V K ad 0 0 ZM M 0 [(0, .ref (ad 0))] []
  have loop : ∀ (n : Nat) (M1 : MT) (u : Int64), Kt bP M M1 → (0 ≤ (M1 0 43).toInt ∧ (M1 0 43).toInt ≤ (M1 0 28).toInt) → (M1 0 43).toInt + (n : Nat) = 1000 → V K ad 0 0 ZM M1 14 [(1, .long u), (0, .ref (ad 0))] [] := by
    intro n
    induction n using Nat.strongRecOn with
    | ind n ih =>
      intro M1 u hK1 h43 hn
      refine V_aload_n f dX9_word_14 1 rfl ?_
      refine V_getE (x := M1 0 43) f dX9_word_15 lf_9_132 rfl zm_0 rfl ?_
      refine V_aload_n f dX9_word_18 1 rfl ?_
      refine V_getE (x := M1 0 28) f dX9_word_19 lf_9_126 rfl zm_0 rfl ?_
      refine V_icmp_ge (tgt := 100) f dX9_word_22 (by decide) (fun c2 => ?_) (fun c2 => ?_)
      · refine V_aload_n f dX9_word_100 1 rfl ?_
        refine V_getE (x := M1 0 43) f dX9_word_101 lf_9_132 rfl zm_0 rfl ?_
        refine V_aload_n f dX9_word_104 1 rfl ?_
        refine V_getE (x := M1 0 29) f dX9_word_105 lf_9_123 rfl zm_0 rfl ?_
        refine V_isub f dX9_word_108 ?_
        refine V_bipush (v := 7) f dX9_word_109 (by decide) ?_
        refine V_icmp_le (tgt := 118) f dX9_word_111 (by decide) (fun c3 => ?_) (fun c3 => ?_)
        · refine V_lload_n f dX9_word_118 0 rfl ?_
          exact V_lret f q dX9_word_119 (Nat.zero_le _) (Nat.zero_le _) ⟨rfl, rfl, ⟨_, rfl⟩, hK1, h43⟩
        · refine V_lconst (v := 0) f dX9_word_114 (by decide) ?_
          refine V_goto (tgt := 119) f dX9_word_115 (by decide) ?_
          exact V_lret f q dX9_word_119 (Nat.zero_le _) (Nat.zero_le _) ⟨rfl, rfl, ⟨_, rfl⟩, hK1, h43⟩
      · refine V_aload_n f dX9_word_25 1 rfl ?_
        refine V_getR f dX9_word_26 lf_9_60 rfl zm_0 rfl ?_
        refine V_aload_n f dX9_word_29 1 rfl ?_
        refine V_getE (x := M1 0 43) f dX9_word_30 lf_9_132 rfl zm_0 rfl ?_
        refine V_bald f dX9_word_33 zm_17 (tin hK1.1 h43.1 c2) ?_
        refine V_bipush (v := 97) f dX9_word_34 (by decide) ?_
        refine V_icmp_lt (tgt := 100) f dX9_word_36 (by decide) (fun c4 => ?_) (fun c4 => ?_)
        · refine V_aload_n f dX9_word_100 1 rfl ?_
          refine V_getE (x := M1 0 43) f dX9_word_101 lf_9_132 rfl zm_0 rfl ?_
          refine V_aload_n f dX9_word_104 1 rfl ?_
          refine V_getE (x := M1 0 29) f dX9_word_105 lf_9_123 rfl zm_0 rfl ?_
          refine V_isub f dX9_word_108 ?_
          refine V_bipush (v := 7) f dX9_word_109 (by decide) ?_
          refine V_icmp_le (tgt := 118) f dX9_word_111 (by decide) (fun c5 => ?_) (fun c5 => ?_)
          · refine V_lload_n f dX9_word_118 0 rfl ?_
            exact V_lret f q dX9_word_119 (Nat.zero_le _) (Nat.zero_le _) ⟨rfl, rfl, ⟨_, rfl⟩, hK1, h43⟩
          · refine V_lconst (v := 0) f dX9_word_114 (by decide) ?_
            refine V_goto (tgt := 119) f dX9_word_115 (by decide) ?_
            exact V_lret f q dX9_word_119 (Nat.zero_le _) (Nat.zero_le _) ⟨rfl, rfl, ⟨_, rfl⟩, hK1, h43⟩
        · refine V_aload_n f dX9_word_39 1 rfl ?_
          refine V_getR f dX9_word_40 lf_9_60 rfl zm_0 rfl ?_
          refine V_aload_n f dX9_word_43 1 rfl ?_
          refine V_getE (x := M1 0 43) f dX9_word_44 lf_9_132 rfl zm_0 rfl ?_
          refine V_bald f dX9_word_47 zm_17 (tin hK1.1 h43.1 c2) ?_
          refine V_bipush (v := 122) f dX9_word_48 (by decide) ?_
          refine V_icmp_gt (tgt := 100) f dX9_word_50 (by decide) (fun c6 => ?_) (fun c6 => ?_)
          · refine V_aload_n f dX9_word_100 1 rfl ?_
            refine V_getE (x := M1 0 43) f dX9_word_101 lf_9_132 rfl zm_0 rfl ?_
            refine V_aload_n f dX9_word_104 1 rfl ?_
            refine V_getE (x := M1 0 29) f dX9_word_105 lf_9_123 rfl zm_0 rfl ?_
            refine V_isub f dX9_word_108 ?_
            refine V_bipush (v := 7) f dX9_word_109 (by decide) ?_
            refine V_icmp_le (tgt := 118) f dX9_word_111 (by decide) (fun c7 => ?_) (fun c7 => ?_)
            · refine V_lload_n f dX9_word_118 0 rfl ?_
              exact V_lret f q dX9_word_119 (Nat.zero_le _) (Nat.zero_le _) ⟨rfl, rfl, ⟨_, rfl⟩, hK1, h43⟩
            · refine V_lconst (v := 0) f dX9_word_114 (by decide) ?_
              refine V_goto (tgt := 119) f dX9_word_115 (by decide) ?_
              exact V_lret f q dX9_word_119 (Nat.zero_le _) (Nat.zero_le _) ⟨rfl, rfl, ⟨_, rfl⟩, hK1, h43⟩
          · refine V_aload_n f dX9_word_53 1 rfl ?_
            refine V_getE (x := M1 0 43) f dX9_word_54 lf_9_132 rfl zm_0 rfl ?_
            refine V_aload_n f dX9_word_57 1 rfl ?_
            refine V_getE (x := M1 0 29) f dX9_word_58 lf_9_123 rfl zm_0 rfl ?_
            refine V_isub f dX9_word_61 ?_
            refine V_bipush (v := 7) f dX9_word_62 (by decide) ?_
            refine V_icmp_ge (tgt := 85) f dX9_word_64 (by decide) (fun c8 => ?_) (fun c8 => ?_)
            · refine V_lconst (v := 0) f dX9_word_85 (by decide) ?_
              refine V_lstore_n f dX9_word_86 rfl (by decide) rfl ?_
              refine V_aload_n f dX9_word_87 1 rfl ?_
              refine V_dup f dX9_word_88 rfl ?_
              refine V_getE (x := M1 0 43) f dX9_word_89 lf_9_132 rfl zm_0 rfl ?_
              refine V_iconst (v := 1) f dX9_word_92 (by decide) ?_
              refine V_iadd f dX9_word_93 ?_
              refine V_putI f dX9_word_94 lf_9_132 lp_9_43 rfl rfl rfl rfl zm_0 ?_
              refine V_goto (tgt := 14) f dX9_word_97 (by decide) ?_
              have q9 := tinc hK1 h43.1 c2
              have q8 := hK1.1.2.1.2
              have q6 := hK1.2.1 28 (by decide) (by decide) (by decide)
              exact ih (n - 1) (by omega) _ _ (Kt_wn hK1 b1 (by decide) _) (by rw [up_s, up_k (by decide) rfl, q6]; exact q9.1) (by rw [up_s]; omega)
            · refine V_lload_n f dX9_word_67 0 rfl ?_
              refine V_bipush (v := 8) f dX9_word_68 (by decide) ?_
              refine V_lshl f dX9_word_70 ?_
              refine V_aload_n f dX9_word_71 1 rfl ?_
              refine V_getR f dX9_word_72 lf_9_60 rfl zm_0 rfl ?_
              refine V_aload_n f dX9_word_75 1 rfl ?_
              refine V_getE (x := M1 0 43) f dX9_word_76 lf_9_132 rfl zm_0 rfl ?_
              refine V_bald f dX9_word_79 zm_17 (tin hK1.1 h43.1 c2) ?_
              refine V_i2l f dX9_word_80 ?_
              refine V_lor f dX9_word_81 ?_
              refine V_goto (tgt := 86) f dX9_word_82 (by decide) ?_
              refine V_lstore_n f dX9_word_86 rfl (by decide) rfl ?_
              refine V_aload_n f dX9_word_87 1 rfl ?_
              refine V_dup f dX9_word_88 rfl ?_
              refine V_getE (x := M1 0 43) f dX9_word_89 lf_9_132 rfl zm_0 rfl ?_
              refine V_iconst (v := 1) f dX9_word_92 (by decide) ?_
              refine V_iadd f dX9_word_93 ?_
              refine V_putI f dX9_word_94 lf_9_132 lp_9_43 rfl rfl rfl rfl zm_0 ?_
              refine V_goto (tgt := 14) f dX9_word_97 (by decide) ?_
              have q9 := tinc hK1 h43.1 c2
              have q8 := hK1.1.2.1.2
              have q6 := hK1.2.1 28 (by decide) (by decide) (by decide)
              exact ih (n - 1) (by omega) _ _ (Kt_wn hK1 b1 (by decide) _) (by rw [up_s, up_k (by decide) rfl, q6]; exact q9.1) (by rw [up_s]; omega)
  refine V_aload_n f dX9_word_0 0 rfl ?_
  refine V_cVp (As := []) (rest := []) f dX9_word_1 lk_X9_129 ml_X9_129 ins_X9_blanks sel_X9_blanks zm_0 (by decide) rfl (c3_X9_blanks _ _ _ _ ad M ((Kt_refl (P := bP) hP).1)) rfl (Nat.le_of_ble_eq_true rfl) rfl ⟨by decide, by decide⟩ ⟨Nat.zero_le _, Nat.zero_le _⟩ rfl rfl (fun v1 Mx1 hp1 => ?_)
  obtain ⟨rfl, hk1⟩ := hp1
  show V K ad 0 0 ZM Mx1 4 [(0, .ref (ad 0))] []
  refine V_aload_n f dX9_word_4 0 rfl ?_
  refine V_aload_n f dX9_word_5 0 rfl ?_
  refine V_getE (x := Mx1 0 29) f dX9_word_6 lf_9_123 rfl zm_0 rfl ?_
  refine V_putI f dX9_word_9 lf_9_132 lp_9_43 rfl rfl rfl rfl zm_0 ?_
  refine V_lconst (v := 0) f dX9_word_12 (by decide) ?_
  refine V_lstore_n f dX9_word_13 rfl (by decide) rfl ?_
  have h0 := hk1.1.2.2
  have h1 := hk1.1.2.1.2
  exact loop (1000 - (Mx1 0 29).toInt.toNat) _ 0 (Kt_wn (Kt_trans (Kt_refl (P := bP) hP) (b_b hk1)) b1 (by decide) _) (by rw [up_s, up_k (by decide) rfl]; exact h0) (by rw [up_s]; omega)
theorem we_b {P : Nat → Prop} {M M1 : MT} (h : Kt P M M1) (hw : 0 ≤ (M1 0 43).toInt ∧ (M1 0 43).toInt ≤ (M1 0 28).toInt) : 0 ≤ (M1 0 43).toInt ∧ (M1 0 43).toInt ≤ (M 0 28).toInt := by rw [← h.2.1 28 (by decide) (by decide) (by decide)]; exact hw
set_option maxHeartbeats 4000000 in
set_option maxRecDepth 100000 in
theorem c3_X9_takes (l : Launch) (D : va_G) (cy : Nat → ClassId) (X : va_W) (ad : Nat → Nat) (M : MT) (w : Int64) (hP : ParI M) : CtP l yX9_takes cX9_takes 3 (some .boolean) (rK 2) D cy X ad ZM M [.ref (ad 0), .long w] (fun v M1 => (∃ r : Int32, v = some (.int r) ∧ (r = 0 ∨ r = 1)) ∧ Kt bP M M1) := by
  refine Ctr.of (by decide +kernel) (Nat.le_of_ble_eq_true rfl) ?_
  intro K f q hnm hl0 hD0 hy0 hX0
  show V K ad 0 0 ZM M 0 [(0, .ref (ad 0)), (1, .long w)] []
  refine V_aload_n f dX9_takes_0 0 rfl ?_
  refine V_cVp (As := []) (rest := []) f dX9_takes_1 lk_X9_135 ml_X9_135 ins_X9_word sel_X9_word zm_0 (by decide) rfl (c3_X9_word _ _ _ _ ad M ((Kt_refl (P := bP) hP).1)) rfl (Nat.le_of_ble_eq_true rfl) rfl ⟨by decide, by decide⟩ ⟨Nat.zero_le _, Nat.zero_le _⟩ rfl rfl (fun v1 Mx1 hp1 => ?_)
  obtain ⟨⟨r1, rfl⟩, hk1, hw1⟩ := hp1
  show V K ad 0 0 ZM Mx1 4 [(0, .ref (ad 0)), (1, .long w)] [.long r1]
  refine V_lload_n f dX9_takes_4 1 rfl ?_
  refine V_lcmp f dX9_takes_5 ?_
  refine V_if_eq (tgt := 11) f dX9_takes_6 (by decide) (fun c2 => ?_) (fun c2 => ?_)
  · refine V_aload_n f dX9_takes_11 0 rfl ?_
    refine V_aload_n f dX9_takes_12 0 rfl ?_
    refine V_getE (x := Mx1 0 43) f dX9_takes_13 lf_9_132 rfl zm_0 rfl ?_
    refine V_putI f dX9_takes_16 lf_9_123 lp_9_29 rfl rfl rfl rfl zm_0 ?_
    refine V_iconst (v := 1) f dX9_takes_19 (by decide) ?_
    exact V_iret f q dX9_takes_20 rfl (Nat.zero_le _) (Nat.zero_le _) ⟨rfl, rfl, ⟨1, rfl, Or.inr rfl⟩, (Kt_at (Kt_trans (Kt_refl (P := bP) hP) (b_b hk1)) b1 (we_b (Kt_trans (Kt_refl (P := bP) hP) (b_b hk1)) hw1))⟩
  · refine V_iconst (v := 0) f dX9_takes_9 (by decide) ?_
    exact V_iret f q dX9_takes_10 rfl (Nat.zero_le _) (Nat.zero_le _) ⟨rfl, rfl, ⟨0, rfl, Or.inl rfl⟩, (Kt_trans (Kt_refl (P := bP) hP) (b_b hk1))⟩
set_option maxHeartbeats 4000000 in
set_option maxRecDepth 100000 in
theorem c3_X9_takesNumber (l : Launch) (D : va_G) (cy : Nat → ClassId) (X : va_W) (ad : Nat → Nat) (M : MT) (hP : ParI M) : CtP l yX9_takesNumber cX9_takesNumber 2 (some .boolean) (rK 1) D cy X ad ZM M [.ref (ad 0)] (fun v M1 => (∃ r : Int32, v = some (.int r) ∧ (r = 0 ∨ r = 1)) ∧ Kt bP M M1) := by
  refine Ctr.of (by decide +kernel) (Nat.le_of_ble_eq_true rfl) ?_
  intro K f q hnm hl0 hD0 hy0 hX0
  show V K ad 0 0 ZM M 0 [(0, .ref (ad 0))] []
  have loop : ∀ (n : Nat) (x : Int32) (M1 : MT), Kt bP M M1 → (0 ≤ x.toInt ∧ x.toInt ≤ (M1 0 28).toInt) → x.toInt + (n : Nat) = 1000 → V K ad 0 0 ZM M1 14 [(1, .int x), (0, .ref (ad 0))] [] := by
    intro n
    induction n using Nat.strongRecOn with
    | ind n ih =>
      intro x M1 hK1 hx hn
      refine V_iload_n f dX9_takesNumber_14 0 rfl ?_
      refine V_aload_n f dX9_takesNumber_15 1 rfl ?_
      refine V_getE (x := M1 0 28) f dX9_takesNumber_16 lf_9_126 rfl zm_0 rfl ?_
      refine V_icmp_ge (tgt := 81) f dX9_takesNumber_19 (by decide) (fun c2 => ?_) (fun c2 => ?_)
      · refine V_iload_n f dX9_takesNumber_81 0 rfl ?_
        refine V_aload_n f dX9_takesNumber_82 1 rfl ?_
        refine V_getE (x := M1 0 29) f dX9_takesNumber_83 lf_9_123 rfl zm_0 rfl ?_
        refine V_icmp_eq (tgt := 99) f dX9_takesNumber_86 (by decide) (fun c3 => ?_) (fun c3 => ?_)
        · refine V_iconst (v := 0) f dX9_takesNumber_99 (by decide) ?_
          exact V_iret f q dX9_takesNumber_100 rfl (Nat.zero_le _) (Nat.zero_le _) ⟨rfl, rfl, ⟨0, rfl, Or.inl rfl⟩, hK1⟩
        · refine V_iload_n f dX9_takesNumber_89 0 rfl ?_
          refine V_aload_n f dX9_takesNumber_90 1 rfl ?_
          refine V_getE (x := M1 0 29) f dX9_takesNumber_91 lf_9_123 rfl zm_0 rfl ?_
          refine V_isub f dX9_takesNumber_94 ?_
          refine V_iconst (v := 4) f dX9_takesNumber_95 (by decide) ?_
          refine V_icmp_le (tgt := 101) f dX9_takesNumber_96 (by decide) (fun c4 => ?_) (fun c4 => ?_)
          · refine V_aload_n f dX9_takesNumber_101 1 rfl ?_
            refine V_iload_n f dX9_takesNumber_102 0 rfl ?_
            refine V_putI f dX9_takesNumber_103 lf_9_123 lp_9_29 rfl rfl rfl rfl zm_0 ?_
            refine V_iconst (v := 1) f dX9_takesNumber_106 (by decide) ?_
            exact V_iret f q dX9_takesNumber_107 rfl (Nat.zero_le _) (Nat.zero_le _) ⟨rfl, rfl, ⟨1, rfl, Or.inr rfl⟩, (Kt_at hK1 b1 (by rw [← hK1.2.1 28 (by decide) (by decide) (by decide)]; exact hx))⟩
          · refine V_iconst (v := 0) f dX9_takesNumber_99 (by decide) ?_
            exact V_iret f q dX9_takesNumber_100 rfl (Nat.zero_le _) (Nat.zero_le _) ⟨rfl, rfl, ⟨0, rfl, Or.inl rfl⟩, hK1⟩
      · refine V_aload_n f dX9_takesNumber_22 1 rfl ?_
        refine V_getR f dX9_takesNumber_23 lf_9_60 rfl zm_0 rfl ?_
        refine V_iload_n f dX9_takesNumber_26 0 rfl ?_
        refine V_bald f dX9_takesNumber_27 zm_17 (tin hK1.1 hx.1 c2) ?_
        refine V_bipush (v := 48) f dX9_takesNumber_28 (by decide) ?_
        refine V_icmp_lt (tgt := 81) f dX9_takesNumber_30 (by decide) (fun c5 => ?_) (fun c5 => ?_)
        · refine V_iload_n f dX9_takesNumber_81 0 rfl ?_
          refine V_aload_n f dX9_takesNumber_82 1 rfl ?_
          refine V_getE (x := M1 0 29) f dX9_takesNumber_83 lf_9_123 rfl zm_0 rfl ?_
          refine V_icmp_eq (tgt := 99) f dX9_takesNumber_86 (by decide) (fun c6 => ?_) (fun c6 => ?_)
          · refine V_iconst (v := 0) f dX9_takesNumber_99 (by decide) ?_
            exact V_iret f q dX9_takesNumber_100 rfl (Nat.zero_le _) (Nat.zero_le _) ⟨rfl, rfl, ⟨0, rfl, Or.inl rfl⟩, hK1⟩
          · refine V_iload_n f dX9_takesNumber_89 0 rfl ?_
            refine V_aload_n f dX9_takesNumber_90 1 rfl ?_
            refine V_getE (x := M1 0 29) f dX9_takesNumber_91 lf_9_123 rfl zm_0 rfl ?_
            refine V_isub f dX9_takesNumber_94 ?_
            refine V_iconst (v := 4) f dX9_takesNumber_95 (by decide) ?_
            refine V_icmp_le (tgt := 101) f dX9_takesNumber_96 (by decide) (fun c7 => ?_) (fun c7 => ?_)
            · refine V_aload_n f dX9_takesNumber_101 1 rfl ?_
              refine V_iload_n f dX9_takesNumber_102 0 rfl ?_
              refine V_putI f dX9_takesNumber_103 lf_9_123 lp_9_29 rfl rfl rfl rfl zm_0 ?_
              refine V_iconst (v := 1) f dX9_takesNumber_106 (by decide) ?_
              exact V_iret f q dX9_takesNumber_107 rfl (Nat.zero_le _) (Nat.zero_le _) ⟨rfl, rfl, ⟨1, rfl, Or.inr rfl⟩, (Kt_at hK1 b1 (by rw [← hK1.2.1 28 (by decide) (by decide) (by decide)]; exact hx))⟩
            · refine V_iconst (v := 0) f dX9_takesNumber_99 (by decide) ?_
              exact V_iret f q dX9_takesNumber_100 rfl (Nat.zero_le _) (Nat.zero_le _) ⟨rfl, rfl, ⟨0, rfl, Or.inl rfl⟩, hK1⟩
        · refine V_aload_n f dX9_takesNumber_33 1 rfl ?_
          refine V_getR f dX9_takesNumber_34 lf_9_60 rfl zm_0 rfl ?_
          refine V_iload_n f dX9_takesNumber_37 0 rfl ?_
          refine V_bald f dX9_takesNumber_38 zm_17 (tin hK1.1 hx.1 c2) ?_
          refine V_bipush (v := 57) f dX9_takesNumber_39 (by decide) ?_
          refine V_icmp_gt (tgt := 81) f dX9_takesNumber_41 (by decide) (fun c8 => ?_) (fun c8 => ?_)
          · refine V_iload_n f dX9_takesNumber_81 0 rfl ?_
            refine V_aload_n f dX9_takesNumber_82 1 rfl ?_
            refine V_getE (x := M1 0 29) f dX9_takesNumber_83 lf_9_123 rfl zm_0 rfl ?_
            refine V_icmp_eq (tgt := 99) f dX9_takesNumber_86 (by decide) (fun c9 => ?_) (fun c9 => ?_)
            · refine V_iconst (v := 0) f dX9_takesNumber_99 (by decide) ?_
              exact V_iret f q dX9_takesNumber_100 rfl (Nat.zero_le _) (Nat.zero_le _) ⟨rfl, rfl, ⟨0, rfl, Or.inl rfl⟩, hK1⟩
            · refine V_iload_n f dX9_takesNumber_89 0 rfl ?_
              refine V_aload_n f dX9_takesNumber_90 1 rfl ?_
              refine V_getE (x := M1 0 29) f dX9_takesNumber_91 lf_9_123 rfl zm_0 rfl ?_
              refine V_isub f dX9_takesNumber_94 ?_
              refine V_iconst (v := 4) f dX9_takesNumber_95 (by decide) ?_
              refine V_icmp_le (tgt := 101) f dX9_takesNumber_96 (by decide) (fun c10 => ?_) (fun c10 => ?_)
              · refine V_aload_n f dX9_takesNumber_101 1 rfl ?_
                refine V_iload_n f dX9_takesNumber_102 0 rfl ?_
                refine V_putI f dX9_takesNumber_103 lf_9_123 lp_9_29 rfl rfl rfl rfl zm_0 ?_
                refine V_iconst (v := 1) f dX9_takesNumber_106 (by decide) ?_
                exact V_iret f q dX9_takesNumber_107 rfl (Nat.zero_le _) (Nat.zero_le _) ⟨rfl, rfl, ⟨1, rfl, Or.inr rfl⟩, (Kt_at hK1 b1 (by rw [← hK1.2.1 28 (by decide) (by decide) (by decide)]; exact hx))⟩
              · refine V_iconst (v := 0) f dX9_takesNumber_99 (by decide) ?_
                exact V_iret f q dX9_takesNumber_100 rfl (Nat.zero_le _) (Nat.zero_le _) ⟨rfl, rfl, ⟨0, rfl, Or.inl rfl⟩, hK1⟩
          · refine V_iload_n f dX9_takesNumber_44 0 rfl ?_
            refine V_aload_n f dX9_takesNumber_45 1 rfl ?_
            refine V_getE (x := M1 0 29) f dX9_takesNumber_46 lf_9_123 rfl zm_0 rfl ?_
            refine V_isub f dX9_takesNumber_49 ?_
            refine V_iconst (v := 4) f dX9_takesNumber_50 (by decide) ?_
            refine V_icmp_ge (tgt := 75) f dX9_takesNumber_51 (by decide) (fun c11 => ?_) (fun c11 => ?_)
            · refine V_iinc (v := x + 1) f dX9_takesNumber_75 0 rfl rfl (by decide) rfl ?_
              refine V_goto (tgt := 14) f dX9_takesNumber_78 (by decide) ?_
              have q9 := tinc hK1 hx.1 c2
              have q8 := hK1.1.2.1.2
              have q6 := hK1.2.1 28 (by decide) (by decide) (by decide)
              exact ih (n - 1) (by omega) (x + 1) _ hK1 (by rw [q6]; exact q9.1) (by omega)
            · refine V_aload_n f dX9_takesNumber_54 1 rfl ?_
              refine V_bipush (v := 10) f dX9_takesNumber_55 (by decide) ?_
              refine V_aload_n f dX9_takesNumber_57 1 rfl ?_
              refine V_getE (x := M1 0 44) f dX9_takesNumber_58 lf_9_139 rfl zm_0 rfl ?_
              refine V_imul f dX9_takesNumber_61 ?_
              refine V_aload_n f dX9_takesNumber_62 1 rfl ?_
              refine V_getR f dX9_takesNumber_63 lf_9_60 rfl zm_0 rfl ?_
              refine V_iload_n f dX9_takesNumber_66 0 rfl ?_
              refine V_bald f dX9_takesNumber_67 zm_17 (tin hK1.1 hx.1 c2) ?_
              refine V_iadd f dX9_takesNumber_68 ?_
              refine V_bipush (v := 48) f dX9_takesNumber_69 (by decide) ?_
              refine V_isub f dX9_takesNumber_71 ?_
              refine V_putI f dX9_takesNumber_72 lf_9_139 lp_9_44 rfl rfl rfl rfl zm_0 ?_
              refine V_iinc (v := x + 1) f dX9_takesNumber_75 0 rfl rfl (by decide) rfl ?_
              refine V_goto (tgt := 14) f dX9_takesNumber_78 (by decide) ?_
              have q9 := tinc hK1 hx.1 c2
              have q8 := hK1.1.2.1.2
              have q6 := hK1.2.1 28 (by decide) (by decide) (by decide)
              exact ih (n - 1) (by omega) (x + 1) _ (Kt_wn hK1 b1 (by decide) _) (by rw [up_k (by decide) rfl]; rw [q6]; exact q9.1) (by omega)
  refine V_aload_n f dX9_takesNumber_0 0 rfl ?_
  refine V_cVp (As := []) (rest := []) f dX9_takesNumber_1 lk_X9_129 ml_X9_129 ins_X9_blanks sel_X9_blanks zm_0 (by decide) rfl (c3_X9_blanks _ _ _ _ ad M ((Kt_refl (P := bP) hP).1)) rfl (Nat.le_of_ble_eq_true rfl) rfl ⟨by decide, by decide⟩ ⟨Nat.zero_le _, Nat.zero_le _⟩ rfl rfl (fun v1 Mx1 hp1 => ?_)
  obtain ⟨rfl, hk1⟩ := hp1
  show V K ad 0 0 ZM Mx1 4 [(0, .ref (ad 0))] []
  refine V_aload_n f dX9_takesNumber_4 0 rfl ?_
  refine V_getE (x := Mx1 0 29) f dX9_takesNumber_5 lf_9_123 rfl zm_0 rfl ?_
  refine V_istore_n f dX9_takesNumber_8 rfl (by decide) rfl ?_
  refine V_aload_n f dX9_takesNumber_9 1 rfl ?_
  refine V_iconst (v := 0) f dX9_takesNumber_10 (by decide) ?_
  refine V_putI f dX9_takesNumber_11 lf_9_139 lp_9_44 rfl rfl rfl rfl zm_0 ?_
  have h0 := hk1.1.2.2
  have h1 := hk1.1.2.1.2
  exact loop (1000 - (Mx1 0 29).toInt.toNat) _ _ (Kt_wn (Kt_trans (Kt_refl (P := bP) hP) (b_b hk1)) b1 (by decide) _) (by rw [up_k (by decide) rfl]; exact h0) (by omega)
set_option maxHeartbeats 4000000 in
set_option maxRecDepth 100000 in
theorem c3_X9_test (l : Launch) (D : va_G) (cy : Nat → ClassId) (X : va_W) (ad : Nat → Nat) (M : MT) (a : Int32) (hP : ParI M) (ha : vp_in a 432) : CtP l yX9_test cX9_test 4 (some .boolean) (rK 2) D cy X ad ZM M [.ref (ad 0), .int a] (fun v M1 => (∃ r : Int32, v = some (.int r) ∧ (r = 0 ∨ r = 1)) ∧ Kt tP M M1) := by
  refine Ctr.of (by decide +kernel) (Nat.le_of_ble_eq_true rfl) ?_
  intro K f q hnm hl0 hD0 hy0 hX0
  show V K ad 0 0 ZM M 0 [(0, .ref (ad 0)), (1, .int a)] []
  refine V_aload_n f dX9_test_0 0 rfl ?_
  refine V_cVp (As := []) (rest := []) f dX9_test_1 lk_X9_135 ml_X9_135 ins_X9_word sel_X9_word zm_0 (by decide) rfl (c3_X9_word _ _ _ _ ad M ((Kt_refl (P := tP) hP).1)) rfl (Nat.le_of_ble_eq_true rfl) rfl ⟨by decide, by decide⟩ ⟨Nat.zero_le _, Nat.zero_le _⟩ rfl rfl (fun v1 Mx1 hp1 => ?_)
  obtain ⟨⟨r1, rfl⟩, hk1, hw1⟩ := hp1
  show V K ad 0 0 ZM Mx1 4 [(0, .ref (ad 0)), (1, .int a)] [.long r1]
  refine V_lstore_n f dX9_test_4 rfl (by decide) rfl ?_
  refine V_aload_n f dX9_test_5 1 rfl ?_
  refine V_getR f dX9_test_6 lf_9_91 rfl zm_0 rfl ?_
  refine V_iload_n f dX9_test_9 2 rfl ?_
  refine V_lload_n f dX9_test_10 0 rfl ?_
  refine V_ldc2 (v := 1751474548) f dX9_test_11 lc_X9_142 ?_
  refine V_lcmp f dX9_test_14 ?_
  refine V_if_ne (tgt := 22) f dX9_test_15 (by decide) (fun c2 => ?_) (fun c2 => ?_)
  · refine V_lload_n f dX9_test_22 0 rfl ?_
    refine V_ldc2 (v := 512802253683) f dX9_test_23 lc_X9_144 ?_
    refine V_lcmp f dX9_test_26 ?_
    refine V_if_ne (tgt := 34) f dX9_test_27 (by decide) (fun c3 => ?_) (fun c3 => ?_)
    · refine V_lload_n f dX9_test_34 0 rfl ?_
      refine V_ldc2 (v := 1953459827) f dX9_test_35 lc_X9_146 ?_
      refine V_lcmp f dX9_test_38 ?_
      refine V_if_ne (tgt := 46) f dX9_test_39 (by decide) (fun c4 => ?_) (fun c4 => ?_)
      · refine V_iconst (v := (-1)) f dX9_test_46 (by decide) ?_
        refine V_iast f dX9_test_47 zm_26 ha ?_
        refine V_aload_n f dX9_test_48 1 rfl ?_
        refine V_getR f dX9_test_49 lf_9_91 rfl zm_0 rfl ?_
        refine V_iload_n f dX9_test_52 2 rfl ?_
        refine V_ialdE (x := (-1)) f dX9_test_53 zm_26 ha up_s ?_
        refine V_iconst (v := (-1)) f dX9_test_54 (by decide) ?_
        refine V_icmp_ne (tgt := 60) f dX9_test_55 (by decide) (fun h => absurd (by decide) h) (fun _ => ?_)
        refine V_iconst (v := 0) f dX9_test_58 (by decide) ?_
        exact V_iret f q dX9_test_59 rfl (Nat.zero_le _) (Nat.zero_le _) ⟨rfl, rfl, ⟨0, rfl, Or.inl rfl⟩, (Kt_ct (Kt_trans (Kt_refl (P := tP) hP) (b_t hk1)) (by decide) _ _)⟩
      · refine V_iconst (v := 2) f dX9_test_42 (by decide) ?_
        refine V_goto (tgt := 47) f dX9_test_43 (by decide) ?_
        refine V_iast f dX9_test_47 zm_26 ha ?_
        refine V_aload_n f dX9_test_48 1 rfl ?_
        refine V_getR f dX9_test_49 lf_9_91 rfl zm_0 rfl ?_
        refine V_iload_n f dX9_test_52 2 rfl ?_
        refine V_ialdE (x := 2) f dX9_test_53 zm_26 ha up_s ?_
        refine V_iconst (v := (-1)) f dX9_test_54 (by decide) ?_
        refine V_icmp_ne (tgt := 60) f dX9_test_55 (by decide) (fun _ => ?_) (fun h => absurd h (by decide))
        refine V_aload_n f dX9_test_60 1 rfl ?_
        refine V_aload_n f dX9_test_61 1 rfl ?_
        refine V_getE (x := Mx1 0 43) f dX9_test_62 lf_9_132 rfl zm_0 (up_c (by decide) rfl) ?_
        refine V_putI f dX9_test_65 lf_9_123 lp_9_29 rfl rfl rfl rfl zm_0 ?_
        refine V_aload_n f dX9_test_68 1 rfl ?_
        refine V_cVp (As := []) (rest := []) f dX9_test_69 lk_X9_129 ml_X9_129 ins_X9_blanks sel_X9_blanks zm_0 (by decide) rfl (c3_X9_blanks _ _ _ _ ad (up2 (up2 Mx1 26 (Int32.toNatClampNeg a) 2) 0 29 (Mx1 0 43)) ((Kt_at (Kt_ct (Kt_trans (Kt_refl (P := tP) hP) (b_t hk1)) (by decide) _ _) t1 (we_b (Kt_trans (Kt_refl (P := tP) hP) (b_t hk1)) hw1)).1)) rfl (Nat.le_of_ble_eq_true rfl) rfl ⟨by decide, by decide⟩ ⟨Nat.zero_le _, Nat.zero_le _⟩ rfl rfl (fun v5 Mx5 hp5 => ?_)
        obtain ⟨rfl, hk5⟩ := hp5
        show V K ad 0 0 ZM Mx5 72 [(2, .long r1), (0, .ref (ad 0)), (1, .int a)] []
        refine V_aload_n f dX9_test_72 1 rfl ?_
        refine V_getE (x := Mx5 0 29) f dX9_test_73 lf_9_123 rfl zm_0 rfl ?_
        refine V_aload_n f dX9_test_76 1 rfl ?_
        refine V_getE (x := Mx5 0 28) f dX9_test_77 lf_9_126 rfl zm_0 rfl ?_
        refine V_icmp_eq (tgt := 125) f dX9_test_80 (by decide) (fun c6 => ?_) (fun c6 => ?_)
        · refine V_iconst (v := 0) f dX9_test_125 (by decide) ?_
          exact V_iret f q dX9_test_126 rfl (Nat.zero_le _) (Nat.zero_le _) ⟨rfl, rfl, ⟨0, rfl, Or.inl rfl⟩, (Kt_trans (Kt_at (Kt_ct (Kt_trans (Kt_refl (P := tP) hP) (b_t hk1)) (by decide) _ _) t1 (we_b (Kt_trans (Kt_refl (P := tP) hP) (b_t hk1)) hw1)) (b_t hk5))⟩
        · refine V_aload_n f dX9_test_83 1 rfl ?_
          refine V_getR f dX9_test_84 lf_9_60 rfl zm_0 rfl ?_
          refine V_aload_n f dX9_test_87 1 rfl ?_
          refine V_getE (x := Mx5 0 29) f dX9_test_88 lf_9_123 rfl zm_0 rfl ?_
          refine V_bald f dX9_test_91 zm_17 (tin (Kt_trans (Kt_at (Kt_ct (Kt_trans (Kt_refl (P := tP) hP) (b_t hk1)) (by decide) _ _) t1 (we_b (Kt_trans (Kt_refl (P := tP) hP) (b_t hk1)) hw1)) (b_t hk5)).1 (Kt_trans (Kt_at (Kt_ct (Kt_trans (Kt_refl (P := tP) hP) (b_t hk1)) (by decide) _ _) t1 (we_b (Kt_trans (Kt_refl (P := tP) hP) (b_t hk1)) hw1)) (b_t hk5)).1.2.2.1 (tne (Kt_trans (Kt_at (Kt_ct (Kt_trans (Kt_refl (P := tP) hP) (b_t hk1)) (by decide) _ _) t1 (we_b (Kt_trans (Kt_refl (P := tP) hP) (b_t hk1)) hw1)) (b_t hk5)).1 c6)) ?_
          refine V_bipush (v := 60) f dX9_test_92 (by decide) ?_
          refine V_icmp_eq (tgt := 127) f dX9_test_94 (by decide) (fun c7 => ?_) (fun c7 => ?_)
          · refine V_aload_n f dX9_test_127 1 rfl ?_
            refine V_getR f dX9_test_128 lf_9_94 rfl zm_0 rfl ?_
            refine V_iload_n f dX9_test_131 2 rfl ?_
            refine V_aload_n f dX9_test_132 1 rfl ?_
            refine V_getR f dX9_test_133 lf_9_60 rfl zm_0 rfl ?_
            refine V_aload_n f dX9_test_136 1 rfl ?_
            refine V_getE (x := Mx5 0 29) f dX9_test_137 lf_9_123 rfl zm_0 rfl ?_
            refine V_bald f dX9_test_140 zm_17 (tin (Kt_trans (Kt_at (Kt_ct (Kt_trans (Kt_refl (P := tP) hP) (b_t hk1)) (by decide) _ _) t1 (we_b (Kt_trans (Kt_refl (P := tP) hP) (b_t hk1)) hw1)) (b_t hk5)).1 (Kt_trans (Kt_at (Kt_ct (Kt_trans (Kt_refl (P := tP) hP) (b_t hk1)) (by decide) _ _) t1 (we_b (Kt_trans (Kt_refl (P := tP) hP) (b_t hk1)) hw1)) (b_t hk5)).1.2.2.1 (tne (Kt_trans (Kt_at (Kt_ct (Kt_trans (Kt_refl (P := tP) hP) (b_t hk1)) (by decide) _ _) t1 (we_b (Kt_trans (Kt_refl (P := tP) hP) (b_t hk1)) hw1)) (b_t hk5)).1 c6)) ?_
            refine V_iast f dX9_test_141 zm_27 ha ?_
            refine V_aload_n f dX9_test_142 1 rfl ?_
            refine V_dup f dX9_test_143 rfl ?_
            refine V_getE (x := Mx5 0 29) f dX9_test_144 lf_9_123 rfl zm_0 (up_c (by decide) rfl) ?_
            refine V_iconst (v := 1) f dX9_test_147 (by decide) ?_
            refine V_iadd f dX9_test_148 ?_
            refine V_putI f dX9_test_149 lf_9_123 lp_9_29 rfl rfl rfl rfl zm_0 ?_
            refine V_aload_n f dX9_test_152 1 rfl ?_
            refine V_cVp (As := []) (rest := []) f dX9_test_153 lk_X9_148 ml_X9_148 ins_X9_takesNumber sel_X9_takesNumber zm_0 (by decide) rfl (c3_X9_takesNumber _ _ _ _ ad (up2 (up2 Mx5 27 (Int32.toNatClampNeg a) (Mx5 17 (Int32.toNatClampNeg (Mx5 0 29)))) 0 29 ((Mx5 0 29) + 1)) ((Kt_at (Kt_ct (Kt_trans (Kt_at (Kt_ct (Kt_trans (Kt_refl (P := tP) hP) (b_t hk1)) (by decide) _ _) t1 (we_b (Kt_trans (Kt_refl (P := tP) hP) (b_t hk1)) hw1)) (b_t hk5)) (by decide) _ _) t1 (tinc (Kt_trans (Kt_at (Kt_ct (Kt_trans (Kt_refl (P := tP) hP) (b_t hk1)) (by decide) _ _) t1 (we_b (Kt_trans (Kt_refl (P := tP) hP) (b_t hk1)) hw1)) (b_t hk5)) (Kt_trans (Kt_at (Kt_ct (Kt_trans (Kt_refl (P := tP) hP) (b_t hk1)) (by decide) _ _) t1 (we_b (Kt_trans (Kt_refl (P := tP) hP) (b_t hk1)) hw1)) (b_t hk5)).1.2.2.1 (tne (Kt_trans (Kt_at (Kt_ct (Kt_trans (Kt_refl (P := tP) hP) (b_t hk1)) (by decide) _ _) t1 (we_b (Kt_trans (Kt_refl (P := tP) hP) (b_t hk1)) hw1)) (b_t hk5)).1 c6)).1).1)) rfl (Nat.le_of_ble_eq_true rfl) rfl ⟨by decide, by decide⟩ ⟨Nat.zero_le _, Nat.zero_le _⟩ rfl rfl (fun v8 Mx8 hp8 => ?_)
            obtain ⟨⟨r8, rfl, hr8⟩, hk8⟩ := hp8
            show V K ad 0 0 ZM Mx8 156 [(2, .long r1), (0, .ref (ad 0)), (1, .int a)] [.int r8]
            refine V_if_ne (tgt := 161) f dX9_test_156 (by decide) (fun c9 => ?_) (fun c9 => ?_)
            · refine V_aload_n f dX9_test_161 1 rfl ?_
              refine V_getR f dX9_test_162 lf_9_97 rfl zm_0 rfl ?_
              refine V_iload_n f dX9_test_165 2 rfl ?_
              refine V_aload_n f dX9_test_166 1 rfl ?_
              refine V_getE (x := Mx8 0 44) f dX9_test_167 lf_9_139 rfl zm_0 rfl ?_
              refine V_iast f dX9_test_170 zm_28 ha ?_
              refine V_iconst (v := 1) f dX9_test_171 (by decide) ?_
              exact V_iret f q dX9_test_172 rfl (Nat.zero_le _) (Nat.zero_le _) ⟨rfl, rfl, ⟨1, rfl, Or.inr rfl⟩, (Kt_ct (Kt_trans (Kt_at (Kt_ct (Kt_trans (Kt_at (Kt_ct (Kt_trans (Kt_refl (P := tP) hP) (b_t hk1)) (by decide) _ _) t1 (we_b (Kt_trans (Kt_refl (P := tP) hP) (b_t hk1)) hw1)) (b_t hk5)) (by decide) _ _) t1 (tinc (Kt_trans (Kt_at (Kt_ct (Kt_trans (Kt_refl (P := tP) hP) (b_t hk1)) (by decide) _ _) t1 (we_b (Kt_trans (Kt_refl (P := tP) hP) (b_t hk1)) hw1)) (b_t hk5)) (Kt_trans (Kt_at (Kt_ct (Kt_trans (Kt_refl (P := tP) hP) (b_t hk1)) (by decide) _ _) t1 (we_b (Kt_trans (Kt_refl (P := tP) hP) (b_t hk1)) hw1)) (b_t hk5)).1.2.2.1 (tne (Kt_trans (Kt_at (Kt_ct (Kt_trans (Kt_refl (P := tP) hP) (b_t hk1)) (by decide) _ _) t1 (we_b (Kt_trans (Kt_refl (P := tP) hP) (b_t hk1)) hw1)) (b_t hk5)).1 c6)).1) (b_t hk8)) (by decide) _ _)⟩
            · refine V_iconst (v := 0) f dX9_test_159 (by decide) ?_
              exact V_iret f q dX9_test_160 rfl (Nat.zero_le _) (Nat.zero_le _) ⟨rfl, rfl, ⟨0, rfl, Or.inl rfl⟩, (Kt_trans (Kt_at (Kt_ct (Kt_trans (Kt_at (Kt_ct (Kt_trans (Kt_refl (P := tP) hP) (b_t hk1)) (by decide) _ _) t1 (we_b (Kt_trans (Kt_refl (P := tP) hP) (b_t hk1)) hw1)) (b_t hk5)) (by decide) _ _) t1 (tinc (Kt_trans (Kt_at (Kt_ct (Kt_trans (Kt_refl (P := tP) hP) (b_t hk1)) (by decide) _ _) t1 (we_b (Kt_trans (Kt_refl (P := tP) hP) (b_t hk1)) hw1)) (b_t hk5)) (Kt_trans (Kt_at (Kt_ct (Kt_trans (Kt_refl (P := tP) hP) (b_t hk1)) (by decide) _ _) t1 (we_b (Kt_trans (Kt_refl (P := tP) hP) (b_t hk1)) hw1)) (b_t hk5)).1.2.2.1 (tne (Kt_trans (Kt_at (Kt_ct (Kt_trans (Kt_refl (P := tP) hP) (b_t hk1)) (by decide) _ _) t1 (we_b (Kt_trans (Kt_refl (P := tP) hP) (b_t hk1)) hw1)) (b_t hk5)).1 c6)).1) (b_t hk8))⟩
          · refine V_aload_n f dX9_test_97 1 rfl ?_
            refine V_getR f dX9_test_98 lf_9_60 rfl zm_0 rfl ?_
            refine V_aload_n f dX9_test_101 1 rfl ?_
            refine V_getE (x := Mx5 0 29) f dX9_test_102 lf_9_123 rfl zm_0 rfl ?_
            refine V_bald f dX9_test_105 zm_17 (tin (Kt_trans (Kt_at (Kt_ct (Kt_trans (Kt_refl (P := tP) hP) (b_t hk1)) (by decide) _ _) t1 (we_b (Kt_trans (Kt_refl (P := tP) hP) (b_t hk1)) hw1)) (b_t hk5)).1 (Kt_trans (Kt_at (Kt_ct (Kt_trans (Kt_refl (P := tP) hP) (b_t hk1)) (by decide) _ _) t1 (we_b (Kt_trans (Kt_refl (P := tP) hP) (b_t hk1)) hw1)) (b_t hk5)).1.2.2.1 (tne (Kt_trans (Kt_at (Kt_ct (Kt_trans (Kt_refl (P := tP) hP) (b_t hk1)) (by decide) _ _) t1 (we_b (Kt_trans (Kt_refl (P := tP) hP) (b_t hk1)) hw1)) (b_t hk5)).1 c6)) ?_
            refine V_bipush (v := 62) f dX9_test_106 (by decide) ?_
            refine V_icmp_eq (tgt := 127) f dX9_test_108 (by decide) (fun c10 => ?_) (fun c10 => ?_)
            · refine V_aload_n f dX9_test_127 1 rfl ?_
              refine V_getR f dX9_test_128 lf_9_94 rfl zm_0 rfl ?_
              refine V_iload_n f dX9_test_131 2 rfl ?_
              refine V_aload_n f dX9_test_132 1 rfl ?_
              refine V_getR f dX9_test_133 lf_9_60 rfl zm_0 rfl ?_
              refine V_aload_n f dX9_test_136 1 rfl ?_
              refine V_getE (x := Mx5 0 29) f dX9_test_137 lf_9_123 rfl zm_0 rfl ?_
              refine V_bald f dX9_test_140 zm_17 (tin (Kt_trans (Kt_at (Kt_ct (Kt_trans (Kt_refl (P := tP) hP) (b_t hk1)) (by decide) _ _) t1 (we_b (Kt_trans (Kt_refl (P := tP) hP) (b_t hk1)) hw1)) (b_t hk5)).1 (Kt_trans (Kt_at (Kt_ct (Kt_trans (Kt_refl (P := tP) hP) (b_t hk1)) (by decide) _ _) t1 (we_b (Kt_trans (Kt_refl (P := tP) hP) (b_t hk1)) hw1)) (b_t hk5)).1.2.2.1 (tne (Kt_trans (Kt_at (Kt_ct (Kt_trans (Kt_refl (P := tP) hP) (b_t hk1)) (by decide) _ _) t1 (we_b (Kt_trans (Kt_refl (P := tP) hP) (b_t hk1)) hw1)) (b_t hk5)).1 c6)) ?_
              refine V_iast f dX9_test_141 zm_27 ha ?_
              refine V_aload_n f dX9_test_142 1 rfl ?_
              refine V_dup f dX9_test_143 rfl ?_
              refine V_getE (x := Mx5 0 29) f dX9_test_144 lf_9_123 rfl zm_0 (up_c (by decide) rfl) ?_
              refine V_iconst (v := 1) f dX9_test_147 (by decide) ?_
              refine V_iadd f dX9_test_148 ?_
              refine V_putI f dX9_test_149 lf_9_123 lp_9_29 rfl rfl rfl rfl zm_0 ?_
              refine V_aload_n f dX9_test_152 1 rfl ?_
              refine V_cVp (As := []) (rest := []) f dX9_test_153 lk_X9_148 ml_X9_148 ins_X9_takesNumber sel_X9_takesNumber zm_0 (by decide) rfl (c3_X9_takesNumber _ _ _ _ ad (up2 (up2 Mx5 27 (Int32.toNatClampNeg a) (Mx5 17 (Int32.toNatClampNeg (Mx5 0 29)))) 0 29 ((Mx5 0 29) + 1)) ((Kt_at (Kt_ct (Kt_trans (Kt_at (Kt_ct (Kt_trans (Kt_refl (P := tP) hP) (b_t hk1)) (by decide) _ _) t1 (we_b (Kt_trans (Kt_refl (P := tP) hP) (b_t hk1)) hw1)) (b_t hk5)) (by decide) _ _) t1 (tinc (Kt_trans (Kt_at (Kt_ct (Kt_trans (Kt_refl (P := tP) hP) (b_t hk1)) (by decide) _ _) t1 (we_b (Kt_trans (Kt_refl (P := tP) hP) (b_t hk1)) hw1)) (b_t hk5)) (Kt_trans (Kt_at (Kt_ct (Kt_trans (Kt_refl (P := tP) hP) (b_t hk1)) (by decide) _ _) t1 (we_b (Kt_trans (Kt_refl (P := tP) hP) (b_t hk1)) hw1)) (b_t hk5)).1.2.2.1 (tne (Kt_trans (Kt_at (Kt_ct (Kt_trans (Kt_refl (P := tP) hP) (b_t hk1)) (by decide) _ _) t1 (we_b (Kt_trans (Kt_refl (P := tP) hP) (b_t hk1)) hw1)) (b_t hk5)).1 c6)).1).1)) rfl (Nat.le_of_ble_eq_true rfl) rfl ⟨by decide, by decide⟩ ⟨Nat.zero_le _, Nat.zero_le _⟩ rfl rfl (fun v11 Mx11 hp11 => ?_)
              obtain ⟨⟨r11, rfl, hr11⟩, hk11⟩ := hp11
              show V K ad 0 0 ZM Mx11 156 [(2, .long r1), (0, .ref (ad 0)), (1, .int a)] [.int r11]
              refine V_if_ne (tgt := 161) f dX9_test_156 (by decide) (fun c12 => ?_) (fun c12 => ?_)
              · refine V_aload_n f dX9_test_161 1 rfl ?_
                refine V_getR f dX9_test_162 lf_9_97 rfl zm_0 rfl ?_
                refine V_iload_n f dX9_test_165 2 rfl ?_
                refine V_aload_n f dX9_test_166 1 rfl ?_
                refine V_getE (x := Mx11 0 44) f dX9_test_167 lf_9_139 rfl zm_0 rfl ?_
                refine V_iast f dX9_test_170 zm_28 ha ?_
                refine V_iconst (v := 1) f dX9_test_171 (by decide) ?_
                exact V_iret f q dX9_test_172 rfl (Nat.zero_le _) (Nat.zero_le _) ⟨rfl, rfl, ⟨1, rfl, Or.inr rfl⟩, (Kt_ct (Kt_trans (Kt_at (Kt_ct (Kt_trans (Kt_at (Kt_ct (Kt_trans (Kt_refl (P := tP) hP) (b_t hk1)) (by decide) _ _) t1 (we_b (Kt_trans (Kt_refl (P := tP) hP) (b_t hk1)) hw1)) (b_t hk5)) (by decide) _ _) t1 (tinc (Kt_trans (Kt_at (Kt_ct (Kt_trans (Kt_refl (P := tP) hP) (b_t hk1)) (by decide) _ _) t1 (we_b (Kt_trans (Kt_refl (P := tP) hP) (b_t hk1)) hw1)) (b_t hk5)) (Kt_trans (Kt_at (Kt_ct (Kt_trans (Kt_refl (P := tP) hP) (b_t hk1)) (by decide) _ _) t1 (we_b (Kt_trans (Kt_refl (P := tP) hP) (b_t hk1)) hw1)) (b_t hk5)).1.2.2.1 (tne (Kt_trans (Kt_at (Kt_ct (Kt_trans (Kt_refl (P := tP) hP) (b_t hk1)) (by decide) _ _) t1 (we_b (Kt_trans (Kt_refl (P := tP) hP) (b_t hk1)) hw1)) (b_t hk5)).1 c6)).1) (b_t hk11)) (by decide) _ _)⟩
              · refine V_iconst (v := 0) f dX9_test_159 (by decide) ?_
                exact V_iret f q dX9_test_160 rfl (Nat.zero_le _) (Nat.zero_le _) ⟨rfl, rfl, ⟨0, rfl, Or.inl rfl⟩, (Kt_trans (Kt_at (Kt_ct (Kt_trans (Kt_at (Kt_ct (Kt_trans (Kt_refl (P := tP) hP) (b_t hk1)) (by decide) _ _) t1 (we_b (Kt_trans (Kt_refl (P := tP) hP) (b_t hk1)) hw1)) (b_t hk5)) (by decide) _ _) t1 (tinc (Kt_trans (Kt_at (Kt_ct (Kt_trans (Kt_refl (P := tP) hP) (b_t hk1)) (by decide) _ _) t1 (we_b (Kt_trans (Kt_refl (P := tP) hP) (b_t hk1)) hw1)) (b_t hk5)) (Kt_trans (Kt_at (Kt_ct (Kt_trans (Kt_refl (P := tP) hP) (b_t hk1)) (by decide) _ _) t1 (we_b (Kt_trans (Kt_refl (P := tP) hP) (b_t hk1)) hw1)) (b_t hk5)).1.2.2.1 (tne (Kt_trans (Kt_at (Kt_ct (Kt_trans (Kt_refl (P := tP) hP) (b_t hk1)) (by decide) _ _) t1 (we_b (Kt_trans (Kt_refl (P := tP) hP) (b_t hk1)) hw1)) (b_t hk5)).1 c6)).1) (b_t hk11))⟩
            · refine V_aload_n f dX9_test_111 1 rfl ?_
              refine V_getR f dX9_test_112 lf_9_60 rfl zm_0 rfl ?_
              refine V_aload_n f dX9_test_115 1 rfl ?_
              refine V_getE (x := Mx5 0 29) f dX9_test_116 lf_9_123 rfl zm_0 rfl ?_
              refine V_bald f dX9_test_119 zm_17 (tin (Kt_trans (Kt_at (Kt_ct (Kt_trans (Kt_refl (P := tP) hP) (b_t hk1)) (by decide) _ _) t1 (we_b (Kt_trans (Kt_refl (P := tP) hP) (b_t hk1)) hw1)) (b_t hk5)).1 (Kt_trans (Kt_at (Kt_ct (Kt_trans (Kt_refl (P := tP) hP) (b_t hk1)) (by decide) _ _) t1 (we_b (Kt_trans (Kt_refl (P := tP) hP) (b_t hk1)) hw1)) (b_t hk5)).1.2.2.1 (tne (Kt_trans (Kt_at (Kt_ct (Kt_trans (Kt_refl (P := tP) hP) (b_t hk1)) (by decide) _ _) t1 (we_b (Kt_trans (Kt_refl (P := tP) hP) (b_t hk1)) hw1)) (b_t hk5)).1 c6)) ?_
              refine V_bipush (v := 61) f dX9_test_120 (by decide) ?_
              refine V_icmp_eq (tgt := 127) f dX9_test_122 (by decide) (fun c13 => ?_) (fun c13 => ?_)
              · refine V_aload_n f dX9_test_127 1 rfl ?_
                refine V_getR f dX9_test_128 lf_9_94 rfl zm_0 rfl ?_
                refine V_iload_n f dX9_test_131 2 rfl ?_
                refine V_aload_n f dX9_test_132 1 rfl ?_
                refine V_getR f dX9_test_133 lf_9_60 rfl zm_0 rfl ?_
                refine V_aload_n f dX9_test_136 1 rfl ?_
                refine V_getE (x := Mx5 0 29) f dX9_test_137 lf_9_123 rfl zm_0 rfl ?_
                refine V_bald f dX9_test_140 zm_17 (tin (Kt_trans (Kt_at (Kt_ct (Kt_trans (Kt_refl (P := tP) hP) (b_t hk1)) (by decide) _ _) t1 (we_b (Kt_trans (Kt_refl (P := tP) hP) (b_t hk1)) hw1)) (b_t hk5)).1 (Kt_trans (Kt_at (Kt_ct (Kt_trans (Kt_refl (P := tP) hP) (b_t hk1)) (by decide) _ _) t1 (we_b (Kt_trans (Kt_refl (P := tP) hP) (b_t hk1)) hw1)) (b_t hk5)).1.2.2.1 (tne (Kt_trans (Kt_at (Kt_ct (Kt_trans (Kt_refl (P := tP) hP) (b_t hk1)) (by decide) _ _) t1 (we_b (Kt_trans (Kt_refl (P := tP) hP) (b_t hk1)) hw1)) (b_t hk5)).1 c6)) ?_
                refine V_iast f dX9_test_141 zm_27 ha ?_
                refine V_aload_n f dX9_test_142 1 rfl ?_
                refine V_dup f dX9_test_143 rfl ?_
                refine V_getE (x := Mx5 0 29) f dX9_test_144 lf_9_123 rfl zm_0 (up_c (by decide) rfl) ?_
                refine V_iconst (v := 1) f dX9_test_147 (by decide) ?_
                refine V_iadd f dX9_test_148 ?_
                refine V_putI f dX9_test_149 lf_9_123 lp_9_29 rfl rfl rfl rfl zm_0 ?_
                refine V_aload_n f dX9_test_152 1 rfl ?_
                refine V_cVp (As := []) (rest := []) f dX9_test_153 lk_X9_148 ml_X9_148 ins_X9_takesNumber sel_X9_takesNumber zm_0 (by decide) rfl (c3_X9_takesNumber _ _ _ _ ad (up2 (up2 Mx5 27 (Int32.toNatClampNeg a) (Mx5 17 (Int32.toNatClampNeg (Mx5 0 29)))) 0 29 ((Mx5 0 29) + 1)) ((Kt_at (Kt_ct (Kt_trans (Kt_at (Kt_ct (Kt_trans (Kt_refl (P := tP) hP) (b_t hk1)) (by decide) _ _) t1 (we_b (Kt_trans (Kt_refl (P := tP) hP) (b_t hk1)) hw1)) (b_t hk5)) (by decide) _ _) t1 (tinc (Kt_trans (Kt_at (Kt_ct (Kt_trans (Kt_refl (P := tP) hP) (b_t hk1)) (by decide) _ _) t1 (we_b (Kt_trans (Kt_refl (P := tP) hP) (b_t hk1)) hw1)) (b_t hk5)) (Kt_trans (Kt_at (Kt_ct (Kt_trans (Kt_refl (P := tP) hP) (b_t hk1)) (by decide) _ _) t1 (we_b (Kt_trans (Kt_refl (P := tP) hP) (b_t hk1)) hw1)) (b_t hk5)).1.2.2.1 (tne (Kt_trans (Kt_at (Kt_ct (Kt_trans (Kt_refl (P := tP) hP) (b_t hk1)) (by decide) _ _) t1 (we_b (Kt_trans (Kt_refl (P := tP) hP) (b_t hk1)) hw1)) (b_t hk5)).1 c6)).1).1)) rfl (Nat.le_of_ble_eq_true rfl) rfl ⟨by decide, by decide⟩ ⟨Nat.zero_le _, Nat.zero_le _⟩ rfl rfl (fun v14 Mx14 hp14 => ?_)
                obtain ⟨⟨r14, rfl, hr14⟩, hk14⟩ := hp14
                show V K ad 0 0 ZM Mx14 156 [(2, .long r1), (0, .ref (ad 0)), (1, .int a)] [.int r14]
                refine V_if_ne (tgt := 161) f dX9_test_156 (by decide) (fun c15 => ?_) (fun c15 => ?_)
                · refine V_aload_n f dX9_test_161 1 rfl ?_
                  refine V_getR f dX9_test_162 lf_9_97 rfl zm_0 rfl ?_
                  refine V_iload_n f dX9_test_165 2 rfl ?_
                  refine V_aload_n f dX9_test_166 1 rfl ?_
                  refine V_getE (x := Mx14 0 44) f dX9_test_167 lf_9_139 rfl zm_0 rfl ?_
                  refine V_iast f dX9_test_170 zm_28 ha ?_
                  refine V_iconst (v := 1) f dX9_test_171 (by decide) ?_
                  exact V_iret f q dX9_test_172 rfl (Nat.zero_le _) (Nat.zero_le _) ⟨rfl, rfl, ⟨1, rfl, Or.inr rfl⟩, (Kt_ct (Kt_trans (Kt_at (Kt_ct (Kt_trans (Kt_at (Kt_ct (Kt_trans (Kt_refl (P := tP) hP) (b_t hk1)) (by decide) _ _) t1 (we_b (Kt_trans (Kt_refl (P := tP) hP) (b_t hk1)) hw1)) (b_t hk5)) (by decide) _ _) t1 (tinc (Kt_trans (Kt_at (Kt_ct (Kt_trans (Kt_refl (P := tP) hP) (b_t hk1)) (by decide) _ _) t1 (we_b (Kt_trans (Kt_refl (P := tP) hP) (b_t hk1)) hw1)) (b_t hk5)) (Kt_trans (Kt_at (Kt_ct (Kt_trans (Kt_refl (P := tP) hP) (b_t hk1)) (by decide) _ _) t1 (we_b (Kt_trans (Kt_refl (P := tP) hP) (b_t hk1)) hw1)) (b_t hk5)).1.2.2.1 (tne (Kt_trans (Kt_at (Kt_ct (Kt_trans (Kt_refl (P := tP) hP) (b_t hk1)) (by decide) _ _) t1 (we_b (Kt_trans (Kt_refl (P := tP) hP) (b_t hk1)) hw1)) (b_t hk5)).1 c6)).1) (b_t hk14)) (by decide) _ _)⟩
                · refine V_iconst (v := 0) f dX9_test_159 (by decide) ?_
                  exact V_iret f q dX9_test_160 rfl (Nat.zero_le _) (Nat.zero_le _) ⟨rfl, rfl, ⟨0, rfl, Or.inl rfl⟩, (Kt_trans (Kt_at (Kt_ct (Kt_trans (Kt_at (Kt_ct (Kt_trans (Kt_refl (P := tP) hP) (b_t hk1)) (by decide) _ _) t1 (we_b (Kt_trans (Kt_refl (P := tP) hP) (b_t hk1)) hw1)) (b_t hk5)) (by decide) _ _) t1 (tinc (Kt_trans (Kt_at (Kt_ct (Kt_trans (Kt_refl (P := tP) hP) (b_t hk1)) (by decide) _ _) t1 (we_b (Kt_trans (Kt_refl (P := tP) hP) (b_t hk1)) hw1)) (b_t hk5)) (Kt_trans (Kt_at (Kt_ct (Kt_trans (Kt_refl (P := tP) hP) (b_t hk1)) (by decide) _ _) t1 (we_b (Kt_trans (Kt_refl (P := tP) hP) (b_t hk1)) hw1)) (b_t hk5)).1.2.2.1 (tne (Kt_trans (Kt_at (Kt_ct (Kt_trans (Kt_refl (P := tP) hP) (b_t hk1)) (by decide) _ _) t1 (we_b (Kt_trans (Kt_refl (P := tP) hP) (b_t hk1)) hw1)) (b_t hk5)).1 c6)).1) (b_t hk14))⟩
              · refine V_iconst (v := 0) f dX9_test_125 (by decide) ?_
                exact V_iret f q dX9_test_126 rfl (Nat.zero_le _) (Nat.zero_le _) ⟨rfl, rfl, ⟨0, rfl, Or.inl rfl⟩, (Kt_trans (Kt_at (Kt_ct (Kt_trans (Kt_refl (P := tP) hP) (b_t hk1)) (by decide) _ _) t1 (we_b (Kt_trans (Kt_refl (P := tP) hP) (b_t hk1)) hw1)) (b_t hk5))⟩
    · refine V_iconst (v := 1) f dX9_test_30 (by decide) ?_
      refine V_goto (tgt := 47) f dX9_test_31 (by decide) ?_
      refine V_iast f dX9_test_47 zm_26 ha ?_
      refine V_aload_n f dX9_test_48 1 rfl ?_
      refine V_getR f dX9_test_49 lf_9_91 rfl zm_0 rfl ?_
      refine V_iload_n f dX9_test_52 2 rfl ?_
      refine V_ialdE (x := 1) f dX9_test_53 zm_26 ha up_s ?_
      refine V_iconst (v := (-1)) f dX9_test_54 (by decide) ?_
      refine V_icmp_ne (tgt := 60) f dX9_test_55 (by decide) (fun _ => ?_) (fun h => absurd h (by decide))
      refine V_aload_n f dX9_test_60 1 rfl ?_
      refine V_aload_n f dX9_test_61 1 rfl ?_
      refine V_getE (x := Mx1 0 43) f dX9_test_62 lf_9_132 rfl zm_0 (up_c (by decide) rfl) ?_
      refine V_putI f dX9_test_65 lf_9_123 lp_9_29 rfl rfl rfl rfl zm_0 ?_
      refine V_aload_n f dX9_test_68 1 rfl ?_
      refine V_cVp (As := []) (rest := []) f dX9_test_69 lk_X9_129 ml_X9_129 ins_X9_blanks sel_X9_blanks zm_0 (by decide) rfl (c3_X9_blanks _ _ _ _ ad (up2 (up2 Mx1 26 (Int32.toNatClampNeg a) 1) 0 29 (Mx1 0 43)) ((Kt_at (Kt_ct (Kt_trans (Kt_refl (P := tP) hP) (b_t hk1)) (by decide) _ _) t1 (we_b (Kt_trans (Kt_refl (P := tP) hP) (b_t hk1)) hw1)).1)) rfl (Nat.le_of_ble_eq_true rfl) rfl ⟨by decide, by decide⟩ ⟨Nat.zero_le _, Nat.zero_le _⟩ rfl rfl (fun v16 Mx16 hp16 => ?_)
      obtain ⟨rfl, hk16⟩ := hp16
      show V K ad 0 0 ZM Mx16 72 [(2, .long r1), (0, .ref (ad 0)), (1, .int a)] []
      refine V_aload_n f dX9_test_72 1 rfl ?_
      refine V_getE (x := Mx16 0 29) f dX9_test_73 lf_9_123 rfl zm_0 rfl ?_
      refine V_aload_n f dX9_test_76 1 rfl ?_
      refine V_getE (x := Mx16 0 28) f dX9_test_77 lf_9_126 rfl zm_0 rfl ?_
      refine V_icmp_eq (tgt := 125) f dX9_test_80 (by decide) (fun c17 => ?_) (fun c17 => ?_)
      · refine V_iconst (v := 0) f dX9_test_125 (by decide) ?_
        exact V_iret f q dX9_test_126 rfl (Nat.zero_le _) (Nat.zero_le _) ⟨rfl, rfl, ⟨0, rfl, Or.inl rfl⟩, (Kt_trans (Kt_at (Kt_ct (Kt_trans (Kt_refl (P := tP) hP) (b_t hk1)) (by decide) _ _) t1 (we_b (Kt_trans (Kt_refl (P := tP) hP) (b_t hk1)) hw1)) (b_t hk16))⟩
      · refine V_aload_n f dX9_test_83 1 rfl ?_
        refine V_getR f dX9_test_84 lf_9_60 rfl zm_0 rfl ?_
        refine V_aload_n f dX9_test_87 1 rfl ?_
        refine V_getE (x := Mx16 0 29) f dX9_test_88 lf_9_123 rfl zm_0 rfl ?_
        refine V_bald f dX9_test_91 zm_17 (tin (Kt_trans (Kt_at (Kt_ct (Kt_trans (Kt_refl (P := tP) hP) (b_t hk1)) (by decide) _ _) t1 (we_b (Kt_trans (Kt_refl (P := tP) hP) (b_t hk1)) hw1)) (b_t hk16)).1 (Kt_trans (Kt_at (Kt_ct (Kt_trans (Kt_refl (P := tP) hP) (b_t hk1)) (by decide) _ _) t1 (we_b (Kt_trans (Kt_refl (P := tP) hP) (b_t hk1)) hw1)) (b_t hk16)).1.2.2.1 (tne (Kt_trans (Kt_at (Kt_ct (Kt_trans (Kt_refl (P := tP) hP) (b_t hk1)) (by decide) _ _) t1 (we_b (Kt_trans (Kt_refl (P := tP) hP) (b_t hk1)) hw1)) (b_t hk16)).1 c17)) ?_
        refine V_bipush (v := 60) f dX9_test_92 (by decide) ?_
        refine V_icmp_eq (tgt := 127) f dX9_test_94 (by decide) (fun c18 => ?_) (fun c18 => ?_)
        · refine V_aload_n f dX9_test_127 1 rfl ?_
          refine V_getR f dX9_test_128 lf_9_94 rfl zm_0 rfl ?_
          refine V_iload_n f dX9_test_131 2 rfl ?_
          refine V_aload_n f dX9_test_132 1 rfl ?_
          refine V_getR f dX9_test_133 lf_9_60 rfl zm_0 rfl ?_
          refine V_aload_n f dX9_test_136 1 rfl ?_
          refine V_getE (x := Mx16 0 29) f dX9_test_137 lf_9_123 rfl zm_0 rfl ?_
          refine V_bald f dX9_test_140 zm_17 (tin (Kt_trans (Kt_at (Kt_ct (Kt_trans (Kt_refl (P := tP) hP) (b_t hk1)) (by decide) _ _) t1 (we_b (Kt_trans (Kt_refl (P := tP) hP) (b_t hk1)) hw1)) (b_t hk16)).1 (Kt_trans (Kt_at (Kt_ct (Kt_trans (Kt_refl (P := tP) hP) (b_t hk1)) (by decide) _ _) t1 (we_b (Kt_trans (Kt_refl (P := tP) hP) (b_t hk1)) hw1)) (b_t hk16)).1.2.2.1 (tne (Kt_trans (Kt_at (Kt_ct (Kt_trans (Kt_refl (P := tP) hP) (b_t hk1)) (by decide) _ _) t1 (we_b (Kt_trans (Kt_refl (P := tP) hP) (b_t hk1)) hw1)) (b_t hk16)).1 c17)) ?_
          refine V_iast f dX9_test_141 zm_27 ha ?_
          refine V_aload_n f dX9_test_142 1 rfl ?_
          refine V_dup f dX9_test_143 rfl ?_
          refine V_getE (x := Mx16 0 29) f dX9_test_144 lf_9_123 rfl zm_0 (up_c (by decide) rfl) ?_
          refine V_iconst (v := 1) f dX9_test_147 (by decide) ?_
          refine V_iadd f dX9_test_148 ?_
          refine V_putI f dX9_test_149 lf_9_123 lp_9_29 rfl rfl rfl rfl zm_0 ?_
          refine V_aload_n f dX9_test_152 1 rfl ?_
          refine V_cVp (As := []) (rest := []) f dX9_test_153 lk_X9_148 ml_X9_148 ins_X9_takesNumber sel_X9_takesNumber zm_0 (by decide) rfl (c3_X9_takesNumber _ _ _ _ ad (up2 (up2 Mx16 27 (Int32.toNatClampNeg a) (Mx16 17 (Int32.toNatClampNeg (Mx16 0 29)))) 0 29 ((Mx16 0 29) + 1)) ((Kt_at (Kt_ct (Kt_trans (Kt_at (Kt_ct (Kt_trans (Kt_refl (P := tP) hP) (b_t hk1)) (by decide) _ _) t1 (we_b (Kt_trans (Kt_refl (P := tP) hP) (b_t hk1)) hw1)) (b_t hk16)) (by decide) _ _) t1 (tinc (Kt_trans (Kt_at (Kt_ct (Kt_trans (Kt_refl (P := tP) hP) (b_t hk1)) (by decide) _ _) t1 (we_b (Kt_trans (Kt_refl (P := tP) hP) (b_t hk1)) hw1)) (b_t hk16)) (Kt_trans (Kt_at (Kt_ct (Kt_trans (Kt_refl (P := tP) hP) (b_t hk1)) (by decide) _ _) t1 (we_b (Kt_trans (Kt_refl (P := tP) hP) (b_t hk1)) hw1)) (b_t hk16)).1.2.2.1 (tne (Kt_trans (Kt_at (Kt_ct (Kt_trans (Kt_refl (P := tP) hP) (b_t hk1)) (by decide) _ _) t1 (we_b (Kt_trans (Kt_refl (P := tP) hP) (b_t hk1)) hw1)) (b_t hk16)).1 c17)).1).1)) rfl (Nat.le_of_ble_eq_true rfl) rfl ⟨by decide, by decide⟩ ⟨Nat.zero_le _, Nat.zero_le _⟩ rfl rfl (fun v19 Mx19 hp19 => ?_)
          obtain ⟨⟨r19, rfl, hr19⟩, hk19⟩ := hp19
          show V K ad 0 0 ZM Mx19 156 [(2, .long r1), (0, .ref (ad 0)), (1, .int a)] [.int r19]
          refine V_if_ne (tgt := 161) f dX9_test_156 (by decide) (fun c20 => ?_) (fun c20 => ?_)
          · refine V_aload_n f dX9_test_161 1 rfl ?_
            refine V_getR f dX9_test_162 lf_9_97 rfl zm_0 rfl ?_
            refine V_iload_n f dX9_test_165 2 rfl ?_
            refine V_aload_n f dX9_test_166 1 rfl ?_
            refine V_getE (x := Mx19 0 44) f dX9_test_167 lf_9_139 rfl zm_0 rfl ?_
            refine V_iast f dX9_test_170 zm_28 ha ?_
            refine V_iconst (v := 1) f dX9_test_171 (by decide) ?_
            exact V_iret f q dX9_test_172 rfl (Nat.zero_le _) (Nat.zero_le _) ⟨rfl, rfl, ⟨1, rfl, Or.inr rfl⟩, (Kt_ct (Kt_trans (Kt_at (Kt_ct (Kt_trans (Kt_at (Kt_ct (Kt_trans (Kt_refl (P := tP) hP) (b_t hk1)) (by decide) _ _) t1 (we_b (Kt_trans (Kt_refl (P := tP) hP) (b_t hk1)) hw1)) (b_t hk16)) (by decide) _ _) t1 (tinc (Kt_trans (Kt_at (Kt_ct (Kt_trans (Kt_refl (P := tP) hP) (b_t hk1)) (by decide) _ _) t1 (we_b (Kt_trans (Kt_refl (P := tP) hP) (b_t hk1)) hw1)) (b_t hk16)) (Kt_trans (Kt_at (Kt_ct (Kt_trans (Kt_refl (P := tP) hP) (b_t hk1)) (by decide) _ _) t1 (we_b (Kt_trans (Kt_refl (P := tP) hP) (b_t hk1)) hw1)) (b_t hk16)).1.2.2.1 (tne (Kt_trans (Kt_at (Kt_ct (Kt_trans (Kt_refl (P := tP) hP) (b_t hk1)) (by decide) _ _) t1 (we_b (Kt_trans (Kt_refl (P := tP) hP) (b_t hk1)) hw1)) (b_t hk16)).1 c17)).1) (b_t hk19)) (by decide) _ _)⟩
          · refine V_iconst (v := 0) f dX9_test_159 (by decide) ?_
            exact V_iret f q dX9_test_160 rfl (Nat.zero_le _) (Nat.zero_le _) ⟨rfl, rfl, ⟨0, rfl, Or.inl rfl⟩, (Kt_trans (Kt_at (Kt_ct (Kt_trans (Kt_at (Kt_ct (Kt_trans (Kt_refl (P := tP) hP) (b_t hk1)) (by decide) _ _) t1 (we_b (Kt_trans (Kt_refl (P := tP) hP) (b_t hk1)) hw1)) (b_t hk16)) (by decide) _ _) t1 (tinc (Kt_trans (Kt_at (Kt_ct (Kt_trans (Kt_refl (P := tP) hP) (b_t hk1)) (by decide) _ _) t1 (we_b (Kt_trans (Kt_refl (P := tP) hP) (b_t hk1)) hw1)) (b_t hk16)) (Kt_trans (Kt_at (Kt_ct (Kt_trans (Kt_refl (P := tP) hP) (b_t hk1)) (by decide) _ _) t1 (we_b (Kt_trans (Kt_refl (P := tP) hP) (b_t hk1)) hw1)) (b_t hk16)).1.2.2.1 (tne (Kt_trans (Kt_at (Kt_ct (Kt_trans (Kt_refl (P := tP) hP) (b_t hk1)) (by decide) _ _) t1 (we_b (Kt_trans (Kt_refl (P := tP) hP) (b_t hk1)) hw1)) (b_t hk16)).1 c17)).1) (b_t hk19))⟩
        · refine V_aload_n f dX9_test_97 1 rfl ?_
          refine V_getR f dX9_test_98 lf_9_60 rfl zm_0 rfl ?_
          refine V_aload_n f dX9_test_101 1 rfl ?_
          refine V_getE (x := Mx16 0 29) f dX9_test_102 lf_9_123 rfl zm_0 rfl ?_
          refine V_bald f dX9_test_105 zm_17 (tin (Kt_trans (Kt_at (Kt_ct (Kt_trans (Kt_refl (P := tP) hP) (b_t hk1)) (by decide) _ _) t1 (we_b (Kt_trans (Kt_refl (P := tP) hP) (b_t hk1)) hw1)) (b_t hk16)).1 (Kt_trans (Kt_at (Kt_ct (Kt_trans (Kt_refl (P := tP) hP) (b_t hk1)) (by decide) _ _) t1 (we_b (Kt_trans (Kt_refl (P := tP) hP) (b_t hk1)) hw1)) (b_t hk16)).1.2.2.1 (tne (Kt_trans (Kt_at (Kt_ct (Kt_trans (Kt_refl (P := tP) hP) (b_t hk1)) (by decide) _ _) t1 (we_b (Kt_trans (Kt_refl (P := tP) hP) (b_t hk1)) hw1)) (b_t hk16)).1 c17)) ?_
          refine V_bipush (v := 62) f dX9_test_106 (by decide) ?_
          refine V_icmp_eq (tgt := 127) f dX9_test_108 (by decide) (fun c21 => ?_) (fun c21 => ?_)
          · refine V_aload_n f dX9_test_127 1 rfl ?_
            refine V_getR f dX9_test_128 lf_9_94 rfl zm_0 rfl ?_
            refine V_iload_n f dX9_test_131 2 rfl ?_
            refine V_aload_n f dX9_test_132 1 rfl ?_
            refine V_getR f dX9_test_133 lf_9_60 rfl zm_0 rfl ?_
            refine V_aload_n f dX9_test_136 1 rfl ?_
            refine V_getE (x := Mx16 0 29) f dX9_test_137 lf_9_123 rfl zm_0 rfl ?_
            refine V_bald f dX9_test_140 zm_17 (tin (Kt_trans (Kt_at (Kt_ct (Kt_trans (Kt_refl (P := tP) hP) (b_t hk1)) (by decide) _ _) t1 (we_b (Kt_trans (Kt_refl (P := tP) hP) (b_t hk1)) hw1)) (b_t hk16)).1 (Kt_trans (Kt_at (Kt_ct (Kt_trans (Kt_refl (P := tP) hP) (b_t hk1)) (by decide) _ _) t1 (we_b (Kt_trans (Kt_refl (P := tP) hP) (b_t hk1)) hw1)) (b_t hk16)).1.2.2.1 (tne (Kt_trans (Kt_at (Kt_ct (Kt_trans (Kt_refl (P := tP) hP) (b_t hk1)) (by decide) _ _) t1 (we_b (Kt_trans (Kt_refl (P := tP) hP) (b_t hk1)) hw1)) (b_t hk16)).1 c17)) ?_
            refine V_iast f dX9_test_141 zm_27 ha ?_
            refine V_aload_n f dX9_test_142 1 rfl ?_
            refine V_dup f dX9_test_143 rfl ?_
            refine V_getE (x := Mx16 0 29) f dX9_test_144 lf_9_123 rfl zm_0 (up_c (by decide) rfl) ?_
            refine V_iconst (v := 1) f dX9_test_147 (by decide) ?_
            refine V_iadd f dX9_test_148 ?_
            refine V_putI f dX9_test_149 lf_9_123 lp_9_29 rfl rfl rfl rfl zm_0 ?_
            refine V_aload_n f dX9_test_152 1 rfl ?_
            refine V_cVp (As := []) (rest := []) f dX9_test_153 lk_X9_148 ml_X9_148 ins_X9_takesNumber sel_X9_takesNumber zm_0 (by decide) rfl (c3_X9_takesNumber _ _ _ _ ad (up2 (up2 Mx16 27 (Int32.toNatClampNeg a) (Mx16 17 (Int32.toNatClampNeg (Mx16 0 29)))) 0 29 ((Mx16 0 29) + 1)) ((Kt_at (Kt_ct (Kt_trans (Kt_at (Kt_ct (Kt_trans (Kt_refl (P := tP) hP) (b_t hk1)) (by decide) _ _) t1 (we_b (Kt_trans (Kt_refl (P := tP) hP) (b_t hk1)) hw1)) (b_t hk16)) (by decide) _ _) t1 (tinc (Kt_trans (Kt_at (Kt_ct (Kt_trans (Kt_refl (P := tP) hP) (b_t hk1)) (by decide) _ _) t1 (we_b (Kt_trans (Kt_refl (P := tP) hP) (b_t hk1)) hw1)) (b_t hk16)) (Kt_trans (Kt_at (Kt_ct (Kt_trans (Kt_refl (P := tP) hP) (b_t hk1)) (by decide) _ _) t1 (we_b (Kt_trans (Kt_refl (P := tP) hP) (b_t hk1)) hw1)) (b_t hk16)).1.2.2.1 (tne (Kt_trans (Kt_at (Kt_ct (Kt_trans (Kt_refl (P := tP) hP) (b_t hk1)) (by decide) _ _) t1 (we_b (Kt_trans (Kt_refl (P := tP) hP) (b_t hk1)) hw1)) (b_t hk16)).1 c17)).1).1)) rfl (Nat.le_of_ble_eq_true rfl) rfl ⟨by decide, by decide⟩ ⟨Nat.zero_le _, Nat.zero_le _⟩ rfl rfl (fun v22 Mx22 hp22 => ?_)
            obtain ⟨⟨r22, rfl, hr22⟩, hk22⟩ := hp22
            show V K ad 0 0 ZM Mx22 156 [(2, .long r1), (0, .ref (ad 0)), (1, .int a)] [.int r22]
            refine V_if_ne (tgt := 161) f dX9_test_156 (by decide) (fun c23 => ?_) (fun c23 => ?_)
            · refine V_aload_n f dX9_test_161 1 rfl ?_
              refine V_getR f dX9_test_162 lf_9_97 rfl zm_0 rfl ?_
              refine V_iload_n f dX9_test_165 2 rfl ?_
              refine V_aload_n f dX9_test_166 1 rfl ?_
              refine V_getE (x := Mx22 0 44) f dX9_test_167 lf_9_139 rfl zm_0 rfl ?_
              refine V_iast f dX9_test_170 zm_28 ha ?_
              refine V_iconst (v := 1) f dX9_test_171 (by decide) ?_
              exact V_iret f q dX9_test_172 rfl (Nat.zero_le _) (Nat.zero_le _) ⟨rfl, rfl, ⟨1, rfl, Or.inr rfl⟩, (Kt_ct (Kt_trans (Kt_at (Kt_ct (Kt_trans (Kt_at (Kt_ct (Kt_trans (Kt_refl (P := tP) hP) (b_t hk1)) (by decide) _ _) t1 (we_b (Kt_trans (Kt_refl (P := tP) hP) (b_t hk1)) hw1)) (b_t hk16)) (by decide) _ _) t1 (tinc (Kt_trans (Kt_at (Kt_ct (Kt_trans (Kt_refl (P := tP) hP) (b_t hk1)) (by decide) _ _) t1 (we_b (Kt_trans (Kt_refl (P := tP) hP) (b_t hk1)) hw1)) (b_t hk16)) (Kt_trans (Kt_at (Kt_ct (Kt_trans (Kt_refl (P := tP) hP) (b_t hk1)) (by decide) _ _) t1 (we_b (Kt_trans (Kt_refl (P := tP) hP) (b_t hk1)) hw1)) (b_t hk16)).1.2.2.1 (tne (Kt_trans (Kt_at (Kt_ct (Kt_trans (Kt_refl (P := tP) hP) (b_t hk1)) (by decide) _ _) t1 (we_b (Kt_trans (Kt_refl (P := tP) hP) (b_t hk1)) hw1)) (b_t hk16)).1 c17)).1) (b_t hk22)) (by decide) _ _)⟩
            · refine V_iconst (v := 0) f dX9_test_159 (by decide) ?_
              exact V_iret f q dX9_test_160 rfl (Nat.zero_le _) (Nat.zero_le _) ⟨rfl, rfl, ⟨0, rfl, Or.inl rfl⟩, (Kt_trans (Kt_at (Kt_ct (Kt_trans (Kt_at (Kt_ct (Kt_trans (Kt_refl (P := tP) hP) (b_t hk1)) (by decide) _ _) t1 (we_b (Kt_trans (Kt_refl (P := tP) hP) (b_t hk1)) hw1)) (b_t hk16)) (by decide) _ _) t1 (tinc (Kt_trans (Kt_at (Kt_ct (Kt_trans (Kt_refl (P := tP) hP) (b_t hk1)) (by decide) _ _) t1 (we_b (Kt_trans (Kt_refl (P := tP) hP) (b_t hk1)) hw1)) (b_t hk16)) (Kt_trans (Kt_at (Kt_ct (Kt_trans (Kt_refl (P := tP) hP) (b_t hk1)) (by decide) _ _) t1 (we_b (Kt_trans (Kt_refl (P := tP) hP) (b_t hk1)) hw1)) (b_t hk16)).1.2.2.1 (tne (Kt_trans (Kt_at (Kt_ct (Kt_trans (Kt_refl (P := tP) hP) (b_t hk1)) (by decide) _ _) t1 (we_b (Kt_trans (Kt_refl (P := tP) hP) (b_t hk1)) hw1)) (b_t hk16)).1 c17)).1) (b_t hk22))⟩
          · refine V_aload_n f dX9_test_111 1 rfl ?_
            refine V_getR f dX9_test_112 lf_9_60 rfl zm_0 rfl ?_
            refine V_aload_n f dX9_test_115 1 rfl ?_
            refine V_getE (x := Mx16 0 29) f dX9_test_116 lf_9_123 rfl zm_0 rfl ?_
            refine V_bald f dX9_test_119 zm_17 (tin (Kt_trans (Kt_at (Kt_ct (Kt_trans (Kt_refl (P := tP) hP) (b_t hk1)) (by decide) _ _) t1 (we_b (Kt_trans (Kt_refl (P := tP) hP) (b_t hk1)) hw1)) (b_t hk16)).1 (Kt_trans (Kt_at (Kt_ct (Kt_trans (Kt_refl (P := tP) hP) (b_t hk1)) (by decide) _ _) t1 (we_b (Kt_trans (Kt_refl (P := tP) hP) (b_t hk1)) hw1)) (b_t hk16)).1.2.2.1 (tne (Kt_trans (Kt_at (Kt_ct (Kt_trans (Kt_refl (P := tP) hP) (b_t hk1)) (by decide) _ _) t1 (we_b (Kt_trans (Kt_refl (P := tP) hP) (b_t hk1)) hw1)) (b_t hk16)).1 c17)) ?_
            refine V_bipush (v := 61) f dX9_test_120 (by decide) ?_
            refine V_icmp_eq (tgt := 127) f dX9_test_122 (by decide) (fun c24 => ?_) (fun c24 => ?_)
            · refine V_aload_n f dX9_test_127 1 rfl ?_
              refine V_getR f dX9_test_128 lf_9_94 rfl zm_0 rfl ?_
              refine V_iload_n f dX9_test_131 2 rfl ?_
              refine V_aload_n f dX9_test_132 1 rfl ?_
              refine V_getR f dX9_test_133 lf_9_60 rfl zm_0 rfl ?_
              refine V_aload_n f dX9_test_136 1 rfl ?_
              refine V_getE (x := Mx16 0 29) f dX9_test_137 lf_9_123 rfl zm_0 rfl ?_
              refine V_bald f dX9_test_140 zm_17 (tin (Kt_trans (Kt_at (Kt_ct (Kt_trans (Kt_refl (P := tP) hP) (b_t hk1)) (by decide) _ _) t1 (we_b (Kt_trans (Kt_refl (P := tP) hP) (b_t hk1)) hw1)) (b_t hk16)).1 (Kt_trans (Kt_at (Kt_ct (Kt_trans (Kt_refl (P := tP) hP) (b_t hk1)) (by decide) _ _) t1 (we_b (Kt_trans (Kt_refl (P := tP) hP) (b_t hk1)) hw1)) (b_t hk16)).1.2.2.1 (tne (Kt_trans (Kt_at (Kt_ct (Kt_trans (Kt_refl (P := tP) hP) (b_t hk1)) (by decide) _ _) t1 (we_b (Kt_trans (Kt_refl (P := tP) hP) (b_t hk1)) hw1)) (b_t hk16)).1 c17)) ?_
              refine V_iast f dX9_test_141 zm_27 ha ?_
              refine V_aload_n f dX9_test_142 1 rfl ?_
              refine V_dup f dX9_test_143 rfl ?_
              refine V_getE (x := Mx16 0 29) f dX9_test_144 lf_9_123 rfl zm_0 (up_c (by decide) rfl) ?_
              refine V_iconst (v := 1) f dX9_test_147 (by decide) ?_
              refine V_iadd f dX9_test_148 ?_
              refine V_putI f dX9_test_149 lf_9_123 lp_9_29 rfl rfl rfl rfl zm_0 ?_
              refine V_aload_n f dX9_test_152 1 rfl ?_
              refine V_cVp (As := []) (rest := []) f dX9_test_153 lk_X9_148 ml_X9_148 ins_X9_takesNumber sel_X9_takesNumber zm_0 (by decide) rfl (c3_X9_takesNumber _ _ _ _ ad (up2 (up2 Mx16 27 (Int32.toNatClampNeg a) (Mx16 17 (Int32.toNatClampNeg (Mx16 0 29)))) 0 29 ((Mx16 0 29) + 1)) ((Kt_at (Kt_ct (Kt_trans (Kt_at (Kt_ct (Kt_trans (Kt_refl (P := tP) hP) (b_t hk1)) (by decide) _ _) t1 (we_b (Kt_trans (Kt_refl (P := tP) hP) (b_t hk1)) hw1)) (b_t hk16)) (by decide) _ _) t1 (tinc (Kt_trans (Kt_at (Kt_ct (Kt_trans (Kt_refl (P := tP) hP) (b_t hk1)) (by decide) _ _) t1 (we_b (Kt_trans (Kt_refl (P := tP) hP) (b_t hk1)) hw1)) (b_t hk16)) (Kt_trans (Kt_at (Kt_ct (Kt_trans (Kt_refl (P := tP) hP) (b_t hk1)) (by decide) _ _) t1 (we_b (Kt_trans (Kt_refl (P := tP) hP) (b_t hk1)) hw1)) (b_t hk16)).1.2.2.1 (tne (Kt_trans (Kt_at (Kt_ct (Kt_trans (Kt_refl (P := tP) hP) (b_t hk1)) (by decide) _ _) t1 (we_b (Kt_trans (Kt_refl (P := tP) hP) (b_t hk1)) hw1)) (b_t hk16)).1 c17)).1).1)) rfl (Nat.le_of_ble_eq_true rfl) rfl ⟨by decide, by decide⟩ ⟨Nat.zero_le _, Nat.zero_le _⟩ rfl rfl (fun v25 Mx25 hp25 => ?_)
              obtain ⟨⟨r25, rfl, hr25⟩, hk25⟩ := hp25
              show V K ad 0 0 ZM Mx25 156 [(2, .long r1), (0, .ref (ad 0)), (1, .int a)] [.int r25]
              refine V_if_ne (tgt := 161) f dX9_test_156 (by decide) (fun c26 => ?_) (fun c26 => ?_)
              · refine V_aload_n f dX9_test_161 1 rfl ?_
                refine V_getR f dX9_test_162 lf_9_97 rfl zm_0 rfl ?_
                refine V_iload_n f dX9_test_165 2 rfl ?_
                refine V_aload_n f dX9_test_166 1 rfl ?_
                refine V_getE (x := Mx25 0 44) f dX9_test_167 lf_9_139 rfl zm_0 rfl ?_
                refine V_iast f dX9_test_170 zm_28 ha ?_
                refine V_iconst (v := 1) f dX9_test_171 (by decide) ?_
                exact V_iret f q dX9_test_172 rfl (Nat.zero_le _) (Nat.zero_le _) ⟨rfl, rfl, ⟨1, rfl, Or.inr rfl⟩, (Kt_ct (Kt_trans (Kt_at (Kt_ct (Kt_trans (Kt_at (Kt_ct (Kt_trans (Kt_refl (P := tP) hP) (b_t hk1)) (by decide) _ _) t1 (we_b (Kt_trans (Kt_refl (P := tP) hP) (b_t hk1)) hw1)) (b_t hk16)) (by decide) _ _) t1 (tinc (Kt_trans (Kt_at (Kt_ct (Kt_trans (Kt_refl (P := tP) hP) (b_t hk1)) (by decide) _ _) t1 (we_b (Kt_trans (Kt_refl (P := tP) hP) (b_t hk1)) hw1)) (b_t hk16)) (Kt_trans (Kt_at (Kt_ct (Kt_trans (Kt_refl (P := tP) hP) (b_t hk1)) (by decide) _ _) t1 (we_b (Kt_trans (Kt_refl (P := tP) hP) (b_t hk1)) hw1)) (b_t hk16)).1.2.2.1 (tne (Kt_trans (Kt_at (Kt_ct (Kt_trans (Kt_refl (P := tP) hP) (b_t hk1)) (by decide) _ _) t1 (we_b (Kt_trans (Kt_refl (P := tP) hP) (b_t hk1)) hw1)) (b_t hk16)).1 c17)).1) (b_t hk25)) (by decide) _ _)⟩
              · refine V_iconst (v := 0) f dX9_test_159 (by decide) ?_
                exact V_iret f q dX9_test_160 rfl (Nat.zero_le _) (Nat.zero_le _) ⟨rfl, rfl, ⟨0, rfl, Or.inl rfl⟩, (Kt_trans (Kt_at (Kt_ct (Kt_trans (Kt_at (Kt_ct (Kt_trans (Kt_refl (P := tP) hP) (b_t hk1)) (by decide) _ _) t1 (we_b (Kt_trans (Kt_refl (P := tP) hP) (b_t hk1)) hw1)) (b_t hk16)) (by decide) _ _) t1 (tinc (Kt_trans (Kt_at (Kt_ct (Kt_trans (Kt_refl (P := tP) hP) (b_t hk1)) (by decide) _ _) t1 (we_b (Kt_trans (Kt_refl (P := tP) hP) (b_t hk1)) hw1)) (b_t hk16)) (Kt_trans (Kt_at (Kt_ct (Kt_trans (Kt_refl (P := tP) hP) (b_t hk1)) (by decide) _ _) t1 (we_b (Kt_trans (Kt_refl (P := tP) hP) (b_t hk1)) hw1)) (b_t hk16)).1.2.2.1 (tne (Kt_trans (Kt_at (Kt_ct (Kt_trans (Kt_refl (P := tP) hP) (b_t hk1)) (by decide) _ _) t1 (we_b (Kt_trans (Kt_refl (P := tP) hP) (b_t hk1)) hw1)) (b_t hk16)).1 c17)).1) (b_t hk25))⟩
            · refine V_iconst (v := 0) f dX9_test_125 (by decide) ?_
              exact V_iret f q dX9_test_126 rfl (Nat.zero_le _) (Nat.zero_le _) ⟨rfl, rfl, ⟨0, rfl, Or.inl rfl⟩, (Kt_trans (Kt_at (Kt_ct (Kt_trans (Kt_refl (P := tP) hP) (b_t hk1)) (by decide) _ _) t1 (we_b (Kt_trans (Kt_refl (P := tP) hP) (b_t hk1)) hw1)) (b_t hk16))⟩
  · refine V_iconst (v := 0) f dX9_test_18 (by decide) ?_
    refine V_goto (tgt := 47) f dX9_test_19 (by decide) ?_
    refine V_iast f dX9_test_47 zm_26 ha ?_
    refine V_aload_n f dX9_test_48 1 rfl ?_
    refine V_getR f dX9_test_49 lf_9_91 rfl zm_0 rfl ?_
    refine V_iload_n f dX9_test_52 2 rfl ?_
    refine V_ialdE (x := 0) f dX9_test_53 zm_26 ha up_s ?_
    refine V_iconst (v := (-1)) f dX9_test_54 (by decide) ?_
    refine V_icmp_ne (tgt := 60) f dX9_test_55 (by decide) (fun _ => ?_) (fun h => absurd h (by decide))
    refine V_aload_n f dX9_test_60 1 rfl ?_
    refine V_aload_n f dX9_test_61 1 rfl ?_
    refine V_getE (x := Mx1 0 43) f dX9_test_62 lf_9_132 rfl zm_0 (up_c (by decide) rfl) ?_
    refine V_putI f dX9_test_65 lf_9_123 lp_9_29 rfl rfl rfl rfl zm_0 ?_
    refine V_aload_n f dX9_test_68 1 rfl ?_
    refine V_cVp (As := []) (rest := []) f dX9_test_69 lk_X9_129 ml_X9_129 ins_X9_blanks sel_X9_blanks zm_0 (by decide) rfl (c3_X9_blanks _ _ _ _ ad (up2 (up2 Mx1 26 (Int32.toNatClampNeg a) 0) 0 29 (Mx1 0 43)) ((Kt_at (Kt_ct (Kt_trans (Kt_refl (P := tP) hP) (b_t hk1)) (by decide) _ _) t1 (we_b (Kt_trans (Kt_refl (P := tP) hP) (b_t hk1)) hw1)).1)) rfl (Nat.le_of_ble_eq_true rfl) rfl ⟨by decide, by decide⟩ ⟨Nat.zero_le _, Nat.zero_le _⟩ rfl rfl (fun v27 Mx27 hp27 => ?_)
    obtain ⟨rfl, hk27⟩ := hp27
    show V K ad 0 0 ZM Mx27 72 [(2, .long r1), (0, .ref (ad 0)), (1, .int a)] []
    refine V_aload_n f dX9_test_72 1 rfl ?_
    refine V_getE (x := Mx27 0 29) f dX9_test_73 lf_9_123 rfl zm_0 rfl ?_
    refine V_aload_n f dX9_test_76 1 rfl ?_
    refine V_getE (x := Mx27 0 28) f dX9_test_77 lf_9_126 rfl zm_0 rfl ?_
    refine V_icmp_eq (tgt := 125) f dX9_test_80 (by decide) (fun c28 => ?_) (fun c28 => ?_)
    · refine V_iconst (v := 0) f dX9_test_125 (by decide) ?_
      exact V_iret f q dX9_test_126 rfl (Nat.zero_le _) (Nat.zero_le _) ⟨rfl, rfl, ⟨0, rfl, Or.inl rfl⟩, (Kt_trans (Kt_at (Kt_ct (Kt_trans (Kt_refl (P := tP) hP) (b_t hk1)) (by decide) _ _) t1 (we_b (Kt_trans (Kt_refl (P := tP) hP) (b_t hk1)) hw1)) (b_t hk27))⟩
    · refine V_aload_n f dX9_test_83 1 rfl ?_
      refine V_getR f dX9_test_84 lf_9_60 rfl zm_0 rfl ?_
      refine V_aload_n f dX9_test_87 1 rfl ?_
      refine V_getE (x := Mx27 0 29) f dX9_test_88 lf_9_123 rfl zm_0 rfl ?_
      refine V_bald f dX9_test_91 zm_17 (tin (Kt_trans (Kt_at (Kt_ct (Kt_trans (Kt_refl (P := tP) hP) (b_t hk1)) (by decide) _ _) t1 (we_b (Kt_trans (Kt_refl (P := tP) hP) (b_t hk1)) hw1)) (b_t hk27)).1 (Kt_trans (Kt_at (Kt_ct (Kt_trans (Kt_refl (P := tP) hP) (b_t hk1)) (by decide) _ _) t1 (we_b (Kt_trans (Kt_refl (P := tP) hP) (b_t hk1)) hw1)) (b_t hk27)).1.2.2.1 (tne (Kt_trans (Kt_at (Kt_ct (Kt_trans (Kt_refl (P := tP) hP) (b_t hk1)) (by decide) _ _) t1 (we_b (Kt_trans (Kt_refl (P := tP) hP) (b_t hk1)) hw1)) (b_t hk27)).1 c28)) ?_
      refine V_bipush (v := 60) f dX9_test_92 (by decide) ?_
      refine V_icmp_eq (tgt := 127) f dX9_test_94 (by decide) (fun c29 => ?_) (fun c29 => ?_)
      · refine V_aload_n f dX9_test_127 1 rfl ?_
        refine V_getR f dX9_test_128 lf_9_94 rfl zm_0 rfl ?_
        refine V_iload_n f dX9_test_131 2 rfl ?_
        refine V_aload_n f dX9_test_132 1 rfl ?_
        refine V_getR f dX9_test_133 lf_9_60 rfl zm_0 rfl ?_
        refine V_aload_n f dX9_test_136 1 rfl ?_
        refine V_getE (x := Mx27 0 29) f dX9_test_137 lf_9_123 rfl zm_0 rfl ?_
        refine V_bald f dX9_test_140 zm_17 (tin (Kt_trans (Kt_at (Kt_ct (Kt_trans (Kt_refl (P := tP) hP) (b_t hk1)) (by decide) _ _) t1 (we_b (Kt_trans (Kt_refl (P := tP) hP) (b_t hk1)) hw1)) (b_t hk27)).1 (Kt_trans (Kt_at (Kt_ct (Kt_trans (Kt_refl (P := tP) hP) (b_t hk1)) (by decide) _ _) t1 (we_b (Kt_trans (Kt_refl (P := tP) hP) (b_t hk1)) hw1)) (b_t hk27)).1.2.2.1 (tne (Kt_trans (Kt_at (Kt_ct (Kt_trans (Kt_refl (P := tP) hP) (b_t hk1)) (by decide) _ _) t1 (we_b (Kt_trans (Kt_refl (P := tP) hP) (b_t hk1)) hw1)) (b_t hk27)).1 c28)) ?_
        refine V_iast f dX9_test_141 zm_27 ha ?_
        refine V_aload_n f dX9_test_142 1 rfl ?_
        refine V_dup f dX9_test_143 rfl ?_
        refine V_getE (x := Mx27 0 29) f dX9_test_144 lf_9_123 rfl zm_0 (up_c (by decide) rfl) ?_
        refine V_iconst (v := 1) f dX9_test_147 (by decide) ?_
        refine V_iadd f dX9_test_148 ?_
        refine V_putI f dX9_test_149 lf_9_123 lp_9_29 rfl rfl rfl rfl zm_0 ?_
        refine V_aload_n f dX9_test_152 1 rfl ?_
        refine V_cVp (As := []) (rest := []) f dX9_test_153 lk_X9_148 ml_X9_148 ins_X9_takesNumber sel_X9_takesNumber zm_0 (by decide) rfl (c3_X9_takesNumber _ _ _ _ ad (up2 (up2 Mx27 27 (Int32.toNatClampNeg a) (Mx27 17 (Int32.toNatClampNeg (Mx27 0 29)))) 0 29 ((Mx27 0 29) + 1)) ((Kt_at (Kt_ct (Kt_trans (Kt_at (Kt_ct (Kt_trans (Kt_refl (P := tP) hP) (b_t hk1)) (by decide) _ _) t1 (we_b (Kt_trans (Kt_refl (P := tP) hP) (b_t hk1)) hw1)) (b_t hk27)) (by decide) _ _) t1 (tinc (Kt_trans (Kt_at (Kt_ct (Kt_trans (Kt_refl (P := tP) hP) (b_t hk1)) (by decide) _ _) t1 (we_b (Kt_trans (Kt_refl (P := tP) hP) (b_t hk1)) hw1)) (b_t hk27)) (Kt_trans (Kt_at (Kt_ct (Kt_trans (Kt_refl (P := tP) hP) (b_t hk1)) (by decide) _ _) t1 (we_b (Kt_trans (Kt_refl (P := tP) hP) (b_t hk1)) hw1)) (b_t hk27)).1.2.2.1 (tne (Kt_trans (Kt_at (Kt_ct (Kt_trans (Kt_refl (P := tP) hP) (b_t hk1)) (by decide) _ _) t1 (we_b (Kt_trans (Kt_refl (P := tP) hP) (b_t hk1)) hw1)) (b_t hk27)).1 c28)).1).1)) rfl (Nat.le_of_ble_eq_true rfl) rfl ⟨by decide, by decide⟩ ⟨Nat.zero_le _, Nat.zero_le _⟩ rfl rfl (fun v30 Mx30 hp30 => ?_)
        obtain ⟨⟨r30, rfl, hr30⟩, hk30⟩ := hp30
        show V K ad 0 0 ZM Mx30 156 [(2, .long r1), (0, .ref (ad 0)), (1, .int a)] [.int r30]
        refine V_if_ne (tgt := 161) f dX9_test_156 (by decide) (fun c31 => ?_) (fun c31 => ?_)
        · refine V_aload_n f dX9_test_161 1 rfl ?_
          refine V_getR f dX9_test_162 lf_9_97 rfl zm_0 rfl ?_
          refine V_iload_n f dX9_test_165 2 rfl ?_
          refine V_aload_n f dX9_test_166 1 rfl ?_
          refine V_getE (x := Mx30 0 44) f dX9_test_167 lf_9_139 rfl zm_0 rfl ?_
          refine V_iast f dX9_test_170 zm_28 ha ?_
          refine V_iconst (v := 1) f dX9_test_171 (by decide) ?_
          exact V_iret f q dX9_test_172 rfl (Nat.zero_le _) (Nat.zero_le _) ⟨rfl, rfl, ⟨1, rfl, Or.inr rfl⟩, (Kt_ct (Kt_trans (Kt_at (Kt_ct (Kt_trans (Kt_at (Kt_ct (Kt_trans (Kt_refl (P := tP) hP) (b_t hk1)) (by decide) _ _) t1 (we_b (Kt_trans (Kt_refl (P := tP) hP) (b_t hk1)) hw1)) (b_t hk27)) (by decide) _ _) t1 (tinc (Kt_trans (Kt_at (Kt_ct (Kt_trans (Kt_refl (P := tP) hP) (b_t hk1)) (by decide) _ _) t1 (we_b (Kt_trans (Kt_refl (P := tP) hP) (b_t hk1)) hw1)) (b_t hk27)) (Kt_trans (Kt_at (Kt_ct (Kt_trans (Kt_refl (P := tP) hP) (b_t hk1)) (by decide) _ _) t1 (we_b (Kt_trans (Kt_refl (P := tP) hP) (b_t hk1)) hw1)) (b_t hk27)).1.2.2.1 (tne (Kt_trans (Kt_at (Kt_ct (Kt_trans (Kt_refl (P := tP) hP) (b_t hk1)) (by decide) _ _) t1 (we_b (Kt_trans (Kt_refl (P := tP) hP) (b_t hk1)) hw1)) (b_t hk27)).1 c28)).1) (b_t hk30)) (by decide) _ _)⟩
        · refine V_iconst (v := 0) f dX9_test_159 (by decide) ?_
          exact V_iret f q dX9_test_160 rfl (Nat.zero_le _) (Nat.zero_le _) ⟨rfl, rfl, ⟨0, rfl, Or.inl rfl⟩, (Kt_trans (Kt_at (Kt_ct (Kt_trans (Kt_at (Kt_ct (Kt_trans (Kt_refl (P := tP) hP) (b_t hk1)) (by decide) _ _) t1 (we_b (Kt_trans (Kt_refl (P := tP) hP) (b_t hk1)) hw1)) (b_t hk27)) (by decide) _ _) t1 (tinc (Kt_trans (Kt_at (Kt_ct (Kt_trans (Kt_refl (P := tP) hP) (b_t hk1)) (by decide) _ _) t1 (we_b (Kt_trans (Kt_refl (P := tP) hP) (b_t hk1)) hw1)) (b_t hk27)) (Kt_trans (Kt_at (Kt_ct (Kt_trans (Kt_refl (P := tP) hP) (b_t hk1)) (by decide) _ _) t1 (we_b (Kt_trans (Kt_refl (P := tP) hP) (b_t hk1)) hw1)) (b_t hk27)).1.2.2.1 (tne (Kt_trans (Kt_at (Kt_ct (Kt_trans (Kt_refl (P := tP) hP) (b_t hk1)) (by decide) _ _) t1 (we_b (Kt_trans (Kt_refl (P := tP) hP) (b_t hk1)) hw1)) (b_t hk27)).1 c28)).1) (b_t hk30))⟩
      · refine V_aload_n f dX9_test_97 1 rfl ?_
        refine V_getR f dX9_test_98 lf_9_60 rfl zm_0 rfl ?_
        refine V_aload_n f dX9_test_101 1 rfl ?_
        refine V_getE (x := Mx27 0 29) f dX9_test_102 lf_9_123 rfl zm_0 rfl ?_
        refine V_bald f dX9_test_105 zm_17 (tin (Kt_trans (Kt_at (Kt_ct (Kt_trans (Kt_refl (P := tP) hP) (b_t hk1)) (by decide) _ _) t1 (we_b (Kt_trans (Kt_refl (P := tP) hP) (b_t hk1)) hw1)) (b_t hk27)).1 (Kt_trans (Kt_at (Kt_ct (Kt_trans (Kt_refl (P := tP) hP) (b_t hk1)) (by decide) _ _) t1 (we_b (Kt_trans (Kt_refl (P := tP) hP) (b_t hk1)) hw1)) (b_t hk27)).1.2.2.1 (tne (Kt_trans (Kt_at (Kt_ct (Kt_trans (Kt_refl (P := tP) hP) (b_t hk1)) (by decide) _ _) t1 (we_b (Kt_trans (Kt_refl (P := tP) hP) (b_t hk1)) hw1)) (b_t hk27)).1 c28)) ?_
        refine V_bipush (v := 62) f dX9_test_106 (by decide) ?_
        refine V_icmp_eq (tgt := 127) f dX9_test_108 (by decide) (fun c32 => ?_) (fun c32 => ?_)
        · refine V_aload_n f dX9_test_127 1 rfl ?_
          refine V_getR f dX9_test_128 lf_9_94 rfl zm_0 rfl ?_
          refine V_iload_n f dX9_test_131 2 rfl ?_
          refine V_aload_n f dX9_test_132 1 rfl ?_
          refine V_getR f dX9_test_133 lf_9_60 rfl zm_0 rfl ?_
          refine V_aload_n f dX9_test_136 1 rfl ?_
          refine V_getE (x := Mx27 0 29) f dX9_test_137 lf_9_123 rfl zm_0 rfl ?_
          refine V_bald f dX9_test_140 zm_17 (tin (Kt_trans (Kt_at (Kt_ct (Kt_trans (Kt_refl (P := tP) hP) (b_t hk1)) (by decide) _ _) t1 (we_b (Kt_trans (Kt_refl (P := tP) hP) (b_t hk1)) hw1)) (b_t hk27)).1 (Kt_trans (Kt_at (Kt_ct (Kt_trans (Kt_refl (P := tP) hP) (b_t hk1)) (by decide) _ _) t1 (we_b (Kt_trans (Kt_refl (P := tP) hP) (b_t hk1)) hw1)) (b_t hk27)).1.2.2.1 (tne (Kt_trans (Kt_at (Kt_ct (Kt_trans (Kt_refl (P := tP) hP) (b_t hk1)) (by decide) _ _) t1 (we_b (Kt_trans (Kt_refl (P := tP) hP) (b_t hk1)) hw1)) (b_t hk27)).1 c28)) ?_
          refine V_iast f dX9_test_141 zm_27 ha ?_
          refine V_aload_n f dX9_test_142 1 rfl ?_
          refine V_dup f dX9_test_143 rfl ?_
          refine V_getE (x := Mx27 0 29) f dX9_test_144 lf_9_123 rfl zm_0 (up_c (by decide) rfl) ?_
          refine V_iconst (v := 1) f dX9_test_147 (by decide) ?_
          refine V_iadd f dX9_test_148 ?_
          refine V_putI f dX9_test_149 lf_9_123 lp_9_29 rfl rfl rfl rfl zm_0 ?_
          refine V_aload_n f dX9_test_152 1 rfl ?_
          refine V_cVp (As := []) (rest := []) f dX9_test_153 lk_X9_148 ml_X9_148 ins_X9_takesNumber sel_X9_takesNumber zm_0 (by decide) rfl (c3_X9_takesNumber _ _ _ _ ad (up2 (up2 Mx27 27 (Int32.toNatClampNeg a) (Mx27 17 (Int32.toNatClampNeg (Mx27 0 29)))) 0 29 ((Mx27 0 29) + 1)) ((Kt_at (Kt_ct (Kt_trans (Kt_at (Kt_ct (Kt_trans (Kt_refl (P := tP) hP) (b_t hk1)) (by decide) _ _) t1 (we_b (Kt_trans (Kt_refl (P := tP) hP) (b_t hk1)) hw1)) (b_t hk27)) (by decide) _ _) t1 (tinc (Kt_trans (Kt_at (Kt_ct (Kt_trans (Kt_refl (P := tP) hP) (b_t hk1)) (by decide) _ _) t1 (we_b (Kt_trans (Kt_refl (P := tP) hP) (b_t hk1)) hw1)) (b_t hk27)) (Kt_trans (Kt_at (Kt_ct (Kt_trans (Kt_refl (P := tP) hP) (b_t hk1)) (by decide) _ _) t1 (we_b (Kt_trans (Kt_refl (P := tP) hP) (b_t hk1)) hw1)) (b_t hk27)).1.2.2.1 (tne (Kt_trans (Kt_at (Kt_ct (Kt_trans (Kt_refl (P := tP) hP) (b_t hk1)) (by decide) _ _) t1 (we_b (Kt_trans (Kt_refl (P := tP) hP) (b_t hk1)) hw1)) (b_t hk27)).1 c28)).1).1)) rfl (Nat.le_of_ble_eq_true rfl) rfl ⟨by decide, by decide⟩ ⟨Nat.zero_le _, Nat.zero_le _⟩ rfl rfl (fun v33 Mx33 hp33 => ?_)
          obtain ⟨⟨r33, rfl, hr33⟩, hk33⟩ := hp33
          show V K ad 0 0 ZM Mx33 156 [(2, .long r1), (0, .ref (ad 0)), (1, .int a)] [.int r33]
          refine V_if_ne (tgt := 161) f dX9_test_156 (by decide) (fun c34 => ?_) (fun c34 => ?_)
          · refine V_aload_n f dX9_test_161 1 rfl ?_
            refine V_getR f dX9_test_162 lf_9_97 rfl zm_0 rfl ?_
            refine V_iload_n f dX9_test_165 2 rfl ?_
            refine V_aload_n f dX9_test_166 1 rfl ?_
            refine V_getE (x := Mx33 0 44) f dX9_test_167 lf_9_139 rfl zm_0 rfl ?_
            refine V_iast f dX9_test_170 zm_28 ha ?_
            refine V_iconst (v := 1) f dX9_test_171 (by decide) ?_
            exact V_iret f q dX9_test_172 rfl (Nat.zero_le _) (Nat.zero_le _) ⟨rfl, rfl, ⟨1, rfl, Or.inr rfl⟩, (Kt_ct (Kt_trans (Kt_at (Kt_ct (Kt_trans (Kt_at (Kt_ct (Kt_trans (Kt_refl (P := tP) hP) (b_t hk1)) (by decide) _ _) t1 (we_b (Kt_trans (Kt_refl (P := tP) hP) (b_t hk1)) hw1)) (b_t hk27)) (by decide) _ _) t1 (tinc (Kt_trans (Kt_at (Kt_ct (Kt_trans (Kt_refl (P := tP) hP) (b_t hk1)) (by decide) _ _) t1 (we_b (Kt_trans (Kt_refl (P := tP) hP) (b_t hk1)) hw1)) (b_t hk27)) (Kt_trans (Kt_at (Kt_ct (Kt_trans (Kt_refl (P := tP) hP) (b_t hk1)) (by decide) _ _) t1 (we_b (Kt_trans (Kt_refl (P := tP) hP) (b_t hk1)) hw1)) (b_t hk27)).1.2.2.1 (tne (Kt_trans (Kt_at (Kt_ct (Kt_trans (Kt_refl (P := tP) hP) (b_t hk1)) (by decide) _ _) t1 (we_b (Kt_trans (Kt_refl (P := tP) hP) (b_t hk1)) hw1)) (b_t hk27)).1 c28)).1) (b_t hk33)) (by decide) _ _)⟩
          · refine V_iconst (v := 0) f dX9_test_159 (by decide) ?_
            exact V_iret f q dX9_test_160 rfl (Nat.zero_le _) (Nat.zero_le _) ⟨rfl, rfl, ⟨0, rfl, Or.inl rfl⟩, (Kt_trans (Kt_at (Kt_ct (Kt_trans (Kt_at (Kt_ct (Kt_trans (Kt_refl (P := tP) hP) (b_t hk1)) (by decide) _ _) t1 (we_b (Kt_trans (Kt_refl (P := tP) hP) (b_t hk1)) hw1)) (b_t hk27)) (by decide) _ _) t1 (tinc (Kt_trans (Kt_at (Kt_ct (Kt_trans (Kt_refl (P := tP) hP) (b_t hk1)) (by decide) _ _) t1 (we_b (Kt_trans (Kt_refl (P := tP) hP) (b_t hk1)) hw1)) (b_t hk27)) (Kt_trans (Kt_at (Kt_ct (Kt_trans (Kt_refl (P := tP) hP) (b_t hk1)) (by decide) _ _) t1 (we_b (Kt_trans (Kt_refl (P := tP) hP) (b_t hk1)) hw1)) (b_t hk27)).1.2.2.1 (tne (Kt_trans (Kt_at (Kt_ct (Kt_trans (Kt_refl (P := tP) hP) (b_t hk1)) (by decide) _ _) t1 (we_b (Kt_trans (Kt_refl (P := tP) hP) (b_t hk1)) hw1)) (b_t hk27)).1 c28)).1) (b_t hk33))⟩
        · refine V_aload_n f dX9_test_111 1 rfl ?_
          refine V_getR f dX9_test_112 lf_9_60 rfl zm_0 rfl ?_
          refine V_aload_n f dX9_test_115 1 rfl ?_
          refine V_getE (x := Mx27 0 29) f dX9_test_116 lf_9_123 rfl zm_0 rfl ?_
          refine V_bald f dX9_test_119 zm_17 (tin (Kt_trans (Kt_at (Kt_ct (Kt_trans (Kt_refl (P := tP) hP) (b_t hk1)) (by decide) _ _) t1 (we_b (Kt_trans (Kt_refl (P := tP) hP) (b_t hk1)) hw1)) (b_t hk27)).1 (Kt_trans (Kt_at (Kt_ct (Kt_trans (Kt_refl (P := tP) hP) (b_t hk1)) (by decide) _ _) t1 (we_b (Kt_trans (Kt_refl (P := tP) hP) (b_t hk1)) hw1)) (b_t hk27)).1.2.2.1 (tne (Kt_trans (Kt_at (Kt_ct (Kt_trans (Kt_refl (P := tP) hP) (b_t hk1)) (by decide) _ _) t1 (we_b (Kt_trans (Kt_refl (P := tP) hP) (b_t hk1)) hw1)) (b_t hk27)).1 c28)) ?_
          refine V_bipush (v := 61) f dX9_test_120 (by decide) ?_
          refine V_icmp_eq (tgt := 127) f dX9_test_122 (by decide) (fun c35 => ?_) (fun c35 => ?_)
          · refine V_aload_n f dX9_test_127 1 rfl ?_
            refine V_getR f dX9_test_128 lf_9_94 rfl zm_0 rfl ?_
            refine V_iload_n f dX9_test_131 2 rfl ?_
            refine V_aload_n f dX9_test_132 1 rfl ?_
            refine V_getR f dX9_test_133 lf_9_60 rfl zm_0 rfl ?_
            refine V_aload_n f dX9_test_136 1 rfl ?_
            refine V_getE (x := Mx27 0 29) f dX9_test_137 lf_9_123 rfl zm_0 rfl ?_
            refine V_bald f dX9_test_140 zm_17 (tin (Kt_trans (Kt_at (Kt_ct (Kt_trans (Kt_refl (P := tP) hP) (b_t hk1)) (by decide) _ _) t1 (we_b (Kt_trans (Kt_refl (P := tP) hP) (b_t hk1)) hw1)) (b_t hk27)).1 (Kt_trans (Kt_at (Kt_ct (Kt_trans (Kt_refl (P := tP) hP) (b_t hk1)) (by decide) _ _) t1 (we_b (Kt_trans (Kt_refl (P := tP) hP) (b_t hk1)) hw1)) (b_t hk27)).1.2.2.1 (tne (Kt_trans (Kt_at (Kt_ct (Kt_trans (Kt_refl (P := tP) hP) (b_t hk1)) (by decide) _ _) t1 (we_b (Kt_trans (Kt_refl (P := tP) hP) (b_t hk1)) hw1)) (b_t hk27)).1 c28)) ?_
            refine V_iast f dX9_test_141 zm_27 ha ?_
            refine V_aload_n f dX9_test_142 1 rfl ?_
            refine V_dup f dX9_test_143 rfl ?_
            refine V_getE (x := Mx27 0 29) f dX9_test_144 lf_9_123 rfl zm_0 (up_c (by decide) rfl) ?_
            refine V_iconst (v := 1) f dX9_test_147 (by decide) ?_
            refine V_iadd f dX9_test_148 ?_
            refine V_putI f dX9_test_149 lf_9_123 lp_9_29 rfl rfl rfl rfl zm_0 ?_
            refine V_aload_n f dX9_test_152 1 rfl ?_
            refine V_cVp (As := []) (rest := []) f dX9_test_153 lk_X9_148 ml_X9_148 ins_X9_takesNumber sel_X9_takesNumber zm_0 (by decide) rfl (c3_X9_takesNumber _ _ _ _ ad (up2 (up2 Mx27 27 (Int32.toNatClampNeg a) (Mx27 17 (Int32.toNatClampNeg (Mx27 0 29)))) 0 29 ((Mx27 0 29) + 1)) ((Kt_at (Kt_ct (Kt_trans (Kt_at (Kt_ct (Kt_trans (Kt_refl (P := tP) hP) (b_t hk1)) (by decide) _ _) t1 (we_b (Kt_trans (Kt_refl (P := tP) hP) (b_t hk1)) hw1)) (b_t hk27)) (by decide) _ _) t1 (tinc (Kt_trans (Kt_at (Kt_ct (Kt_trans (Kt_refl (P := tP) hP) (b_t hk1)) (by decide) _ _) t1 (we_b (Kt_trans (Kt_refl (P := tP) hP) (b_t hk1)) hw1)) (b_t hk27)) (Kt_trans (Kt_at (Kt_ct (Kt_trans (Kt_refl (P := tP) hP) (b_t hk1)) (by decide) _ _) t1 (we_b (Kt_trans (Kt_refl (P := tP) hP) (b_t hk1)) hw1)) (b_t hk27)).1.2.2.1 (tne (Kt_trans (Kt_at (Kt_ct (Kt_trans (Kt_refl (P := tP) hP) (b_t hk1)) (by decide) _ _) t1 (we_b (Kt_trans (Kt_refl (P := tP) hP) (b_t hk1)) hw1)) (b_t hk27)).1 c28)).1).1)) rfl (Nat.le_of_ble_eq_true rfl) rfl ⟨by decide, by decide⟩ ⟨Nat.zero_le _, Nat.zero_le _⟩ rfl rfl (fun v36 Mx36 hp36 => ?_)
            obtain ⟨⟨r36, rfl, hr36⟩, hk36⟩ := hp36
            show V K ad 0 0 ZM Mx36 156 [(2, .long r1), (0, .ref (ad 0)), (1, .int a)] [.int r36]
            refine V_if_ne (tgt := 161) f dX9_test_156 (by decide) (fun c37 => ?_) (fun c37 => ?_)
            · refine V_aload_n f dX9_test_161 1 rfl ?_
              refine V_getR f dX9_test_162 lf_9_97 rfl zm_0 rfl ?_
              refine V_iload_n f dX9_test_165 2 rfl ?_
              refine V_aload_n f dX9_test_166 1 rfl ?_
              refine V_getE (x := Mx36 0 44) f dX9_test_167 lf_9_139 rfl zm_0 rfl ?_
              refine V_iast f dX9_test_170 zm_28 ha ?_
              refine V_iconst (v := 1) f dX9_test_171 (by decide) ?_
              exact V_iret f q dX9_test_172 rfl (Nat.zero_le _) (Nat.zero_le _) ⟨rfl, rfl, ⟨1, rfl, Or.inr rfl⟩, (Kt_ct (Kt_trans (Kt_at (Kt_ct (Kt_trans (Kt_at (Kt_ct (Kt_trans (Kt_refl (P := tP) hP) (b_t hk1)) (by decide) _ _) t1 (we_b (Kt_trans (Kt_refl (P := tP) hP) (b_t hk1)) hw1)) (b_t hk27)) (by decide) _ _) t1 (tinc (Kt_trans (Kt_at (Kt_ct (Kt_trans (Kt_refl (P := tP) hP) (b_t hk1)) (by decide) _ _) t1 (we_b (Kt_trans (Kt_refl (P := tP) hP) (b_t hk1)) hw1)) (b_t hk27)) (Kt_trans (Kt_at (Kt_ct (Kt_trans (Kt_refl (P := tP) hP) (b_t hk1)) (by decide) _ _) t1 (we_b (Kt_trans (Kt_refl (P := tP) hP) (b_t hk1)) hw1)) (b_t hk27)).1.2.2.1 (tne (Kt_trans (Kt_at (Kt_ct (Kt_trans (Kt_refl (P := tP) hP) (b_t hk1)) (by decide) _ _) t1 (we_b (Kt_trans (Kt_refl (P := tP) hP) (b_t hk1)) hw1)) (b_t hk27)).1 c28)).1) (b_t hk36)) (by decide) _ _)⟩
            · refine V_iconst (v := 0) f dX9_test_159 (by decide) ?_
              exact V_iret f q dX9_test_160 rfl (Nat.zero_le _) (Nat.zero_le _) ⟨rfl, rfl, ⟨0, rfl, Or.inl rfl⟩, (Kt_trans (Kt_at (Kt_ct (Kt_trans (Kt_at (Kt_ct (Kt_trans (Kt_refl (P := tP) hP) (b_t hk1)) (by decide) _ _) t1 (we_b (Kt_trans (Kt_refl (P := tP) hP) (b_t hk1)) hw1)) (b_t hk27)) (by decide) _ _) t1 (tinc (Kt_trans (Kt_at (Kt_ct (Kt_trans (Kt_refl (P := tP) hP) (b_t hk1)) (by decide) _ _) t1 (we_b (Kt_trans (Kt_refl (P := tP) hP) (b_t hk1)) hw1)) (b_t hk27)) (Kt_trans (Kt_at (Kt_ct (Kt_trans (Kt_refl (P := tP) hP) (b_t hk1)) (by decide) _ _) t1 (we_b (Kt_trans (Kt_refl (P := tP) hP) (b_t hk1)) hw1)) (b_t hk27)).1.2.2.1 (tne (Kt_trans (Kt_at (Kt_ct (Kt_trans (Kt_refl (P := tP) hP) (b_t hk1)) (by decide) _ _) t1 (we_b (Kt_trans (Kt_refl (P := tP) hP) (b_t hk1)) hw1)) (b_t hk27)).1 c28)).1) (b_t hk36))⟩
          · refine V_iconst (v := 0) f dX9_test_125 (by decide) ?_
            exact V_iret f q dX9_test_126 rfl (Nat.zero_le _) (Nat.zero_le _) ⟨rfl, rfl, ⟨0, rfl, Or.inl rfl⟩, (Kt_trans (Kt_at (Kt_ct (Kt_trans (Kt_refl (P := tP) hP) (b_t hk1)) (by decide) _ _) t1 (we_b (Kt_trans (Kt_refl (P := tP) hP) (b_t hk1)) hw1)) (b_t hk27))⟩
set_option maxHeartbeats 4000000 in
set_option maxRecDepth 100000 in
theorem c3_X9_closing (l : Launch) (D : va_G) (cy : Nat → ClassId) (X : va_W) (ad : Nat → Nat) (M : MT) (a : Int32) (hP : ParI M) (ha : vp_in a 144) : CtP l yX9_closing cX9_closing 2 (some .boolean) (rK 3) D cy X ad ZM M [.ref (ad 0), .int a] (fun v M1 => (∃ r : Int32, v = some (.int r) ∧ (r = 0 ∨ r = 1)) ∧ Kt sP M M1) := by
  refine Ctr.of (by decide +kernel) (Nat.le_of_ble_eq_true rfl) ?_
  intro K f q hnm hl0 hD0 hy0 hX0
  show V K ad 0 0 ZM M 0 [(0, .ref (ad 0)), (1, .int a)] []
  refine V_aload_n f dX9_closing_0 0 rfl ?_
  refine V_getR f dX9_closing_1 lf_9_73 rfl zm_0 rfl ?_
  refine V_iload_n f dX9_closing_4 1 rfl ?_
  refine V_iconst (v := 2) f dX9_closing_5 (by decide) ?_
  refine V_iast f dX9_closing_6 zm_20 ha ?_
  refine V_aload_n f dX9_closing_7 0 rfl ?_
  refine V_cVp (As := []) (rest := []) f dX9_closing_8 lk_X9_148 ml_X9_148 ins_X9_takesNumber sel_X9_takesNumber zm_0 (by decide) rfl (c3_X9_takesNumber _ _ _ _ ad (up2 M 20 (Int32.toNatClampNeg a) 2) ((Kt_cs (Kt_refl (P := sP) hP) (by decide) _ _).1)) rfl (Nat.le_of_ble_eq_true rfl) rfl ⟨by decide, by decide⟩ ⟨Nat.zero_le _, Nat.zero_le _⟩ rfl rfl (fun v1 Mx1 hp1 => ?_)
  obtain ⟨⟨r1, rfl, hr1⟩, hk1⟩ := hp1
  show V K ad 0 0 ZM Mx1 11 [(0, .ref (ad 0)), (1, .int a)] [.int r1]
  refine V_if_ne (tgt := 16) f dX9_closing_11 (by decide) (fun c2 => ?_) (fun c2 => ?_)
  · refine V_aload_n f dX9_closing_16 0 rfl ?_
    refine V_getR f dX9_closing_17 lf_9_76 rfl zm_0 rfl ?_
    refine V_iload_n f dX9_closing_20 1 rfl ?_
    refine V_aload_n f dX9_closing_21 0 rfl ?_
    refine V_getE (x := Mx1 0 44) f dX9_closing_22 lf_9_139 rfl zm_0 rfl ?_
    refine V_iast f dX9_closing_25 zm_21 ha ?_
    refine V_aload_n f dX9_closing_26 0 rfl ?_
    refine V_ldc2 (v := 29807) f dX9_closing_27 lc_X9_152 ?_
    refine V_cVp (As := [.long 29807]) (rest := []) f dX9_closing_30 lk_X9_154 ml_X9_154 ins_X9_takes sel_X9_takes zm_0 (by decide) rfl (c3_X9_takes _ _ _ _ ad (up2 Mx1 21 (Int32.toNatClampNeg a) (Mx1 0 44)) 29807 ((Kt_cs (Kt_trans (Kt_cs (Kt_refl (P := sP) hP) (by decide) _ _) (b_s hk1)) (by decide) _ _).1)) rfl (Nat.le_of_ble_eq_true rfl) rfl ⟨by decide, by decide⟩ ⟨Nat.zero_le _, Nat.zero_le _⟩ rfl rfl (fun v3 Mx3 hp3 => ?_)
    obtain ⟨⟨r3, rfl, hr3⟩, hk3⟩ := hp3
    show V K ad 0 0 ZM Mx3 33 [(0, .ref (ad 0)), (1, .int a)] [.int r3]
    refine V_if_eq (tgt := 43) f dX9_closing_33 (by decide) (fun c4 => ?_) (fun c4 => ?_)
    · refine V_iconst (v := 0) f dX9_closing_43 (by decide) ?_
      exact V_iret f q dX9_closing_44 rfl (Nat.zero_le _) (Nat.zero_le _) ⟨rfl, rfl, ⟨0, rfl, Or.inl rfl⟩, (Kt_trans (Kt_cs (Kt_trans (Kt_cs (Kt_refl (P := sP) hP) (by decide) _ _) (b_s hk1)) (by decide) _ _) (b_s hk3))⟩
    · refine V_aload_n f dX9_closing_36 0 rfl ?_
      refine V_cVp (As := []) (rest := []) f dX9_closing_37 lk_X9_148 ml_X9_148 ins_X9_takesNumber sel_X9_takesNumber zm_0 (by decide) rfl (c3_X9_takesNumber _ _ _ _ ad Mx3 ((Kt_trans (Kt_cs (Kt_trans (Kt_cs (Kt_refl (P := sP) hP) (by decide) _ _) (b_s hk1)) (by decide) _ _) (b_s hk3)).1)) rfl (Nat.le_of_ble_eq_true rfl) rfl ⟨by decide, by decide⟩ ⟨Nat.zero_le _, Nat.zero_le _⟩ rfl rfl (fun v5 Mx5 hp5 => ?_)
      obtain ⟨⟨r5, rfl, hr5⟩, hk5⟩ := hp5
      show V K ad 0 0 ZM Mx5 40 [(0, .ref (ad 0)), (1, .int a)] [.int r5]
      refine V_if_ne (tgt := 45) f dX9_closing_40 (by decide) (fun c6 => ?_) (fun c6 => ?_)
      · refine V_aload_n f dX9_closing_45 0 rfl ?_
        refine V_getR f dX9_closing_46 lf_9_79 rfl zm_0 rfl ?_
        refine V_iload_n f dX9_closing_49 1 rfl ?_
        refine V_aload_n f dX9_closing_50 0 rfl ?_
        refine V_getE (x := Mx5 0 44) f dX9_closing_51 lf_9_139 rfl zm_0 rfl ?_
        refine V_iast f dX9_closing_54 zm_22 ha ?_
        refine V_aload_n f dX9_closing_55 0 rfl ?_
        refine V_ldc2 (v := 1718775661) f dX9_closing_56 lc_X9_158 ?_
        refine V_cVp (As := [.long 1718775661]) (rest := []) f dX9_closing_59 lk_X9_154 ml_X9_154 ins_X9_takes sel_X9_takes zm_0 (by decide) rfl (c3_X9_takes _ _ _ _ ad (up2 Mx5 22 (Int32.toNatClampNeg a) (Mx5 0 44)) 1718775661 ((Kt_cs (Kt_trans (Kt_trans (Kt_cs (Kt_trans (Kt_cs (Kt_refl (P := sP) hP) (by decide) _ _) (b_s hk1)) (by decide) _ _) (b_s hk3)) (b_s hk5)) (by decide) _ _).1)) rfl (Nat.le_of_ble_eq_true rfl) rfl ⟨by decide, by decide⟩ ⟨Nat.zero_le _, Nat.zero_le _⟩ rfl rfl (fun v7 Mx7 hp7 => ?_)
        obtain ⟨⟨r7, rfl, hr7⟩, hk7⟩ := hp7
        show V K ad 0 0 ZM Mx7 62 [(0, .ref (ad 0)), (1, .int a)] [.int r7]
        refine V_if_eq (tgt := 72) f dX9_closing_62 (by decide) (fun c8 => ?_) (fun c8 => ?_)
        · refine V_iconst (v := 0) f dX9_closing_72 (by decide) ?_
          exact V_iret f q dX9_closing_73 rfl (Nat.zero_le _) (Nat.zero_le _) ⟨rfl, rfl, ⟨0, rfl, Or.inl rfl⟩, (Kt_trans (Kt_cs (Kt_trans (Kt_trans (Kt_cs (Kt_trans (Kt_cs (Kt_refl (P := sP) hP) (by decide) _ _) (b_s hk1)) (by decide) _ _) (b_s hk3)) (b_s hk5)) (by decide) _ _) (b_s hk7))⟩
        · refine V_aload_n f dX9_closing_65 0 rfl ?_
          refine V_cVp (As := []) (rest := []) f dX9_closing_66 lk_X9_148 ml_X9_148 ins_X9_takesNumber sel_X9_takesNumber zm_0 (by decide) rfl (c3_X9_takesNumber _ _ _ _ ad Mx7 ((Kt_trans (Kt_cs (Kt_trans (Kt_trans (Kt_cs (Kt_trans (Kt_cs (Kt_refl (P := sP) hP) (by decide) _ _) (b_s hk1)) (by decide) _ _) (b_s hk3)) (b_s hk5)) (by decide) _ _) (b_s hk7)).1)) rfl (Nat.le_of_ble_eq_true rfl) rfl ⟨by decide, by decide⟩ ⟨Nat.zero_le _, Nat.zero_le _⟩ rfl rfl (fun v9 Mx9 hp9 => ?_)
          obtain ⟨⟨r9, rfl, hr9⟩, hk9⟩ := hp9
          show V K ad 0 0 ZM Mx9 69 [(0, .ref (ad 0)), (1, .int a)] [.int r9]
          refine V_if_ne (tgt := 74) f dX9_closing_69 (by decide) (fun c10 => ?_) (fun c10 => ?_)
          · refine V_aload_n f dX9_closing_74 0 rfl ?_
            refine V_getR f dX9_closing_75 lf_9_82 rfl zm_0 rfl ?_
            refine V_iload_n f dX9_closing_78 1 rfl ?_
            refine V_aload_n f dX9_closing_79 0 rfl ?_
            refine V_getE (x := Mx9 0 44) f dX9_closing_80 lf_9_139 rfl zm_0 rfl ?_
            refine V_iast f dX9_closing_83 zm_23 ha ?_
            refine V_aload_n f dX9_closing_84 0 rfl ?_
            refine V_ldc2 (v := 29807) f dX9_closing_85 lc_X9_152 ?_
            refine V_cVp (As := [.long 29807]) (rest := []) f dX9_closing_88 lk_X9_154 ml_X9_154 ins_X9_takes sel_X9_takes zm_0 (by decide) rfl (c3_X9_takes _ _ _ _ ad (up2 Mx9 23 (Int32.toNatClampNeg a) (Mx9 0 44)) 29807 ((Kt_cs (Kt_trans (Kt_trans (Kt_cs (Kt_trans (Kt_trans (Kt_cs (Kt_trans (Kt_cs (Kt_refl (P := sP) hP) (by decide) _ _) (b_s hk1)) (by decide) _ _) (b_s hk3)) (b_s hk5)) (by decide) _ _) (b_s hk7)) (b_s hk9)) (by decide) _ _).1)) rfl (Nat.le_of_ble_eq_true rfl) rfl ⟨by decide, by decide⟩ ⟨Nat.zero_le _, Nat.zero_le _⟩ rfl rfl (fun v11 Mx11 hp11 => ?_)
            obtain ⟨⟨r11, rfl, hr11⟩, hk11⟩ := hp11
            show V K ad 0 0 ZM Mx11 91 [(0, .ref (ad 0)), (1, .int a)] [.int r11]
            refine V_if_eq (tgt := 101) f dX9_closing_91 (by decide) (fun c12 => ?_) (fun c12 => ?_)
            · refine V_iconst (v := 0) f dX9_closing_101 (by decide) ?_
              exact V_iret f q dX9_closing_102 rfl (Nat.zero_le _) (Nat.zero_le _) ⟨rfl, rfl, ⟨0, rfl, Or.inl rfl⟩, (Kt_trans (Kt_cs (Kt_trans (Kt_trans (Kt_cs (Kt_trans (Kt_trans (Kt_cs (Kt_trans (Kt_cs (Kt_refl (P := sP) hP) (by decide) _ _) (b_s hk1)) (by decide) _ _) (b_s hk3)) (b_s hk5)) (by decide) _ _) (b_s hk7)) (b_s hk9)) (by decide) _ _) (b_s hk11))⟩
            · refine V_aload_n f dX9_closing_94 0 rfl ?_
              refine V_cVp (As := []) (rest := []) f dX9_closing_95 lk_X9_148 ml_X9_148 ins_X9_takesNumber sel_X9_takesNumber zm_0 (by decide) rfl (c3_X9_takesNumber _ _ _ _ ad Mx11 ((Kt_trans (Kt_cs (Kt_trans (Kt_trans (Kt_cs (Kt_trans (Kt_trans (Kt_cs (Kt_trans (Kt_cs (Kt_refl (P := sP) hP) (by decide) _ _) (b_s hk1)) (by decide) _ _) (b_s hk3)) (b_s hk5)) (by decide) _ _) (b_s hk7)) (b_s hk9)) (by decide) _ _) (b_s hk11)).1)) rfl (Nat.le_of_ble_eq_true rfl) rfl ⟨by decide, by decide⟩ ⟨Nat.zero_le _, Nat.zero_le _⟩ rfl rfl (fun v13 Mx13 hp13 => ?_)
              obtain ⟨⟨r13, rfl, hr13⟩, hk13⟩ := hp13
              show V K ad 0 0 ZM Mx13 98 [(0, .ref (ad 0)), (1, .int a)] [.int r13]
              refine V_if_ne (tgt := 103) f dX9_closing_98 (by decide) (fun c14 => ?_) (fun c14 => ?_)
              · refine V_aload_n f dX9_closing_103 0 rfl ?_
                refine V_getR f dX9_closing_104 lf_9_85 rfl zm_0 rfl ?_
                refine V_iload_n f dX9_closing_107 1 rfl ?_
                refine V_aload_n f dX9_closing_108 0 rfl ?_
                refine V_getE (x := Mx13 0 44) f dX9_closing_109 lf_9_139 rfl zm_0 rfl ?_
                refine V_iast f dX9_closing_112 zm_24 ha ?_
                refine V_iconst (v := 1) f dX9_closing_113 (by decide) ?_
                exact V_iret f q dX9_closing_114 rfl (Nat.zero_le _) (Nat.zero_le _) ⟨rfl, rfl, ⟨1, rfl, Or.inr rfl⟩, (Kt_cs (Kt_trans (Kt_trans (Kt_cs (Kt_trans (Kt_trans (Kt_cs (Kt_trans (Kt_trans (Kt_cs (Kt_trans (Kt_cs (Kt_refl (P := sP) hP) (by decide) _ _) (b_s hk1)) (by decide) _ _) (b_s hk3)) (b_s hk5)) (by decide) _ _) (b_s hk7)) (b_s hk9)) (by decide) _ _) (b_s hk11)) (b_s hk13)) (by decide) _ _)⟩
              · refine V_iconst (v := 0) f dX9_closing_101 (by decide) ?_
                exact V_iret f q dX9_closing_102 rfl (Nat.zero_le _) (Nat.zero_le _) ⟨rfl, rfl, ⟨0, rfl, Or.inl rfl⟩, (Kt_trans (Kt_trans (Kt_cs (Kt_trans (Kt_trans (Kt_cs (Kt_trans (Kt_trans (Kt_cs (Kt_trans (Kt_cs (Kt_refl (P := sP) hP) (by decide) _ _) (b_s hk1)) (by decide) _ _) (b_s hk3)) (b_s hk5)) (by decide) _ _) (b_s hk7)) (b_s hk9)) (by decide) _ _) (b_s hk11)) (b_s hk13))⟩
          · refine V_iconst (v := 0) f dX9_closing_72 (by decide) ?_
            exact V_iret f q dX9_closing_73 rfl (Nat.zero_le _) (Nat.zero_le _) ⟨rfl, rfl, ⟨0, rfl, Or.inl rfl⟩, (Kt_trans (Kt_trans (Kt_cs (Kt_trans (Kt_trans (Kt_cs (Kt_trans (Kt_cs (Kt_refl (P := sP) hP) (by decide) _ _) (b_s hk1)) (by decide) _ _) (b_s hk3)) (b_s hk5)) (by decide) _ _) (b_s hk7)) (b_s hk9))⟩
      · refine V_iconst (v := 0) f dX9_closing_43 (by decide) ?_
        exact V_iret f q dX9_closing_44 rfl (Nat.zero_le _) (Nat.zero_le _) ⟨rfl, rfl, ⟨0, rfl, Or.inl rfl⟩, (Kt_trans (Kt_trans (Kt_cs (Kt_trans (Kt_cs (Kt_refl (P := sP) hP) (by decide) _ _) (b_s hk1)) (by decide) _ _) (b_s hk3)) (b_s hk5))⟩
  · refine V_iconst (v := 0) f dX9_closing_14 (by decide) ?_
    exact V_iret f q dX9_closing_15 rfl (Nat.zero_le _) (Nat.zero_le _) ⟨rfl, rfl, ⟨0, rfl, Or.inl rfl⟩, (Kt_trans (Kt_cs (Kt_refl (P := sP) hP) (by decide) _ _) (b_s hk1))⟩
theorem t432 {a v : Int32} (ha : vp_in a 144) (h : 0 ≤ v.toInt ∧ v.toInt ≤ 3) (hn : ¬ v = 3) : vp_in ((3 * a) + v) 432 ∧ (v + 1).toInt = v.toInt + 1 ∧ v.toInt < 3 := by
  have h1 := tr1 ha
  have h3 : ¬ v.toInt = 3 := fun q => hn (Int32.toInt_inj.mp (by rw [q]; decide))
  have e1 : (1 : Int32).toInt = 1 := by decide
  have := i32_add (x := v) h.1 (by omega) (k := 1) (by decide) (by decide)
  rw [vp_in_iff] at ha
  have e : ((3 * a) + v).toInt = 3 * a.toInt + v.toInt := by rw [Int32.toInt_add, h1, Int.bmod_eq_of_le (by omega) (by omega)]
  refine ⟨by rw [vp_in_iff]; omega, by omega, by omega⟩
set_option maxHeartbeats 4000000 in
set_option maxRecDepth 100000 in
theorem c3_X9_acting (l : Launch) (D : va_G) (cy : Nat → ClassId) (X : va_W) (ad : Nat → Nat) (M : MT) (a : Int32) (hP : ParI M) (ha : vp_in a 144) : CtP l yX9_acting cX9_acting 2 (some .boolean) (rK 3) D cy X ad ZM M [.ref (ad 0), .int a] (fun v M1 => (∃ r : Int32, v = some (.int r) ∧ (r = 0 ∨ r = 1)) ∧ Kt sP M M1) := by
  refine Ctr.of (by decide +kernel) (Nat.le_of_ble_eq_true rfl) ?_
  intro K f q hnm hl0 hD0 hy0 hX0
  show V K ad 0 0 ZM M 0 [(0, .ref (ad 0)), (1, .int a)] []
  have loop : ∀ (n : Nat) (M1 : MT), Kt sP M M1 → (M1 25 (Int32.toNatClampNeg a)).toInt + (n : Nat) = 3 → V K ad 0 0 ZM M1 7 [(0, .ref (ad 0)), (1, .int a)] [] := by
    intro n
    induction n using Nat.strongRecOn with
    | ind n ih =>
      intro M1 hK1 hn
      refine V_aload_n f dX9_acting_7 0 rfl ?_
      refine V_cVp (As := []) (rest := []) f dX9_acting_8 lk_X9_129 ml_X9_129 ins_X9_blanks sel_X9_blanks zm_0 (by decide) rfl (c3_X9_blanks _ _ _ _ ad M1 (hK1.1)) rfl (Nat.le_of_ble_eq_true rfl) rfl ⟨by decide, by decide⟩ ⟨Nat.zero_le _, Nat.zero_le _⟩ rfl rfl (fun v1 Mx1 hp1 => ?_)
      obtain ⟨rfl, hk1⟩ := hp1
      show V K ad 0 0 ZM Mx1 11 [(0, .ref (ad 0)), (1, .int a)] []
      refine V_aload_n f dX9_acting_11 0 rfl ?_
      refine V_getR f dX9_acting_12 lf_9_88 rfl zm_0 rfl ?_
      refine V_iload_n f dX9_acting_15 1 rfl ?_
      refine V_ialdE (x := M1 25 (Int32.toNatClampNeg a)) f dX9_acting_16 zm_25 ha (congrFun (hk1.2.2 25 (by first | exact bP25 | exact tP25)) _) ?_
      refine V_iconst (v := 3) f dX9_acting_17 (by decide) ?_
      refine V_icmp_eq (tgt := 38) f dX9_acting_18 (by decide) (fun c2 => ?_) (fun c2 => ?_)
      · refine V_iconst (v := 0) f dX9_acting_38 (by decide) ?_
        exact V_iret f q dX9_acting_39 rfl (Nat.zero_le _) (Nat.zero_le _) ⟨rfl, rfl, ⟨0, rfl, Or.inl rfl⟩, (Kt_trans hK1 (b_s hk1))⟩
      · refine V_aload_n f dX9_acting_21 0 rfl ?_
        refine V_iconst (v := 3) f dX9_acting_22 (by decide) ?_
        refine V_iload_n f dX9_acting_23 1 rfl ?_
        refine V_imul f dX9_acting_24 ?_
        refine V_aload_n f dX9_acting_25 0 rfl ?_
        refine V_getR f dX9_acting_26 lf_9_88 rfl zm_0 rfl ?_
        refine V_iload_n f dX9_acting_29 1 rfl ?_
        refine V_ialdE (x := M1 25 (Int32.toNatClampNeg a)) f dX9_acting_30 zm_25 ha (congrFun (hk1.2.2 25 (by first | exact bP25 | exact tP25)) _) ?_
        refine V_iadd f dX9_acting_31 ?_
        refine V_cVp (As := [.int ((3 * a) + (M1 25 (Int32.toNatClampNeg a)))]) (rest := []) f dX9_acting_32 lk_X9_160 ml_X9_160 ins_X9_test sel_X9_test zm_0 (by decide) rfl (c3_X9_test _ _ _ _ ad Mx1 ((3 * a) + (M1 25 (Int32.toNatClampNeg a))) ((Kt_trans hK1 (b_s hk1)).1) (t432 ha (hK1.1.1.2.2.2.2 _ (vlt ha)) c2).1) rfl (Nat.le_of_ble_eq_true rfl) rfl ⟨by decide, by decide⟩ ⟨Nat.zero_le _, Nat.zero_le _⟩ rfl rfl (fun v3 Mx3 hp3 => ?_)
        obtain ⟨⟨r3, rfl, hr3⟩, hk3⟩ := hp3
        show V K ad 0 0 ZM Mx3 35 [(0, .ref (ad 0)), (1, .int a)] [.int r3]
        refine V_if_ne (tgt := 40) f dX9_acting_35 (by decide) (fun c4 => ?_) (fun c4 => ?_)
        · refine V_aload_n f dX9_acting_40 0 rfl ?_
          refine V_getR f dX9_acting_41 lf_9_88 rfl zm_0 rfl ?_
          refine V_iload_n f dX9_acting_44 1 rfl ?_
          refine V_dup2 f dX9_acting_45 rfl rfl ?_
          refine V_ialdE (x := M1 25 (Int32.toNatClampNeg a)) f dX9_acting_46 zm_25 ha ((congrFun (hk3.2.2 25 (by first | exact bP25 | exact tP25)) _).trans (congrFun (hk1.2.2 25 (by first | exact bP25 | exact tP25)) _)) ?_
          refine V_iconst (v := 1) f dX9_acting_47 (by decide) ?_
          refine V_iadd f dX9_acting_48 ?_
          refine V_iast f dX9_acting_49 zm_25 ha ?_
          refine V_aload_n f dX9_acting_50 0 rfl ?_
          refine V_ldc2 (v := 6385252) f dX9_acting_51 lc_X9_164 ?_
          refine V_cVp (As := [.long 6385252]) (rest := []) f dX9_acting_54 lk_X9_154 ml_X9_154 ins_X9_takes sel_X9_takes zm_0 (by decide) rfl (c3_X9_takes _ _ _ _ ad (up2 Mx3 25 (Int32.toNatClampNeg a) ((M1 25 (Int32.toNatClampNeg a)) + 1)) 6385252 ((Kt_25 (Kt_trans (Kt_trans hK1 (b_s hk1)) (t_s hk3)) (by have q9 := (t432 ha (hK1.1.1.2.2.2.2 _ (vlt ha)) c2); have q8 := hK1.1.1.2.2.2.2 _ (vlt ha); omega)).1)) rfl (Nat.le_of_ble_eq_true rfl) rfl ⟨by decide, by decide⟩ ⟨Nat.zero_le _, Nat.zero_le _⟩ rfl rfl (fun v5 Mx5 hp5 => ?_)
          obtain ⟨⟨r5, rfl, hr5⟩, hk5⟩ := hp5
          show V K ad 0 0 ZM Mx5 57 [(0, .ref (ad 0)), (1, .int a)] [.int r5]
          refine V_if_ne (tgt := 7) f dX9_acting_57 (by decide) (fun c6 => ?_) (fun c6 => ?_)
          · have q9 := (t432 ha (hK1.1.1.2.2.2.2 _ (vlt ha)) c2)
            have q8 := hK1.1.1.2.2.2.2 _ (vlt ha)
            have q7 := (congrFun (hk5.2.2 25 (by first | exact bP25 | exact tP25)) (Int32.toNatClampNeg a)).trans up_s
            exact ih (n - 1) (by omega) _ (Kt_trans (Kt_25 (Kt_trans (Kt_trans hK1 (b_s hk1)) (t_s hk3)) (by have q9 := (t432 ha (hK1.1.1.2.2.2.2 _ (vlt ha)) c2); have q8 := hK1.1.1.2.2.2.2 _ (vlt ha); omega)) (b_s hk5)) (by rw [q7]; omega)
          · refine V_aload_n f dX9_acting_60 0 rfl ?_
            refine V_ldc2 (v := 1952998766) f dX9_acting_61 lc_X9_166 ?_
            refine V_cVp (As := [.long 1952998766]) (rest := []) f dX9_acting_64 lk_X9_154 ml_X9_154 ins_X9_takes sel_X9_takes zm_0 (by decide) rfl (c3_X9_takes _ _ _ _ ad Mx5 1952998766 ((Kt_trans (Kt_25 (Kt_trans (Kt_trans hK1 (b_s hk1)) (t_s hk3)) (by have q9 := (t432 ha (hK1.1.1.2.2.2.2 _ (vlt ha)) c2); have q8 := hK1.1.1.2.2.2.2 _ (vlt ha); omega)) (b_s hk5)).1)) rfl (Nat.le_of_ble_eq_true rfl) rfl ⟨by decide, by decide⟩ ⟨Nat.zero_le _, Nat.zero_le _⟩ rfl rfl (fun v7 Mx7 hp7 => ?_)
            obtain ⟨⟨r7, rfl, hr7⟩, hk7⟩ := hp7
            show V K ad 0 0 ZM Mx7 67 [(0, .ref (ad 0)), (1, .int a)] [.int r7]
            refine V_if_ne (tgt := 72) f dX9_acting_67 (by decide) (fun c8 => ?_) (fun c8 => ?_)
            · refine V_aload_n f dX9_acting_72 0 rfl ?_
              refine V_getR f dX9_acting_73 lf_9_73 rfl zm_0 rfl ?_
              refine V_iload_n f dX9_acting_76 1 rfl ?_
              refine V_aload_n f dX9_acting_77 0 rfl ?_
              refine V_ldc2 (v := 1953854062) f dX9_acting_78 lc_X9_168 ?_
              refine V_cVp (As := [.long 1953854062]) (rest := [.int a, .ref (ad 20)]) f dX9_acting_81 lk_X9_154 ml_X9_154 ins_X9_takes sel_X9_takes zm_0 (by decide) rfl (c3_X9_takes _ _ _ _ ad Mx7 1953854062 ((Kt_trans (Kt_trans (Kt_25 (Kt_trans (Kt_trans hK1 (b_s hk1)) (t_s hk3)) (by have q9 := (t432 ha (hK1.1.1.2.2.2.2 _ (vlt ha)) c2); have q8 := hK1.1.1.2.2.2.2 _ (vlt ha); omega)) (b_s hk5)) (b_s hk7)).1)) rfl (Nat.le_of_ble_eq_true rfl) rfl ⟨by decide, by decide⟩ ⟨Nat.zero_le _, Nat.zero_le _⟩ rfl rfl (fun v9 Mx9 hp9 => ?_)
              obtain ⟨⟨r9, rfl, hr9⟩, hk9⟩ := hp9
              show V K ad 0 0 ZM Mx9 84 [(0, .ref (ad 0)), (1, .int a)] [.int r9, .int a, .ref (ad 20)]
              refine V_if_eq (tgt := 91) f dX9_acting_84 (by decide) (fun c10 => ?_) (fun c10 => ?_)
              · refine V_aload_n f dX9_acting_91 0 rfl ?_
                refine V_ldc2 (v := 1936027236) f dX9_acting_92 lc_X9_170 ?_
                refine V_cVp (As := [.long 1936027236]) (rest := [.int a, .ref (ad 20)]) f dX9_acting_95 lk_X9_154 ml_X9_154 ins_X9_takes sel_X9_takes zm_0 (by decide) rfl (c3_X9_takes _ _ _ _ ad Mx9 1936027236 ((Kt_trans (Kt_trans (Kt_trans (Kt_25 (Kt_trans (Kt_trans hK1 (b_s hk1)) (t_s hk3)) (by have q9 := (t432 ha (hK1.1.1.2.2.2.2 _ (vlt ha)) c2); have q8 := hK1.1.1.2.2.2.2 _ (vlt ha); omega)) (b_s hk5)) (b_s hk7)) (b_s hk9)).1)) rfl (Nat.le_of_ble_eq_true rfl) rfl ⟨by decide, by decide⟩ ⟨Nat.zero_le _, Nat.zero_le _⟩ rfl rfl (fun v11 Mx11 hp11 => ?_)
                obtain ⟨⟨r11, rfl, hr11⟩, hk11⟩ := hp11
                show V K ad 0 0 ZM Mx11 98 [(0, .ref (ad 0)), (1, .int a)] [.int r11, .int a, .ref (ad 20)]
                refine V_if_eq (tgt := 105) f dX9_acting_98 (by decide) (fun c12 => ?_) (fun c12 => ?_)
                · refine V_aload_n f dX9_acting_105 0 rfl ?_
                  refine V_ldc2 (v := 1801807216) f dX9_acting_106 lc_X9_172 ?_
                  refine V_cVp (As := [.long 1801807216]) (rest := [.int a, .ref (ad 20)]) f dX9_acting_109 lk_X9_154 ml_X9_154 ins_X9_takes sel_X9_takes zm_0 (by decide) rfl (c3_X9_takes _ _ _ _ ad Mx11 1801807216 ((Kt_trans (Kt_trans (Kt_trans (Kt_trans (Kt_25 (Kt_trans (Kt_trans hK1 (b_s hk1)) (t_s hk3)) (by have q9 := (t432 ha (hK1.1.1.2.2.2.2 _ (vlt ha)) c2); have q8 := hK1.1.1.2.2.2.2 _ (vlt ha); omega)) (b_s hk5)) (b_s hk7)) (b_s hk9)) (b_s hk11)).1)) rfl (Nat.le_of_ble_eq_true rfl) rfl ⟨by decide, by decide⟩ ⟨Nat.zero_le _, Nat.zero_le _⟩ rfl rfl (fun v13 Mx13 hp13 => ?_)
                  obtain ⟨⟨r13, rfl, hr13⟩, hk13⟩ := hp13
                  show V K ad 0 0 ZM Mx13 112 [(0, .ref (ad 0)), (1, .int a)] [.int r13, .int a, .ref (ad 20)]
                  refine V_if_eq (tgt := 119) f dX9_acting_112 (by decide) (fun c14 => ?_) (fun c14 => ?_)
                  · refine V_iconst (v := (-1)) f dX9_acting_119 (by decide) ?_
                    refine V_iast f dX9_acting_120 zm_20 ha ?_
                    refine V_aload_n f dX9_acting_121 0 rfl ?_
                    refine V_getR f dX9_acting_122 lf_9_73 rfl zm_0 rfl ?_
                    refine V_iload_n f dX9_acting_125 1 rfl ?_
                    refine V_ialdE (x := (-1)) f dX9_acting_126 zm_20 ha up_s ?_
                    refine V_iconst (v := (-1)) f dX9_acting_127 (by decide) ?_
                    refine V_icmp_eq (tgt := 135) f dX9_acting_128 (by decide) (fun _ => ?_) (fun h => absurd (by decide) h)
                    refine V_iconst (v := 0) f dX9_acting_135 (by decide) ?_
                    exact V_iret f q dX9_acting_136 rfl (Nat.zero_le _) (Nat.zero_le _) ⟨rfl, rfl, ⟨0, rfl, Or.inl rfl⟩, (Kt_cs (Kt_trans (Kt_trans (Kt_trans (Kt_trans (Kt_trans (Kt_25 (Kt_trans (Kt_trans hK1 (b_s hk1)) (t_s hk3)) (by have q9 := (t432 ha (hK1.1.1.2.2.2.2 _ (vlt ha)) c2); have q8 := hK1.1.1.2.2.2.2 _ (vlt ha); omega)) (b_s hk5)) (b_s hk7)) (b_s hk9)) (b_s hk11)) (b_s hk13)) (by decide) _ _)⟩
                  · refine V_iconst (v := 5) f dX9_acting_115 (by decide) ?_
                    refine V_goto (tgt := 120) f dX9_acting_116 (by decide) ?_
                    refine V_iast f dX9_acting_120 zm_20 ha ?_
                    refine V_aload_n f dX9_acting_121 0 rfl ?_
                    refine V_getR f dX9_acting_122 lf_9_73 rfl zm_0 rfl ?_
                    refine V_iload_n f dX9_acting_125 1 rfl ?_
                    refine V_ialdE (x := 5) f dX9_acting_126 zm_20 ha up_s ?_
                    refine V_iconst (v := (-1)) f dX9_acting_127 (by decide) ?_
                    refine V_icmp_eq (tgt := 135) f dX9_acting_128 (by decide) (fun h => absurd h (by decide)) (fun _ => ?_)
                    refine V_iconst (v := 1) f dX9_acting_131 (by decide) ?_
                    refine V_goto (tgt := 136) f dX9_acting_132 (by decide) ?_
                    exact V_iret f q dX9_acting_136 rfl (Nat.zero_le _) (Nat.zero_le _) ⟨rfl, rfl, ⟨1, rfl, Or.inr rfl⟩, (Kt_cs (Kt_trans (Kt_trans (Kt_trans (Kt_trans (Kt_trans (Kt_25 (Kt_trans (Kt_trans hK1 (b_s hk1)) (t_s hk3)) (by have q9 := (t432 ha (hK1.1.1.2.2.2.2 _ (vlt ha)) c2); have q8 := hK1.1.1.2.2.2.2 _ (vlt ha); omega)) (b_s hk5)) (b_s hk7)) (b_s hk9)) (b_s hk11)) (b_s hk13)) (by decide) _ _)⟩
                · refine V_iconst (v := 4) f dX9_acting_101 (by decide) ?_
                  refine V_goto (tgt := 120) f dX9_acting_102 (by decide) ?_
                  refine V_iast f dX9_acting_120 zm_20 ha ?_
                  refine V_aload_n f dX9_acting_121 0 rfl ?_
                  refine V_getR f dX9_acting_122 lf_9_73 rfl zm_0 rfl ?_
                  refine V_iload_n f dX9_acting_125 1 rfl ?_
                  refine V_ialdE (x := 4) f dX9_acting_126 zm_20 ha up_s ?_
                  refine V_iconst (v := (-1)) f dX9_acting_127 (by decide) ?_
                  refine V_icmp_eq (tgt := 135) f dX9_acting_128 (by decide) (fun h => absurd h (by decide)) (fun _ => ?_)
                  refine V_iconst (v := 1) f dX9_acting_131 (by decide) ?_
                  refine V_goto (tgt := 136) f dX9_acting_132 (by decide) ?_
                  exact V_iret f q dX9_acting_136 rfl (Nat.zero_le _) (Nat.zero_le _) ⟨rfl, rfl, ⟨1, rfl, Or.inr rfl⟩, (Kt_cs (Kt_trans (Kt_trans (Kt_trans (Kt_trans (Kt_25 (Kt_trans (Kt_trans hK1 (b_s hk1)) (t_s hk3)) (by have q9 := (t432 ha (hK1.1.1.2.2.2.2 _ (vlt ha)) c2); have q8 := hK1.1.1.2.2.2.2 _ (vlt ha); omega)) (b_s hk5)) (b_s hk7)) (b_s hk9)) (b_s hk11)) (by decide) _ _)⟩
              · refine V_iconst (v := 3) f dX9_acting_87 (by decide) ?_
                refine V_goto (tgt := 120) f dX9_acting_88 (by decide) ?_
                refine V_iast f dX9_acting_120 zm_20 ha ?_
                refine V_aload_n f dX9_acting_121 0 rfl ?_
                refine V_getR f dX9_acting_122 lf_9_73 rfl zm_0 rfl ?_
                refine V_iload_n f dX9_acting_125 1 rfl ?_
                refine V_ialdE (x := 3) f dX9_acting_126 zm_20 ha up_s ?_
                refine V_iconst (v := (-1)) f dX9_acting_127 (by decide) ?_
                refine V_icmp_eq (tgt := 135) f dX9_acting_128 (by decide) (fun h => absurd h (by decide)) (fun _ => ?_)
                refine V_iconst (v := 1) f dX9_acting_131 (by decide) ?_
                refine V_goto (tgt := 136) f dX9_acting_132 (by decide) ?_
                exact V_iret f q dX9_acting_136 rfl (Nat.zero_le _) (Nat.zero_le _) ⟨rfl, rfl, ⟨1, rfl, Or.inr rfl⟩, (Kt_cs (Kt_trans (Kt_trans (Kt_trans (Kt_25 (Kt_trans (Kt_trans hK1 (b_s hk1)) (t_s hk3)) (by have q9 := (t432 ha (hK1.1.1.2.2.2.2 _ (vlt ha)) c2); have q8 := hK1.1.1.2.2.2.2 _ (vlt ha); omega)) (b_s hk5)) (b_s hk7)) (b_s hk9)) (by decide) _ _)⟩
            · refine V_iconst (v := 0) f dX9_acting_70 (by decide) ?_
              exact V_iret f q dX9_acting_71 rfl (Nat.zero_le _) (Nat.zero_le _) ⟨rfl, rfl, ⟨0, rfl, Or.inl rfl⟩, (Kt_trans (Kt_trans (Kt_25 (Kt_trans (Kt_trans hK1 (b_s hk1)) (t_s hk3)) (by have q9 := (t432 ha (hK1.1.1.2.2.2.2 _ (vlt ha)) c2); have q8 := hK1.1.1.2.2.2.2 _ (vlt ha); omega)) (b_s hk5)) (b_s hk7))⟩
        · refine V_iconst (v := 0) f dX9_acting_38 (by decide) ?_
          exact V_iret f q dX9_acting_39 rfl (Nat.zero_le _) (Nat.zero_le _) ⟨rfl, rfl, ⟨0, rfl, Or.inl rfl⟩, (Kt_trans (Kt_trans hK1 (b_s hk1)) (t_s hk3))⟩
  refine V_aload_n f dX9_acting_0 0 rfl ?_
  refine V_getR f dX9_acting_1 lf_9_88 rfl zm_0 rfl ?_
  refine V_iload_n f dX9_acting_4 1 rfl ?_
  refine V_iconst (v := 0) f dX9_acting_5 (by decide) ?_
  refine V_iast f dX9_acting_6 zm_25 ha ?_
  exact loop 3 _ (Kt_25 (Kt_refl (P := sP) hP) ⟨by decide, by decide⟩) (by rw [up_s]; decide)
set_option maxHeartbeats 4000000 in
set_option maxRecDepth 100000 in
theorem c3_X9_statement (l : Launch) (D : va_G) (cy : Nat → ClassId) (X : va_W) (ad : Nat → Nat) (M : MT) (a : Int32) (hP : ParI M) (ha : vp_in a 144) : CtP l yX9_statement cX9_statement 2 (some .boolean) (rK 4) D cy X ad ZM M [.ref (ad 0), .int a] (fun v M1 => (∃ r : Int32, v = some (.int r) ∧ (r = 0 ∨ r = 1)) ∧ Kt sP M M1) := by
  refine Ctr.of (by decide +kernel) (Nat.le_of_ble_eq_true rfl) ?_
  intro K f q hnm hl0 hD0 hy0 hX0
  show V K ad 0 0 ZM M 0 [(0, .ref (ad 0)), (1, .int a)] []
  refine V_aload_n f dX9_statement_0 0 rfl ?_
  refine V_ldc2 (v := 427021005669) f dX9_statement_1 lc_X9_174 ?_
  refine V_cVp (As := [.long 427021005669]) (rest := []) f dX9_statement_4 lk_X9_154 ml_X9_154 ins_X9_takes sel_X9_takes zm_0 (by decide) rfl (c3_X9_takes _ _ _ _ ad M 427021005669 ((Kt_refl (P := sP) hP).1)) rfl (Nat.le_of_ble_eq_true rfl) rfl ⟨by decide, by decide⟩ ⟨Nat.zero_le _, Nat.zero_le _⟩ rfl rfl (fun v1 Mx1 hp1 => ?_)
  obtain ⟨⟨r1, rfl, hr1⟩, hk1⟩ := hp1
  show V K ad 0 0 ZM Mx1 7 [(0, .ref (ad 0)), (1, .int a)] [.int r1]
  refine V_if_eq (tgt := 20) f dX9_statement_7 (by decide) (fun c2 => ?_) (fun c2 => ?_)
  · refine V_aload_n f dX9_statement_20 0 rfl ?_
    refine V_ldc2 (v := 26982) f dX9_statement_21 lc_X9_179 ?_
    refine V_cVp (As := [.long 26982]) (rest := []) f dX9_statement_24 lk_X9_154 ml_X9_154 ins_X9_takes sel_X9_takes zm_0 (by decide) rfl (c3_X9_takes _ _ _ _ ad Mx1 26982 ((Kt_trans (Kt_refl (P := sP) hP) (b_s hk1)).1)) rfl (Nat.le_of_ble_eq_true rfl) rfl ⟨by decide, by decide⟩ ⟨Nat.zero_le _, Nat.zero_le _⟩ rfl rfl (fun v3 Mx3 hp3 => ?_)
    obtain ⟨⟨r3, rfl, hr3⟩, hk3⟩ := hp3
    show V K ad 0 0 ZM Mx3 27 [(0, .ref (ad 0)), (1, .int a)] [.int r3]
    refine V_if_eq (tgt := 40) f dX9_statement_27 (by decide) (fun c4 => ?_) (fun c4 => ?_)
    · refine V_aload_n f dX9_statement_40 0 rfl ?_
      refine V_getR f dX9_statement_41 lf_9_73 rfl zm_0 rfl ?_
      refine V_iload_n f dX9_statement_44 1 rfl ?_
      refine V_aload_n f dX9_statement_45 0 rfl ?_
      refine V_ldc2 (v := 465625246068) f dX9_statement_46 lc_X9_184 ?_
      refine V_cVp (As := [.long 465625246068]) (rest := [.int a, .ref (ad 20)]) f dX9_statement_49 lk_X9_154 ml_X9_154 ins_X9_takes sel_X9_takes zm_0 (by decide) rfl (c3_X9_takes _ _ _ _ ad Mx3 465625246068 ((Kt_trans (Kt_trans (Kt_refl (P := sP) hP) (b_s hk1)) (b_s hk3)).1)) rfl (Nat.le_of_ble_eq_true rfl) rfl ⟨by decide, by decide⟩ ⟨Nat.zero_le _, Nat.zero_le _⟩ rfl rfl (fun v5 Mx5 hp5 => ?_)
      obtain ⟨⟨r5, rfl, hr5⟩, hk5⟩ := hp5
      show V K ad 0 0 ZM Mx5 52 [(0, .ref (ad 0)), (1, .int a)] [.int r5, .int a, .ref (ad 20)]
      refine V_if_eq (tgt := 59) f dX9_statement_52 (by decide) (fun c6 => ?_) (fun c6 => ?_)
      · refine V_aload_n f dX9_statement_59 0 rfl ?_
        refine V_ldc2 (v := 431198598248) f dX9_statement_60 lc_X9_186 ?_
        refine V_cVp (As := [.long 431198598248]) (rest := [.int a, .ref (ad 20)]) f dX9_statement_63 lk_X9_154 ml_X9_154 ins_X9_takes sel_X9_takes zm_0 (by decide) rfl (c3_X9_takes _ _ _ _ ad Mx5 431198598248 ((Kt_trans (Kt_trans (Kt_trans (Kt_refl (P := sP) hP) (b_s hk1)) (b_s hk3)) (b_s hk5)).1)) rfl (Nat.le_of_ble_eq_true rfl) rfl ⟨by decide, by decide⟩ ⟨Nat.zero_le _, Nat.zero_le _⟩ rfl rfl (fun v7 Mx7 hp7 => ?_)
        obtain ⟨⟨r7, rfl, hr7⟩, hk7⟩ := hp7
        show V K ad 0 0 ZM Mx7 66 [(0, .ref (ad 0)), (1, .int a)] [.int r7, .int a, .ref (ad 20)]
        refine V_if_eq (tgt := 73) f dX9_statement_66 (by decide) (fun c8 => ?_) (fun c8 => ?_)
        · refine V_iconst (v := (-1)) f dX9_statement_73 (by decide) ?_
          refine V_iast f dX9_statement_74 zm_20 ha ?_
          refine V_aload_n f dX9_statement_75 0 rfl ?_
          refine V_getR f dX9_statement_76 lf_9_73 rfl zm_0 rfl ?_
          refine V_iload_n f dX9_statement_79 1 rfl ?_
          refine V_ialdE (x := (-1)) f dX9_statement_80 zm_20 ha up_s ?_
          refine V_iconst (v := (-1)) f dX9_statement_81 (by decide) ?_
          refine V_icmp_eq (tgt := 92) f dX9_statement_82 (by decide) (fun _ => ?_) (fun h => absurd (by decide) h)
          refine V_iconst (v := 0) f dX9_statement_92 (by decide) ?_
          exact V_iret f q dX9_statement_93 rfl (Nat.zero_le _) (Nat.zero_le _) ⟨rfl, rfl, ⟨0, rfl, Or.inl rfl⟩, (Kt_cs (Kt_trans (Kt_trans (Kt_trans (Kt_trans (Kt_refl (P := sP) hP) (b_s hk1)) (b_s hk3)) (b_s hk5)) (b_s hk7)) (by decide) _ _)⟩
        · refine V_iconst (v := 1) f dX9_statement_69 (by decide) ?_
          refine V_goto (tgt := 74) f dX9_statement_70 (by decide) ?_
          refine V_iast f dX9_statement_74 zm_20 ha ?_
          refine V_aload_n f dX9_statement_75 0 rfl ?_
          refine V_getR f dX9_statement_76 lf_9_73 rfl zm_0 rfl ?_
          refine V_iload_n f dX9_statement_79 1 rfl ?_
          refine V_ialdE (x := 1) f dX9_statement_80 zm_20 ha up_s ?_
          refine V_iconst (v := (-1)) f dX9_statement_81 (by decide) ?_
          refine V_icmp_eq (tgt := 92) f dX9_statement_82 (by decide) (fun h => absurd h (by decide)) (fun _ => ?_)
          refine V_aload_n f dX9_statement_85 0 rfl ?_
          refine V_cVp (As := []) (rest := []) f dX9_statement_86 lk_X9_148 ml_X9_148 ins_X9_takesNumber sel_X9_takesNumber zm_0 (by decide) rfl (c3_X9_takesNumber _ _ _ _ ad (up2 Mx7 20 (Int32.toNatClampNeg a) 1) ((Kt_cs (Kt_trans (Kt_trans (Kt_trans (Kt_trans (Kt_refl (P := sP) hP) (b_s hk1)) (b_s hk3)) (b_s hk5)) (b_s hk7)) (by decide) _ _).1)) rfl (Nat.le_of_ble_eq_true rfl) rfl ⟨by decide, by decide⟩ ⟨Nat.zero_le _, Nat.zero_le _⟩ rfl rfl (fun v9 Mx9 hp9 => ?_)
          obtain ⟨⟨r9, rfl, hr9⟩, hk9⟩ := hp9
          show V K ad 0 0 ZM Mx9 89 [(0, .ref (ad 0)), (1, .int a)] [.int r9]
          refine V_if_ne (tgt := 94) f dX9_statement_89 (by decide) (fun c10 => ?_) (fun c10 => ?_)
          · refine V_aload_n f dX9_statement_94 0 rfl ?_
            refine V_getR f dX9_statement_95 lf_9_76 rfl zm_0 rfl ?_
            refine V_iload_n f dX9_statement_98 1 rfl ?_
            refine V_aload_n f dX9_statement_99 0 rfl ?_
            refine V_getE (x := Mx9 0 44) f dX9_statement_100 lf_9_139 rfl zm_0 rfl ?_
            refine V_iast f dX9_statement_103 zm_21 ha ?_
            refine V_aload_n f dX9_statement_104 0 rfl ?_
            refine V_cVp (As := []) (rest := []) f dX9_statement_105 lk_X9_129 ml_X9_129 ins_X9_blanks sel_X9_blanks zm_0 (by decide) rfl (c3_X9_blanks _ _ _ _ ad (up2 Mx9 21 (Int32.toNatClampNeg a) (Mx9 0 44)) ((Kt_cs (Kt_trans (Kt_cs (Kt_trans (Kt_trans (Kt_trans (Kt_trans (Kt_refl (P := sP) hP) (b_s hk1)) (b_s hk3)) (b_s hk5)) (b_s hk7)) (by decide) _ _) (b_s hk9)) (by decide) _ _).1)) rfl (Nat.le_of_ble_eq_true rfl) rfl ⟨by decide, by decide⟩ ⟨Nat.zero_le _, Nat.zero_le _⟩ rfl rfl (fun v11 Mx11 hp11 => ?_)
            obtain ⟨rfl, hk11⟩ := hp11
            show V K ad 0 0 ZM Mx11 108 [(0, .ref (ad 0)), (1, .int a)] []
            refine V_aload_n f dX9_statement_108 0 rfl ?_
            refine V_getE (x := Mx11 0 29) f dX9_statement_109 lf_9_123 rfl zm_0 rfl ?_
            refine V_aload_n f dX9_statement_112 0 rfl ?_
            refine V_getE (x := Mx11 0 28) f dX9_statement_113 lf_9_126 rfl zm_0 rfl ?_
            refine V_icmp_eq (tgt := 133) f dX9_statement_116 (by decide) (fun c12 => ?_) (fun c12 => ?_)
            · refine V_iconst (v := 0) f dX9_statement_133 (by decide) ?_
              exact V_iret f q dX9_statement_134 rfl (Nat.zero_le _) (Nat.zero_le _) ⟨rfl, rfl, ⟨0, rfl, Or.inl rfl⟩, (Kt_trans (Kt_cs (Kt_trans (Kt_cs (Kt_trans (Kt_trans (Kt_trans (Kt_trans (Kt_refl (P := sP) hP) (b_s hk1)) (b_s hk3)) (b_s hk5)) (b_s hk7)) (by decide) _ _) (b_s hk9)) (by decide) _ _) (b_s hk11))⟩
            · refine V_aload_n f dX9_statement_119 0 rfl ?_
              refine V_getR f dX9_statement_120 lf_9_60 rfl zm_0 rfl ?_
              refine V_aload_n f dX9_statement_123 0 rfl ?_
              refine V_getE (x := Mx11 0 29) f dX9_statement_124 lf_9_123 rfl zm_0 rfl ?_
              refine V_bald f dX9_statement_127 zm_17 (tin (Kt_trans (Kt_cs (Kt_trans (Kt_cs (Kt_trans (Kt_trans (Kt_trans (Kt_trans (Kt_refl (P := sP) hP) (b_s hk1)) (b_s hk3)) (b_s hk5)) (b_s hk7)) (by decide) _ _) (b_s hk9)) (by decide) _ _) (b_s hk11)).1 (Kt_trans (Kt_cs (Kt_trans (Kt_cs (Kt_trans (Kt_trans (Kt_trans (Kt_trans (Kt_refl (P := sP) hP) (b_s hk1)) (b_s hk3)) (b_s hk5)) (b_s hk7)) (by decide) _ _) (b_s hk9)) (by decide) _ _) (b_s hk11)).1.2.2.1 (tne (Kt_trans (Kt_cs (Kt_trans (Kt_cs (Kt_trans (Kt_trans (Kt_trans (Kt_trans (Kt_refl (P := sP) hP) (b_s hk1)) (b_s hk3)) (b_s hk5)) (b_s hk7)) (by decide) _ _) (b_s hk9)) (by decide) _ _) (b_s hk11)).1 c12)) ?_
              refine V_bipush (v := 59) f dX9_statement_128 (by decide) ?_
              refine V_icmp_eq (tgt := 135) f dX9_statement_130 (by decide) (fun c13 => ?_) (fun c13 => ?_)
              · refine V_aload_n f dX9_statement_135 0 rfl ?_
                refine V_dup f dX9_statement_136 rfl ?_
                refine V_getE (x := Mx11 0 29) f dX9_statement_137 lf_9_123 rfl zm_0 rfl ?_
                refine V_iconst (v := 1) f dX9_statement_140 (by decide) ?_
                refine V_iadd f dX9_statement_141 ?_
                refine V_putI f dX9_statement_142 lf_9_123 lp_9_29 rfl rfl rfl rfl zm_0 ?_
                refine V_iconst (v := 1) f dX9_statement_145 (by decide) ?_
                exact V_iret f q dX9_statement_146 rfl (Nat.zero_le _) (Nat.zero_le _) ⟨rfl, rfl, ⟨1, rfl, Or.inr rfl⟩, (Kt_at (Kt_trans (Kt_cs (Kt_trans (Kt_cs (Kt_trans (Kt_trans (Kt_trans (Kt_trans (Kt_refl (P := sP) hP) (b_s hk1)) (b_s hk3)) (b_s hk5)) (b_s hk7)) (by decide) _ _) (b_s hk9)) (by decide) _ _) (b_s hk11)) s1 (tinc (Kt_trans (Kt_cs (Kt_trans (Kt_cs (Kt_trans (Kt_trans (Kt_trans (Kt_trans (Kt_refl (P := sP) hP) (b_s hk1)) (b_s hk3)) (b_s hk5)) (b_s hk7)) (by decide) _ _) (b_s hk9)) (by decide) _ _) (b_s hk11)) (Kt_trans (Kt_cs (Kt_trans (Kt_cs (Kt_trans (Kt_trans (Kt_trans (Kt_trans (Kt_refl (P := sP) hP) (b_s hk1)) (b_s hk3)) (b_s hk5)) (b_s hk7)) (by decide) _ _) (b_s hk9)) (by decide) _ _) (b_s hk11)).1.2.2.1 (tne (Kt_trans (Kt_cs (Kt_trans (Kt_cs (Kt_trans (Kt_trans (Kt_trans (Kt_trans (Kt_refl (P := sP) hP) (b_s hk1)) (b_s hk3)) (b_s hk5)) (b_s hk7)) (by decide) _ _) (b_s hk9)) (by decide) _ _) (b_s hk11)).1 c12)).1)⟩
              · refine V_iconst (v := 0) f dX9_statement_133 (by decide) ?_
                exact V_iret f q dX9_statement_134 rfl (Nat.zero_le _) (Nat.zero_le _) ⟨rfl, rfl, ⟨0, rfl, Or.inl rfl⟩, (Kt_trans (Kt_cs (Kt_trans (Kt_cs (Kt_trans (Kt_trans (Kt_trans (Kt_trans (Kt_refl (P := sP) hP) (b_s hk1)) (b_s hk3)) (b_s hk5)) (b_s hk7)) (by decide) _ _) (b_s hk9)) (by decide) _ _) (b_s hk11))⟩
          · refine V_iconst (v := 0) f dX9_statement_92 (by decide) ?_
            exact V_iret f q dX9_statement_93 rfl (Nat.zero_le _) (Nat.zero_le _) ⟨rfl, rfl, ⟨0, rfl, Or.inl rfl⟩, (Kt_trans (Kt_cs (Kt_trans (Kt_trans (Kt_trans (Kt_trans (Kt_refl (P := sP) hP) (b_s hk1)) (b_s hk3)) (b_s hk5)) (b_s hk7)) (by decide) _ _) (b_s hk9))⟩
      · refine V_iconst (v := 0) f dX9_statement_55 (by decide) ?_
        refine V_goto (tgt := 74) f dX9_statement_56 (by decide) ?_
        refine V_iast f dX9_statement_74 zm_20 ha ?_
        refine V_aload_n f dX9_statement_75 0 rfl ?_
        refine V_getR f dX9_statement_76 lf_9_73 rfl zm_0 rfl ?_
        refine V_iload_n f dX9_statement_79 1 rfl ?_
        refine V_ialdE (x := 0) f dX9_statement_80 zm_20 ha up_s ?_
        refine V_iconst (v := (-1)) f dX9_statement_81 (by decide) ?_
        refine V_icmp_eq (tgt := 92) f dX9_statement_82 (by decide) (fun h => absurd h (by decide)) (fun _ => ?_)
        refine V_aload_n f dX9_statement_85 0 rfl ?_
        refine V_cVp (As := []) (rest := []) f dX9_statement_86 lk_X9_148 ml_X9_148 ins_X9_takesNumber sel_X9_takesNumber zm_0 (by decide) rfl (c3_X9_takesNumber _ _ _ _ ad (up2 Mx5 20 (Int32.toNatClampNeg a) 0) ((Kt_cs (Kt_trans (Kt_trans (Kt_trans (Kt_refl (P := sP) hP) (b_s hk1)) (b_s hk3)) (b_s hk5)) (by decide) _ _).1)) rfl (Nat.le_of_ble_eq_true rfl) rfl ⟨by decide, by decide⟩ ⟨Nat.zero_le _, Nat.zero_le _⟩ rfl rfl (fun v14 Mx14 hp14 => ?_)
        obtain ⟨⟨r14, rfl, hr14⟩, hk14⟩ := hp14
        show V K ad 0 0 ZM Mx14 89 [(0, .ref (ad 0)), (1, .int a)] [.int r14]
        refine V_if_ne (tgt := 94) f dX9_statement_89 (by decide) (fun c15 => ?_) (fun c15 => ?_)
        · refine V_aload_n f dX9_statement_94 0 rfl ?_
          refine V_getR f dX9_statement_95 lf_9_76 rfl zm_0 rfl ?_
          refine V_iload_n f dX9_statement_98 1 rfl ?_
          refine V_aload_n f dX9_statement_99 0 rfl ?_
          refine V_getE (x := Mx14 0 44) f dX9_statement_100 lf_9_139 rfl zm_0 rfl ?_
          refine V_iast f dX9_statement_103 zm_21 ha ?_
          refine V_aload_n f dX9_statement_104 0 rfl ?_
          refine V_cVp (As := []) (rest := []) f dX9_statement_105 lk_X9_129 ml_X9_129 ins_X9_blanks sel_X9_blanks zm_0 (by decide) rfl (c3_X9_blanks _ _ _ _ ad (up2 Mx14 21 (Int32.toNatClampNeg a) (Mx14 0 44)) ((Kt_cs (Kt_trans (Kt_cs (Kt_trans (Kt_trans (Kt_trans (Kt_refl (P := sP) hP) (b_s hk1)) (b_s hk3)) (b_s hk5)) (by decide) _ _) (b_s hk14)) (by decide) _ _).1)) rfl (Nat.le_of_ble_eq_true rfl) rfl ⟨by decide, by decide⟩ ⟨Nat.zero_le _, Nat.zero_le _⟩ rfl rfl (fun v16 Mx16 hp16 => ?_)
          obtain ⟨rfl, hk16⟩ := hp16
          show V K ad 0 0 ZM Mx16 108 [(0, .ref (ad 0)), (1, .int a)] []
          refine V_aload_n f dX9_statement_108 0 rfl ?_
          refine V_getE (x := Mx16 0 29) f dX9_statement_109 lf_9_123 rfl zm_0 rfl ?_
          refine V_aload_n f dX9_statement_112 0 rfl ?_
          refine V_getE (x := Mx16 0 28) f dX9_statement_113 lf_9_126 rfl zm_0 rfl ?_
          refine V_icmp_eq (tgt := 133) f dX9_statement_116 (by decide) (fun c17 => ?_) (fun c17 => ?_)
          · refine V_iconst (v := 0) f dX9_statement_133 (by decide) ?_
            exact V_iret f q dX9_statement_134 rfl (Nat.zero_le _) (Nat.zero_le _) ⟨rfl, rfl, ⟨0, rfl, Or.inl rfl⟩, (Kt_trans (Kt_cs (Kt_trans (Kt_cs (Kt_trans (Kt_trans (Kt_trans (Kt_refl (P := sP) hP) (b_s hk1)) (b_s hk3)) (b_s hk5)) (by decide) _ _) (b_s hk14)) (by decide) _ _) (b_s hk16))⟩
          · refine V_aload_n f dX9_statement_119 0 rfl ?_
            refine V_getR f dX9_statement_120 lf_9_60 rfl zm_0 rfl ?_
            refine V_aload_n f dX9_statement_123 0 rfl ?_
            refine V_getE (x := Mx16 0 29) f dX9_statement_124 lf_9_123 rfl zm_0 rfl ?_
            refine V_bald f dX9_statement_127 zm_17 (tin (Kt_trans (Kt_cs (Kt_trans (Kt_cs (Kt_trans (Kt_trans (Kt_trans (Kt_refl (P := sP) hP) (b_s hk1)) (b_s hk3)) (b_s hk5)) (by decide) _ _) (b_s hk14)) (by decide) _ _) (b_s hk16)).1 (Kt_trans (Kt_cs (Kt_trans (Kt_cs (Kt_trans (Kt_trans (Kt_trans (Kt_refl (P := sP) hP) (b_s hk1)) (b_s hk3)) (b_s hk5)) (by decide) _ _) (b_s hk14)) (by decide) _ _) (b_s hk16)).1.2.2.1 (tne (Kt_trans (Kt_cs (Kt_trans (Kt_cs (Kt_trans (Kt_trans (Kt_trans (Kt_refl (P := sP) hP) (b_s hk1)) (b_s hk3)) (b_s hk5)) (by decide) _ _) (b_s hk14)) (by decide) _ _) (b_s hk16)).1 c17)) ?_
            refine V_bipush (v := 59) f dX9_statement_128 (by decide) ?_
            refine V_icmp_eq (tgt := 135) f dX9_statement_130 (by decide) (fun c18 => ?_) (fun c18 => ?_)
            · refine V_aload_n f dX9_statement_135 0 rfl ?_
              refine V_dup f dX9_statement_136 rfl ?_
              refine V_getE (x := Mx16 0 29) f dX9_statement_137 lf_9_123 rfl zm_0 rfl ?_
              refine V_iconst (v := 1) f dX9_statement_140 (by decide) ?_
              refine V_iadd f dX9_statement_141 ?_
              refine V_putI f dX9_statement_142 lf_9_123 lp_9_29 rfl rfl rfl rfl zm_0 ?_
              refine V_iconst (v := 1) f dX9_statement_145 (by decide) ?_
              exact V_iret f q dX9_statement_146 rfl (Nat.zero_le _) (Nat.zero_le _) ⟨rfl, rfl, ⟨1, rfl, Or.inr rfl⟩, (Kt_at (Kt_trans (Kt_cs (Kt_trans (Kt_cs (Kt_trans (Kt_trans (Kt_trans (Kt_refl (P := sP) hP) (b_s hk1)) (b_s hk3)) (b_s hk5)) (by decide) _ _) (b_s hk14)) (by decide) _ _) (b_s hk16)) s1 (tinc (Kt_trans (Kt_cs (Kt_trans (Kt_cs (Kt_trans (Kt_trans (Kt_trans (Kt_refl (P := sP) hP) (b_s hk1)) (b_s hk3)) (b_s hk5)) (by decide) _ _) (b_s hk14)) (by decide) _ _) (b_s hk16)) (Kt_trans (Kt_cs (Kt_trans (Kt_cs (Kt_trans (Kt_trans (Kt_trans (Kt_refl (P := sP) hP) (b_s hk1)) (b_s hk3)) (b_s hk5)) (by decide) _ _) (b_s hk14)) (by decide) _ _) (b_s hk16)).1.2.2.1 (tne (Kt_trans (Kt_cs (Kt_trans (Kt_cs (Kt_trans (Kt_trans (Kt_trans (Kt_refl (P := sP) hP) (b_s hk1)) (b_s hk3)) (b_s hk5)) (by decide) _ _) (b_s hk14)) (by decide) _ _) (b_s hk16)).1 c17)).1)⟩
            · refine V_iconst (v := 0) f dX9_statement_133 (by decide) ?_
              exact V_iret f q dX9_statement_134 rfl (Nat.zero_le _) (Nat.zero_le _) ⟨rfl, rfl, ⟨0, rfl, Or.inl rfl⟩, (Kt_trans (Kt_cs (Kt_trans (Kt_cs (Kt_trans (Kt_trans (Kt_trans (Kt_refl (P := sP) hP) (b_s hk1)) (b_s hk3)) (b_s hk5)) (by decide) _ _) (b_s hk14)) (by decide) _ _) (b_s hk16))⟩
        · refine V_iconst (v := 0) f dX9_statement_92 (by decide) ?_
          exact V_iret f q dX9_statement_93 rfl (Nat.zero_le _) (Nat.zero_le _) ⟨rfl, rfl, ⟨0, rfl, Or.inl rfl⟩, (Kt_trans (Kt_cs (Kt_trans (Kt_trans (Kt_trans (Kt_refl (P := sP) hP) (b_s hk1)) (b_s hk3)) (b_s hk5)) (by decide) _ _) (b_s hk14))⟩
    · refine V_aload_n f dX9_statement_30 0 rfl ?_
      refine V_iload_n f dX9_statement_31 1 rfl ?_
      refine V_cVp (As := [.int a]) (rest := []) f dX9_statement_32 lk_X9_181 ml_X9_181 ins_X9_acting sel_X9_acting zm_0 (by decide) rfl (c3_X9_acting _ _ _ _ ad Mx3 a ((Kt_trans (Kt_trans (Kt_refl (P := sP) hP) (b_s hk1)) (b_s hk3)).1) ha) rfl (Nat.le_of_ble_eq_true rfl) rfl ⟨by decide, by decide⟩ ⟨Nat.zero_le _, Nat.zero_le _⟩ rfl rfl (fun v19 Mx19 hp19 => ?_)
      obtain ⟨⟨r19, rfl, hr19⟩, hk19⟩ := hp19
      show V K ad 0 0 ZM Mx19 35 [(0, .ref (ad 0)), (1, .int a)] [.int r19]
      refine V_if_ne (tgt := 104) f dX9_statement_35 (by decide) (fun c20 => ?_) (fun c20 => ?_)
      · refine V_aload_n f dX9_statement_104 0 rfl ?_
        refine V_cVp (As := []) (rest := []) f dX9_statement_105 lk_X9_129 ml_X9_129 ins_X9_blanks sel_X9_blanks zm_0 (by decide) rfl (c3_X9_blanks _ _ _ _ ad Mx19 ((Kt_trans (Kt_trans (Kt_trans (Kt_refl (P := sP) hP) (b_s hk1)) (b_s hk3)) (s_s hk19)).1)) rfl (Nat.le_of_ble_eq_true rfl) rfl ⟨by decide, by decide⟩ ⟨Nat.zero_le _, Nat.zero_le _⟩ rfl rfl (fun v21 Mx21 hp21 => ?_)
        obtain ⟨rfl, hk21⟩ := hp21
        show V K ad 0 0 ZM Mx21 108 [(0, .ref (ad 0)), (1, .int a)] []
        refine V_aload_n f dX9_statement_108 0 rfl ?_
        refine V_getE (x := Mx21 0 29) f dX9_statement_109 lf_9_123 rfl zm_0 rfl ?_
        refine V_aload_n f dX9_statement_112 0 rfl ?_
        refine V_getE (x := Mx21 0 28) f dX9_statement_113 lf_9_126 rfl zm_0 rfl ?_
        refine V_icmp_eq (tgt := 133) f dX9_statement_116 (by decide) (fun c22 => ?_) (fun c22 => ?_)
        · refine V_iconst (v := 0) f dX9_statement_133 (by decide) ?_
          exact V_iret f q dX9_statement_134 rfl (Nat.zero_le _) (Nat.zero_le _) ⟨rfl, rfl, ⟨0, rfl, Or.inl rfl⟩, (Kt_trans (Kt_trans (Kt_trans (Kt_trans (Kt_refl (P := sP) hP) (b_s hk1)) (b_s hk3)) (s_s hk19)) (b_s hk21))⟩
        · refine V_aload_n f dX9_statement_119 0 rfl ?_
          refine V_getR f dX9_statement_120 lf_9_60 rfl zm_0 rfl ?_
          refine V_aload_n f dX9_statement_123 0 rfl ?_
          refine V_getE (x := Mx21 0 29) f dX9_statement_124 lf_9_123 rfl zm_0 rfl ?_
          refine V_bald f dX9_statement_127 zm_17 (tin (Kt_trans (Kt_trans (Kt_trans (Kt_trans (Kt_refl (P := sP) hP) (b_s hk1)) (b_s hk3)) (s_s hk19)) (b_s hk21)).1 (Kt_trans (Kt_trans (Kt_trans (Kt_trans (Kt_refl (P := sP) hP) (b_s hk1)) (b_s hk3)) (s_s hk19)) (b_s hk21)).1.2.2.1 (tne (Kt_trans (Kt_trans (Kt_trans (Kt_trans (Kt_refl (P := sP) hP) (b_s hk1)) (b_s hk3)) (s_s hk19)) (b_s hk21)).1 c22)) ?_
          refine V_bipush (v := 59) f dX9_statement_128 (by decide) ?_
          refine V_icmp_eq (tgt := 135) f dX9_statement_130 (by decide) (fun c23 => ?_) (fun c23 => ?_)
          · refine V_aload_n f dX9_statement_135 0 rfl ?_
            refine V_dup f dX9_statement_136 rfl ?_
            refine V_getE (x := Mx21 0 29) f dX9_statement_137 lf_9_123 rfl zm_0 rfl ?_
            refine V_iconst (v := 1) f dX9_statement_140 (by decide) ?_
            refine V_iadd f dX9_statement_141 ?_
            refine V_putI f dX9_statement_142 lf_9_123 lp_9_29 rfl rfl rfl rfl zm_0 ?_
            refine V_iconst (v := 1) f dX9_statement_145 (by decide) ?_
            exact V_iret f q dX9_statement_146 rfl (Nat.zero_le _) (Nat.zero_le _) ⟨rfl, rfl, ⟨1, rfl, Or.inr rfl⟩, (Kt_at (Kt_trans (Kt_trans (Kt_trans (Kt_trans (Kt_refl (P := sP) hP) (b_s hk1)) (b_s hk3)) (s_s hk19)) (b_s hk21)) s1 (tinc (Kt_trans (Kt_trans (Kt_trans (Kt_trans (Kt_refl (P := sP) hP) (b_s hk1)) (b_s hk3)) (s_s hk19)) (b_s hk21)) (Kt_trans (Kt_trans (Kt_trans (Kt_trans (Kt_refl (P := sP) hP) (b_s hk1)) (b_s hk3)) (s_s hk19)) (b_s hk21)).1.2.2.1 (tne (Kt_trans (Kt_trans (Kt_trans (Kt_trans (Kt_refl (P := sP) hP) (b_s hk1)) (b_s hk3)) (s_s hk19)) (b_s hk21)).1 c22)).1)⟩
          · refine V_iconst (v := 0) f dX9_statement_133 (by decide) ?_
            exact V_iret f q dX9_statement_134 rfl (Nat.zero_le _) (Nat.zero_le _) ⟨rfl, rfl, ⟨0, rfl, Or.inl rfl⟩, (Kt_trans (Kt_trans (Kt_trans (Kt_trans (Kt_refl (P := sP) hP) (b_s hk1)) (b_s hk3)) (s_s hk19)) (b_s hk21))⟩
      · refine V_iconst (v := 0) f dX9_statement_38 (by decide) ?_
        exact V_iret f q dX9_statement_39 rfl (Nat.zero_le _) (Nat.zero_le _) ⟨rfl, rfl, ⟨0, rfl, Or.inl rfl⟩, (Kt_trans (Kt_trans (Kt_trans (Kt_refl (P := sP) hP) (b_s hk1)) (b_s hk3)) (s_s hk19))⟩
  · refine V_aload_n f dX9_statement_10 0 rfl ?_
    refine V_iload_n f dX9_statement_11 1 rfl ?_
    refine V_cVp (As := [.int a]) (rest := []) f dX9_statement_12 lk_X9_176 ml_X9_176 ins_X9_closing sel_X9_closing zm_0 (by decide) rfl (c3_X9_closing _ _ _ _ ad Mx1 a ((Kt_trans (Kt_refl (P := sP) hP) (b_s hk1)).1) ha) rfl (Nat.le_of_ble_eq_true rfl) rfl ⟨by decide, by decide⟩ ⟨Nat.zero_le _, Nat.zero_le _⟩ rfl rfl (fun v24 Mx24 hp24 => ?_)
    obtain ⟨⟨r24, rfl, hr24⟩, hk24⟩ := hp24
    show V K ad 0 0 ZM Mx24 15 [(0, .ref (ad 0)), (1, .int a)] [.int r24]
    refine V_if_ne (tgt := 104) f dX9_statement_15 (by decide) (fun c25 => ?_) (fun c25 => ?_)
    · refine V_aload_n f dX9_statement_104 0 rfl ?_
      refine V_cVp (As := []) (rest := []) f dX9_statement_105 lk_X9_129 ml_X9_129 ins_X9_blanks sel_X9_blanks zm_0 (by decide) rfl (c3_X9_blanks _ _ _ _ ad Mx24 ((Kt_trans (Kt_trans (Kt_refl (P := sP) hP) (b_s hk1)) (s_s hk24)).1)) rfl (Nat.le_of_ble_eq_true rfl) rfl ⟨by decide, by decide⟩ ⟨Nat.zero_le _, Nat.zero_le _⟩ rfl rfl (fun v26 Mx26 hp26 => ?_)
      obtain ⟨rfl, hk26⟩ := hp26
      show V K ad 0 0 ZM Mx26 108 [(0, .ref (ad 0)), (1, .int a)] []
      refine V_aload_n f dX9_statement_108 0 rfl ?_
      refine V_getE (x := Mx26 0 29) f dX9_statement_109 lf_9_123 rfl zm_0 rfl ?_
      refine V_aload_n f dX9_statement_112 0 rfl ?_
      refine V_getE (x := Mx26 0 28) f dX9_statement_113 lf_9_126 rfl zm_0 rfl ?_
      refine V_icmp_eq (tgt := 133) f dX9_statement_116 (by decide) (fun c27 => ?_) (fun c27 => ?_)
      · refine V_iconst (v := 0) f dX9_statement_133 (by decide) ?_
        exact V_iret f q dX9_statement_134 rfl (Nat.zero_le _) (Nat.zero_le _) ⟨rfl, rfl, ⟨0, rfl, Or.inl rfl⟩, (Kt_trans (Kt_trans (Kt_trans (Kt_refl (P := sP) hP) (b_s hk1)) (s_s hk24)) (b_s hk26))⟩
      · refine V_aload_n f dX9_statement_119 0 rfl ?_
        refine V_getR f dX9_statement_120 lf_9_60 rfl zm_0 rfl ?_
        refine V_aload_n f dX9_statement_123 0 rfl ?_
        refine V_getE (x := Mx26 0 29) f dX9_statement_124 lf_9_123 rfl zm_0 rfl ?_
        refine V_bald f dX9_statement_127 zm_17 (tin (Kt_trans (Kt_trans (Kt_trans (Kt_refl (P := sP) hP) (b_s hk1)) (s_s hk24)) (b_s hk26)).1 (Kt_trans (Kt_trans (Kt_trans (Kt_refl (P := sP) hP) (b_s hk1)) (s_s hk24)) (b_s hk26)).1.2.2.1 (tne (Kt_trans (Kt_trans (Kt_trans (Kt_refl (P := sP) hP) (b_s hk1)) (s_s hk24)) (b_s hk26)).1 c27)) ?_
        refine V_bipush (v := 59) f dX9_statement_128 (by decide) ?_
        refine V_icmp_eq (tgt := 135) f dX9_statement_130 (by decide) (fun c28 => ?_) (fun c28 => ?_)
        · refine V_aload_n f dX9_statement_135 0 rfl ?_
          refine V_dup f dX9_statement_136 rfl ?_
          refine V_getE (x := Mx26 0 29) f dX9_statement_137 lf_9_123 rfl zm_0 rfl ?_
          refine V_iconst (v := 1) f dX9_statement_140 (by decide) ?_
          refine V_iadd f dX9_statement_141 ?_
          refine V_putI f dX9_statement_142 lf_9_123 lp_9_29 rfl rfl rfl rfl zm_0 ?_
          refine V_iconst (v := 1) f dX9_statement_145 (by decide) ?_
          exact V_iret f q dX9_statement_146 rfl (Nat.zero_le _) (Nat.zero_le _) ⟨rfl, rfl, ⟨1, rfl, Or.inr rfl⟩, (Kt_at (Kt_trans (Kt_trans (Kt_trans (Kt_refl (P := sP) hP) (b_s hk1)) (s_s hk24)) (b_s hk26)) s1 (tinc (Kt_trans (Kt_trans (Kt_trans (Kt_refl (P := sP) hP) (b_s hk1)) (s_s hk24)) (b_s hk26)) (Kt_trans (Kt_trans (Kt_trans (Kt_refl (P := sP) hP) (b_s hk1)) (s_s hk24)) (b_s hk26)).1.2.2.1 (tne (Kt_trans (Kt_trans (Kt_trans (Kt_refl (P := sP) hP) (b_s hk1)) (s_s hk24)) (b_s hk26)).1 c27)).1)⟩
        · refine V_iconst (v := 0) f dX9_statement_133 (by decide) ?_
          exact V_iret f q dX9_statement_134 rfl (Nat.zero_le _) (Nat.zero_le _) ⟨rfl, rfl, ⟨0, rfl, Or.inl rfl⟩, (Kt_trans (Kt_trans (Kt_trans (Kt_refl (P := sP) hP) (b_s hk1)) (s_s hk24)) (b_s hk26))⟩
    · refine V_iconst (v := 0) f dX9_statement_18 (by decide) ?_
      exact V_iret f q dX9_statement_19 rfl (Nat.zero_le _) (Nat.zero_le _) ⟨rfl, rfl, ⟨0, rfl, Or.inl rfl⟩, (Kt_trans (Kt_trans (Kt_refl (P := sP) hP) (b_s hk1)) (s_s hk24))⟩

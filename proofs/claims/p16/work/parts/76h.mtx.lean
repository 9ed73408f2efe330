set_option maxHeartbeats 4000000 in
set_option maxRecDepth 100000 in
theorem c4_X9_blanks (l : Launch) (D : va_G) (cy : Nat → ClassId) (X : va_W) (ad : Nat → Nat) (M : MT) (T : Nat → Int32) (N p : Nat) (hS : RSx T N M p) : CtP l yX9_blanks cX9_blanks 1 none (rK 0) D cy X ad ZM M [.ref (ad 0)] (fun v M1 => v = none ∧ Kt bP M M1 ∧ M1 0 29 = Int32.ofNat p) := by
  refine Ctr.of (by decide +kernel) (Nat.le_of_ble_eq_true rfl) ?_
  intro K f q hnm hl0 hD0 hy0 hX0
  show V K ad 0 0 ZM M 0 [(0, .ref (ad 0))] []
  have hl := RS_le hS
  have loop : ∀ (n a : Nat) (M1 : MT), Kt bP M M1 → (M1 0 29).toInt = (a : Int) → txsk T N a = p → a + n = N → V K ad 0 0 ZM M1 0 [(0, .ref (ad 0))] [] := by
    intro n
    induction n with
    | zero =>
      intro a M1 hK1 ha hs hn
      have hc := rs_c hS hK1 b17 ha
      refine V_aload_n f dX9_blanks_0 0 rfl ?_
      refine V_getE (x := M1 0 29) f dX9_blanks_1 lf_9_123 rfl zm_0 rfl ?_
      refine V_aload_n f dX9_blanks_4 0 rfl ?_
      refine V_getE (x := M1 0 28) f dX9_blanks_5 lf_9_126 rfl zm_0 rfl ?_
      refine V_icmp_ge (tgt := 52) f dX9_blanks_8 (by decide) (fun _ => ?_) (fun h => absurd (hc.1.mpr (by omega)) h)
      exact V_vret f q dX9_blanks_52 (Nat.zero_le _) (Nat.zero_le _) ⟨rfl, rfl, rfl, hK1, by rw [← hs, txsk_n (fun g => by omega)]; exact ofN_eq ha (by omega)⟩
    | succ n ih =>
      intro a M1 hK1 ha hs hn
      have hc := rs_c hS hK1 b17 ha
      have hby := hc.2 (by omega)
      have hlt : ¬ (M1 0 28) ≤ (M1 0 29) := fun g => by have := hc.1.mp g; omega
      refine V_aload_n f dX9_blanks_0 0 rfl ?_
      refine V_getE (x := M1 0 29) f dX9_blanks_1 lf_9_123 rfl zm_0 rfl ?_
      refine V_aload_n f dX9_blanks_4 0 rfl ?_
      refine V_getE (x := M1 0 28) f dX9_blanks_5 lf_9_126 rfl zm_0 rfl ?_
      refine V_icmp_ge (tgt := 52) f dX9_blanks_8 (by decide) (fun h => absurd h hlt) (fun _ => ?_)
      refine V_aload_n f dX9_blanks_11 0 rfl ?_
      refine V_getR f dX9_blanks_12 lf_9_60 rfl zm_0 rfl ?_
      refine V_aload_n f dX9_blanks_15 0 rfl ?_
      refine V_getE (x := M1 0 29) f dX9_blanks_16 lf_9_123 rfl zm_0 rfl ?_
      refine V_bald f dX9_blanks_19 zm_17 (tin hK1.1 hK1.1.2.2.1 hlt) ?_
      refine V_bipush (v := 32) f dX9_blanks_20 (by decide) ?_
      refine V_icmp_eq (tgt := 39) f dX9_blanks_22 (by decide) (fun c1 => ?_) (fun c1 => ?_)
      · refine V_aload_n f dX9_blanks_39 0 rfl ?_
        refine V_dup f dX9_blanks_40 rfl ?_
        refine V_getE (x := M1 0 29) f dX9_blanks_41 lf_9_123 rfl zm_0 rfl ?_
        refine V_iconst (v := 1) f dX9_blanks_44 (by decide) ?_
        refine V_iadd f dX9_blanks_45 ?_
        refine V_putI f dX9_blanks_46 lf_9_123 lp_9_29 rfl rfl rfl rfl zm_0 ?_
        refine V_goto (tgt := 0) f dX9_blanks_49 (by decide) ?_
        have q9 := tinc hK1 hK1.1.2.2.1 hlt
        exact ih (a + 1) _ (Kt_at hK1 b1 q9.1) (by rw [up_s]; omega) (by rw [← txsk_go (by omega) (bl_y hby (Or.inl c1))]; exact hs) (by omega)
      · refine V_aload_n f dX9_blanks_25 0 rfl ?_
        refine V_getR f dX9_blanks_26 lf_9_60 rfl zm_0 rfl ?_
        refine V_aload_n f dX9_blanks_29 0 rfl ?_
        refine V_getE (x := M1 0 29) f dX9_blanks_30 lf_9_123 rfl zm_0 rfl ?_
        refine V_bald f dX9_blanks_33 zm_17 (tin hK1.1 hK1.1.2.2.1 hlt) ?_
        refine V_bipush (v := 10) f dX9_blanks_34 (by decide) ?_
        refine V_icmp_ne (tgt := 52) f dX9_blanks_36 (by decide) (fun c2 => ?_) (fun c2 => ?_)
        · exact V_vret f q dX9_blanks_52 (Nat.zero_le _) (Nat.zero_le _) ⟨rfl, rfl, rfl, hK1, by rw [← hs, txsk_n (fun _ => bl_n hby c1 c2)]; exact ofN_eq ha (by omega)⟩
        · refine V_aload_n f dX9_blanks_39 0 rfl ?_
          refine V_dup f dX9_blanks_40 rfl ?_
          refine V_getE (x := M1 0 29) f dX9_blanks_41 lf_9_123 rfl zm_0 rfl ?_
          refine V_iconst (v := 1) f dX9_blanks_44 (by decide) ?_
          refine V_iadd f dX9_blanks_45 ?_
          refine V_putI f dX9_blanks_46 lf_9_123 lp_9_29 rfl rfl rfl rfl zm_0 ?_
          refine V_goto (tgt := 0) f dX9_blanks_49 (by decide) ?_
          have q9 := tinc hK1 hK1.1.2.2.1 hlt
          exact ih (a + 1) _ (Kt_at hK1 b1 q9.1) (by rw [up_s]; omega) (by rw [← txsk_go (by omega) (bl_y hby (Or.inr c2))]; exact hs) (by omega)
  obtain ⟨hP, h28, -, -, a0, ha0, hs0⟩ := id hS
  have hP3 := hP.2.2.2
  exact loop (N - a0) a0 M (Kt_refl hP) ha0 hs0 (by omega)
set_option maxHeartbeats 4000000 in
set_option maxRecDepth 100000 in
theorem c4_X9_word (l : Launch) (D : va_G) (cy : Nat → ClassId) (X : va_W) (ad : Nat → Nat) (M : MT) (T : Nat → Int32) (N p : Nat) (hS : RSx T N M p) : CtP l yX9_word cX9_word 3 (some .long) (rK 1) D cy X ad ZM M [.ref (ad 0)] (fun v M1 => v = some (.long (w64 T p (txln T N p - p))) ∧ Kt bP M M1 ∧ M1 0 29 = Int32.ofNat p ∧ M1 0 43 = Int32.ofNat (txln T N p)) := by
  refine Ctr.of (by decide +kernel) (Nat.le_of_ble_eq_true rfl) ?_
  intro K f q hnm hl0 hD0 hy0 hX0
  show V K ad 0 0 ZM M 0 [(0, .ref (ad 0))] []
  have hl := RS_le hS
  have loop : ∀ (n k : Nat) (M1 : MT) (u : Int64), Kt bP M M1 → M1 0 29 = Int32.ofNat p → (M1 0 43).toInt = ((p + k : Nat) : Int) → (∀ j, j < k → txL (T (p + j)) = true) → u = w64 T p k → p + k + n = N → V K ad 0 0 ZM M1 14 [(1, .long u), (0, .ref (ad 0))] [] := by
    intro n
    have d7 : ∀ (M1 : MT) (k : Nat), p + k ≤ N → M1 0 29 = Int32.ofNat p → (M1 0 43).toInt = ((p + k : Nat) : Int) → ((M1 0 43) - (M1 0 29)).toInt = (k : Int) := fun M1 k hk e h => by rw [Int32.toInt_sub, h, e, ofN_toInt (by omega), Int.bmod_eq_of_le (by omega) (by omega)]; omega
    induction n with
    | zero =>
      intro k M1 u hK1 e29 h43 hL hu hn
      have hc := rs_c hS hK1 b17 h43
      have hd := d7 M1 k (by omega) e29 h43
      have hln : txln T N p = p + k := txR_is (P := fun k => txL (T k)) k p (p + k) rfl (by omega) (fun j a b => by have := hL (j - p) (by omega); rw [show p + (j - p) = j by omega] at this; exact this) (fun g => by omega)
      refine V_aload_n f dX9_word_14 1 rfl ?_
      refine V_getE (x := M1 0 43) f dX9_word_15 lf_9_132 rfl zm_0 rfl ?_
      refine V_aload_n f dX9_word_18 1 rfl ?_
      refine V_getE (x := M1 0 28) f dX9_word_19 lf_9_126 rfl zm_0 rfl ?_
      refine V_icmp_ge (tgt := 100) f dX9_word_22 (by decide) (fun _ => ?_) (fun h => absurd (hc.1.mpr (by omega)) h)
      refine V_aload_n f dX9_word_100 1 rfl ?_
      refine V_getE (x := M1 0 43) f dX9_word_101 lf_9_132 rfl zm_0 rfl ?_
      refine V_aload_n f dX9_word_104 1 rfl ?_
      refine V_getE (x := M1 0 29) f dX9_word_105 lf_9_123 rfl zm_0 rfl ?_
      refine V_isub f dX9_word_108 ?_
      refine V_bipush (v := 7) f dX9_word_109 (by decide) ?_
      refine V_icmp_le (tgt := 118) f dX9_word_111 (by decide) (fun c2 => ?_) (fun c2 => ?_)
      · refine V_lload_n f dX9_word_118 0 rfl ?_
        exact V_lret f q dX9_word_119 (Nat.zero_le _) (Nat.zero_le _) ⟨rfl, rfl, by rw [hln, show p + k - p = k by omega, ← hu], hK1, e29, by rw [hln]; exact ofN_eq h43 (by omega)⟩
      · refine V_lconst (v := 0) f dX9_word_114 (by decide) ?_
        refine V_goto (tgt := 119) f dX9_word_115 (by decide) ?_
        exact V_lret f q dX9_word_119 (Nat.zero_le _) (Nat.zero_le _) ⟨rfl, rfl, by rw [hln, show p + k - p = k by omega, ← (w64_e (fun g => c2 (by rw [Int32.le_iff_toInt_le, hd, show (7 : Int32).toInt = 7 by decide]; omega)))], hK1, e29, by rw [hln]; exact ofN_eq h43 (by omega)⟩
    | succ n ih =>
      intro k M1 u hK1 e29 h43 hL hu hn
      have hc := rs_c hS hK1 b17 h43
      have hd := d7 M1 k (by omega) e29 h43
      have hby := hc.2 (by omega)
      have hlt : ¬ (M1 0 28) ≤ (M1 0 43) := fun g => by have := hc.1.mp g; omega
      have hln : ¬ txL (T (p + k)) = true → txln T N p = p + k := fun hno => txR_is (P := fun k => txL (T k)) k p (p + k) rfl (by omega) (fun j a b => by have := hL (j - p) (by omega); rw [show p + (j - p) = j by omega] at this; exact this) (fun _ => hno)
      refine V_aload_n f dX9_word_14 1 rfl ?_
      refine V_getE (x := M1 0 43) f dX9_word_15 lf_9_132 rfl zm_0 rfl ?_
      refine V_aload_n f dX9_word_18 1 rfl ?_
      refine V_getE (x := M1 0 28) f dX9_word_19 lf_9_126 rfl zm_0 rfl ?_
      refine V_icmp_ge (tgt := 100) f dX9_word_22 (by decide) (fun h => absurd h hlt) (fun _ => ?_)
      refine V_aload_n f dX9_word_25 1 rfl ?_
      refine V_getR f dX9_word_26 lf_9_60 rfl zm_0 rfl ?_
      refine V_aload_n f dX9_word_29 1 rfl ?_
      refine V_getE (x := M1 0 43) f dX9_word_30 lf_9_132 rfl zm_0 rfl ?_
      refine V_bald f dX9_word_33 zm_17 (tin hK1.1 (by omega) hlt) ?_
      refine V_bipush (v := 97) f dX9_word_34 (by decide) ?_
      refine V_icmp_lt (tgt := 100) f dX9_word_36 (by decide) (fun c3 => ?_) (fun c3 => ?_)
      · refine V_aload_n f dX9_word_100 1 rfl ?_
        refine V_getE (x := M1 0 43) f dX9_word_101 lf_9_132 rfl zm_0 rfl ?_
        refine V_aload_n f dX9_word_104 1 rfl ?_
        refine V_getE (x := M1 0 29) f dX9_word_105 lf_9_123 rfl zm_0 rfl ?_
        refine V_isub f dX9_word_108 ?_
        refine V_bipush (v := 7) f dX9_word_109 (by decide) ?_
        refine V_icmp_le (tgt := 118) f dX9_word_111 (by decide) (fun c4 => ?_) (fun c4 => ?_)
        · refine V_lload_n f dX9_word_118 0 rfl ?_
          exact V_lret f q dX9_word_119 (Nat.zero_le _) (Nat.zero_le _) ⟨rfl, rfl, by rw [(hln (le_n hby (Or.inl c3))), show p + k - p = k by omega, ← hu], hK1, e29, by rw [(hln (le_n hby (Or.inl c3)))]; exact ofN_eq h43 (by omega)⟩
        · refine V_lconst (v := 0) f dX9_word_114 (by decide) ?_
          refine V_goto (tgt := 119) f dX9_word_115 (by decide) ?_
          exact V_lret f q dX9_word_119 (Nat.zero_le _) (Nat.zero_le _) ⟨rfl, rfl, by rw [(hln (le_n hby (Or.inl c3))), show p + k - p = k by omega, ← (w64_e (fun g => c4 (by rw [Int32.le_iff_toInt_le, hd, show (7 : Int32).toInt = 7 by decide]; omega)))], hK1, e29, by rw [(hln (le_n hby (Or.inl c3)))]; exact ofN_eq h43 (by omega)⟩
      · refine V_aload_n f dX9_word_39 1 rfl ?_
        refine V_getR f dX9_word_40 lf_9_60 rfl zm_0 rfl ?_
        refine V_aload_n f dX9_word_43 1 rfl ?_
        refine V_getE (x := M1 0 43) f dX9_word_44 lf_9_132 rfl zm_0 rfl ?_
        refine V_bald f dX9_word_47 zm_17 (tin hK1.1 (by omega) hlt) ?_
        refine V_bipush (v := 122) f dX9_word_48 (by decide) ?_
        refine V_icmp_gt (tgt := 100) f dX9_word_50 (by decide) (fun c5 => ?_) (fun c5 => ?_)
        · refine V_aload_n f dX9_word_100 1 rfl ?_
          refine V_getE (x := M1 0 43) f dX9_word_101 lf_9_132 rfl zm_0 rfl ?_
          refine V_aload_n f dX9_word_104 1 rfl ?_
          refine V_getE (x := M1 0 29) f dX9_word_105 lf_9_123 rfl zm_0 rfl ?_
          refine V_isub f dX9_word_108 ?_
          refine V_bipush (v := 7) f dX9_word_109 (by decide) ?_
          refine V_icmp_le (tgt := 118) f dX9_word_111 (by decide) (fun c6 => ?_) (fun c6 => ?_)
          · refine V_lload_n f dX9_word_118 0 rfl ?_
            exact V_lret f q dX9_word_119 (Nat.zero_le _) (Nat.zero_le _) ⟨rfl, rfl, by rw [(hln (le_n hby (Or.inr c5))), show p + k - p = k by omega, ← hu], hK1, e29, by rw [(hln (le_n hby (Or.inr c5)))]; exact ofN_eq h43 (by omega)⟩
          · refine V_lconst (v := 0) f dX9_word_114 (by decide) ?_
            refine V_goto (tgt := 119) f dX9_word_115 (by decide) ?_
            exact V_lret f q dX9_word_119 (Nat.zero_le _) (Nat.zero_le _) ⟨rfl, rfl, by rw [(hln (le_n hby (Or.inr c5))), show p + k - p = k by omega, ← (w64_e (fun g => c6 (by rw [Int32.le_iff_toInt_le, hd, show (7 : Int32).toInt = 7 by decide]; omega)))], hK1, e29, by rw [(hln (le_n hby (Or.inr c5)))]; exact ofN_eq h43 (by omega)⟩
        · refine V_aload_n f dX9_word_53 1 rfl ?_
          refine V_getE (x := M1 0 43) f dX9_word_54 lf_9_132 rfl zm_0 rfl ?_
          refine V_aload_n f dX9_word_57 1 rfl ?_
          refine V_getE (x := M1 0 29) f dX9_word_58 lf_9_123 rfl zm_0 rfl ?_
          refine V_isub f dX9_word_61 ?_
          refine V_bipush (v := 7) f dX9_word_62 (by decide) ?_
          refine V_icmp_ge (tgt := 85) f dX9_word_64 (by decide) (fun c7 => ?_) (fun c7 => ?_)
          · refine V_lconst (v := 0) f dX9_word_85 (by decide) ?_
            refine V_lstore_n f dX9_word_86 rfl (by decide) rfl ?_
            refine V_aload_n f dX9_word_87 1 rfl ?_
            refine V_dup f dX9_word_88 rfl ?_
            refine V_getE (x := M1 0 43) f dX9_word_89 lf_9_132 rfl zm_0 rfl ?_
            refine V_iconst (v := 1) f dX9_word_92 (by decide) ?_
            refine V_iadd f dX9_word_93 ?_
            refine V_putI f dX9_word_94 lf_9_132 lp_9_43 rfl rfl rfl rfl zm_0 ?_
            refine V_goto (tgt := 14) f dX9_word_97 (by decide) ?_
            have q9 := tinc hK1 (by omega) hlt
            have hy := le_y hby c3 c5
            exact ih (k + 1) _ _ (Kt_wn hK1 b1 (by decide) _) ((up_k (by decide) rfl).trans e29) (by rw [up_s]; omega) (ltS (P := fun j => txL (T (p + j)) = true) hL hy.1) (w64_n (fun g => by have g9 := c7; rw [Int32.le_iff_toInt_le, hd, show (7 : Int32).toInt = 7 by decide] at g9; omega)) (by omega)
          · refine V_lload_n f dX9_word_67 0 rfl ?_
            refine V_bipush (v := 8) f dX9_word_68 (by decide) ?_
            refine V_lshl f dX9_word_70 ?_
            refine V_aload_n f dX9_word_71 1 rfl ?_
            refine V_getR f dX9_word_72 lf_9_60 rfl zm_0 rfl ?_
            refine V_aload_n f dX9_word_75 1 rfl ?_
            refine V_getE (x := M1 0 43) f dX9_word_76 lf_9_132 rfl zm_0 rfl ?_
            refine V_bald f dX9_word_79 zm_17 (tin hK1.1 (by omega) hlt) ?_
            refine V_i2l f dX9_word_80 ?_
            refine V_lor f dX9_word_81 ?_
            refine V_goto (tgt := 86) f dX9_word_82 (by decide) ?_
            refine V_lstore_n f dX9_word_86 rfl (by decide) rfl ?_
            refine V_aload_n f dX9_word_87 1 rfl ?_
            refine V_dup f dX9_word_88 rfl ?_
            refine V_getE (x := M1 0 43) f dX9_word_89 lf_9_132 rfl zm_0 rfl ?_
            refine V_iconst (v := 1) f dX9_word_92 (by decide) ?_
            refine V_iadd f dX9_word_93 ?_
            refine V_putI f dX9_word_94 lf_9_132 lp_9_43 rfl rfl rfl rfl zm_0 ?_
            refine V_goto (tgt := 14) f dX9_word_97 (by decide) ?_
            have q9 := tinc hK1 (by omega) hlt
            have hy := le_y hby c3 c5
            exact ih (k + 1) _ _ (Kt_wn hK1 b1 (by decide) _) ((up_k (by decide) rfl).trans e29) (by rw [up_s]; omega) (ltS (P := fun j => txL (T (p + j)) = true) hL hy.1) (by rw [hu]; exact (w64_y (by have g := c7; rw [Int32.le_iff_toInt_le, hd, show (7 : Int32).toInt = 7 by decide] at g; omega) hy.2 (by rw [← hy.2]; exact hy.1) hL)) (by omega)
  refine V_aload_n f dX9_word_0 0 rfl ?_
  refine V_cVp (As := []) (rest := []) f dX9_word_1 lk_X9_129 ml_X9_129 ins_X9_blanks sel_X9_blanks zm_0 (by decide) rfl (c4_X9_blanks _ _ _ _ ad M T N p hS) rfl (Nat.le_of_ble_eq_true rfl) rfl ⟨by decide, by decide⟩ ⟨Nat.zero_le _, Nat.zero_le _⟩ rfl rfl (fun v1 Mx1 hp1 => ?_)
  obtain ⟨rfl, hk1, e1⟩ := hp1
  have kR1 : Kt bP M Mx1 := Kt_trans (Kt_refl (P := bP) hS.1) (b_b hk1)
  have kC1 : RSx T N Mx1 p := (RS_st hS hk1 b17 e1)
  show V K ad 0 0 ZM Mx1 4 [(0, .ref (ad 0))] []
  refine V_aload_n f dX9_word_4 0 rfl ?_
  refine V_aload_n f dX9_word_5 0 rfl ?_
  refine V_getE (x := Mx1 0 29) f dX9_word_6 lf_9_123 rfl zm_0 rfl ?_
  refine V_putI f dX9_word_9 lf_9_132 lp_9_43 rfl rfl rfl rfl zm_0 ?_
  refine V_lconst (v := 0) f dX9_word_12 (by decide) ?_
  refine V_lstore_n f dX9_word_13 rfl (by decide) rfl ?_
  have h9 : up2 Mx1 0 43 (Mx1 0 29) 0 29 = Int32.ofNat p := (up_k (by decide) rfl).trans e1
  exact loop (N - p) 0 _ 0 (Kt_wn hk1 b1 (by decide) _) h9 (by rw [up_s, e1]; exact ofN_toInt (by omega)) (fun j hj => absurd hj (Nat.not_lt_zero j)) (w64_0 T p) (by omega)
set_option maxHeartbeats 4000000 in
set_option maxRecDepth 100000 in
theorem c4_X9_takes (l : Launch) (D : va_G) (cy : Nat → ClassId) (X : va_W) (ad : Nat → Nat) (M : MT) (w : Int64) (T : Nat → Int32) (N p : Nat) (hS : RSx T N M p) (d : Nat) (a : Int32) (hd : d < 14) (hw : w = Int64.ofNat (kWd d)) (ha : a = Int32.ofNat (d + 1)) : CtP l yX9_takes cX9_takes 3 (some .boolean) (rK 2) D cy X ad ZM M [.ref (ad 0), .long w] (fun v M1 => (txtc T N p ∈ [a] ∧ v = some (.int 1) ∧ Kt bP M M1 ∧ M1 0 29 = Int32.ofNat (txte T N p)) ∨ (¬ txtc T N p ∈ [a] ∧ v = some (.int 0) ∧ Kt bP M M1 ∧ M1 0 29 = Int32.ofNat p)) := by
  refine Ctr.of (by decide +kernel) (Nat.le_of_ble_eq_true rfl) ?_
  intro K f q hnm hl0 hD0 hy0 hX0
  show V K ad 0 0 ZM M 0 [(0, .ref (ad 0)), (1, .long w)] []
  refine V_aload_n f dX9_takes_0 0 rfl ?_
  refine V_cVp (As := []) (rest := []) f dX9_takes_1 lk_X9_135 ml_X9_135 ins_X9_word sel_X9_word zm_0 (by decide) rfl (c4_X9_word _ _ _ _ ad M T N p hS) rfl (Nat.le_of_ble_eq_true rfl) rfl ⟨by decide, by decide⟩ ⟨Nat.zero_le _, Nat.zero_le _⟩ rfl rfl (fun v1 Mx1 hp1 => ?_)
  obtain ⟨rfl, hk1, e1, e43_1⟩ := hp1
  have kR1 : Kt bP M Mx1 := Kt_trans (Kt_refl (P := bP) hS.1) (b_b hk1)
  have kC1 : RSx T N Mx1 p := (RS_st hS hk1 b17 e1)
  show V K ad 0 0 ZM Mx1 4 [(0, .ref (ad 0)), (1, .long w)] [.long (w64 T p (txln T N p - p))]
  refine V_lload_n f dX9_takes_4 1 rfl ?_
  refine V_lcmp f dX9_takes_5 ?_
  refine V_if_eq (tgt := 11) f dX9_takes_6 (by decide) (fun c2 => ?_) (fun c2 => ?_)
  · refine V_aload_n f dX9_takes_11 0 rfl ?_
    refine V_aload_n f dX9_takes_12 0 rfl ?_
    refine V_getE (x := Mx1 0 43) f dX9_takes_13 lf_9_132 rfl zm_0 rfl ?_
    refine V_putI f dX9_takes_16 lf_9_123 lp_9_29 rfl rfl rfl rfl zm_0 ?_
    refine V_iconst (v := 1) f dX9_takes_19 (by decide) ?_
    exact V_iret f q dX9_takes_20 rfl (Nat.zero_le _) (Nat.zero_le _) ⟨rfl, rfl, Or.inl ⟨List.mem_singleton.mpr (ha ▸ (wd_c (RS_le hS).1 hd hw).mp c2), rfl, Kt_at hk1 b1 (kt_b hS e43_1 (txR_s (P := fun k => txL (T k)) (RS_le hS).1).2.1), by rw [up_s, (te_w hd ((wd_c (RS_le hS).1 hd hw).mp c2)).1]; exact e43_1⟩⟩
  · refine V_iconst (v := 0) f dX9_takes_9 (by decide) ?_
    exact V_iret f q dX9_takes_10 rfl (Nat.zero_le _) (Nat.zero_le _) ⟨rfl, rfl, Or.inr ⟨fun g => c2 ((wd_c (RS_le hS).1 hd hw).mpr (ha ▸ List.mem_singleton.mp g)), rfl, hk1, e1⟩⟩
set_option maxHeartbeats 4000000 in
set_option maxRecDepth 100000 in
theorem c4_X9_takesNumber (l : Launch) (D : va_G) (cy : Nat → ClassId) (X : va_W) (ad : Nat → Nat) (M : MT) (T : Nat → Int32) (N p : Nat) (hS : RSx T N M p) : CtP l yX9_takesNumber cX9_takesNumber 2 (some .boolean) (rK 1) D cy X ad ZM M [.ref (ad 0)] (fun v M1 => (txtc T N p ∈ [15] ∧ v = some (.int 1) ∧ Kt bP M M1 ∧ M1 0 29 = Int32.ofNat (txte T N p) ∧ M1 0 44 = txtv T N p) ∨ (¬ txtc T N p ∈ [15] ∧ v = some (.int 0) ∧ Kt bP M M1 ∧ M1 0 29 = Int32.ofNat p)) := by
  refine Ctr.of (by decide +kernel) (Nat.le_of_ble_eq_true rfl) ?_
  intro K f q hnm hl0 hD0 hy0 hX0
  show V K ad 0 0 ZM M 0 [(0, .ref (ad 0))] []
  have hl := RS_le hS
  have d4 : ∀ (M1 : MT) (x : Int32) (k : Nat), p + k ≤ N → M1 0 29 = Int32.ofNat p → x.toInt = ((p + k : Nat) : Int) → (x - (M1 0 29)).toInt = (k : Int) := fun M1 x k hk e h => by rw [Int32.toInt_sub, h, e, ofN_toInt (by omega), Int.bmod_eq_of_le (by omega) (by omega)]; omega
  have fin : ∀ (k : Nat) (M1 : MT) (x : Int32), Kt bP M M1 → M1 0 29 = Int32.ofNat p → x.toInt = ((p + k : Nat) : Int) → (∀ j, j < k → txD (T (p + j)) = true) → M1 0 44 = txnF T p (if k ≤ 4 then k else 4) → p + k ≤ N → txdn T N p = p + k → V K ad 0 0 ZM M1 81 [(1, .int x), (0, .ref (ad 0))] [] := by
    intro k M1 x hK1 e29 hx hL h44 hn hdn
    have hd := d4 M1 x k hn e29 hx
    have e4 : (4 : Int32).toInt = 4 := by decide
    have hxe : x = (M1 0 29) ↔ k = 0 := by rw [← Int32.toInt_inj, e29, ofN_toInt (by omega), hx]; omega
    have h15 : txtc T N p = 15 ↔ (0 < k ∧ k ≤ 4) := by
      refine ⟨fun g => ?_, fun g => ?_⟩
      · obtain ⟨g1, g2, g3⟩ := txtc_15 g
        have := txR_gt (P := fun k => txD (T k)) g1 g2
        unfold txdn at hdn g3
        omega
      · rw [txtc_D (T := T) (N := N) (p := p) (by omega) (hL 0 g.1), if_pos (by omega)]
    have hte : 0 < k → txte T N p = p + k := fun g => by rw [txte_D (T := T) (N := N) (p := p) (by omega) (hL 0 g)]; exact hdn
    refine V_iload_n f dX9_takesNumber_81 0 rfl ?_
    refine V_aload_n f dX9_takesNumber_82 1 rfl ?_
    refine V_getE (x := M1 0 29) f dX9_takesNumber_83 lf_9_123 rfl zm_0 rfl ?_
    refine V_icmp_eq (tgt := 99) f dX9_takesNumber_86 (by decide) (fun c2 => ?_) (fun c2 => ?_)
    · refine V_iconst (v := 0) f dX9_takesNumber_99 (by decide) ?_
      exact V_iret f q dX9_takesNumber_100 rfl (Nat.zero_le _) (Nat.zero_le _) ⟨rfl, rfl, Or.inr ⟨fun g => by have g9 := h15.mp (List.mem_singleton.mp g); exact absurd g9 (by have := hxe.mp c2; omega), rfl, hK1, e29⟩⟩
    · refine V_iload_n f dX9_takesNumber_89 0 rfl ?_
      refine V_aload_n f dX9_takesNumber_90 1 rfl ?_
      refine V_getE (x := M1 0 29) f dX9_takesNumber_91 lf_9_123 rfl zm_0 rfl ?_
      refine V_isub f dX9_takesNumber_94 ?_
      refine V_iconst (v := 4) f dX9_takesNumber_95 (by decide) ?_
      refine V_icmp_le (tgt := 101) f dX9_takesNumber_96 (by decide) (fun c3 => ?_) (fun c3 => ?_)
      · refine V_aload_n f dX9_takesNumber_101 1 rfl ?_
        refine V_iload_n f dX9_takesNumber_102 0 rfl ?_
        refine V_putI f dX9_takesNumber_103 lf_9_123 lp_9_29 rfl rfl rfl rfl zm_0 ?_
        refine V_iconst (v := 1) f dX9_takesNumber_106 (by decide) ?_
        exact V_iret f q dX9_takesNumber_107 rfl (Nat.zero_le _) (Nat.zero_le _) ⟨rfl, rfl, Or.inl ⟨List.mem_singleton.mpr (h15.mpr (show 0 < k ∧ k ≤ 4 by have g := c3; rw [Int32.le_iff_toInt_le, hd, e4] at g; exact ⟨Nat.pos_of_ne_zero (fun q => c2 (hxe.mpr q)), by omega⟩)), rfl, Kt_at hK1 b1 (by rw [hS.2.1]; omega), by rw [up_s, hte (show 0 < k ∧ k ≤ 4 by have g := c3; rw [Int32.le_iff_toInt_le, hd, e4] at g; exact ⟨Nat.pos_of_ne_zero (fun q => c2 (hxe.mpr q)), by omega⟩).1]; exact ofN_eq hx (by omega), by rw [up_k (by decide) rfl, h44, if_pos (show 0 < k ∧ k ≤ 4 by have g := c3; rw [Int32.le_iff_toInt_le, hd, e4] at g; exact ⟨Nat.pos_of_ne_zero (fun q => c2 (hxe.mpr q)), by omega⟩).2]; unfold txtv; rw [if_pos (h15.mpr (show 0 < k ∧ k ≤ 4 by have g := c3; rw [Int32.le_iff_toInt_le, hd, e4] at g; exact ⟨Nat.pos_of_ne_zero (fun q => c2 (hxe.mpr q)), by omega⟩)), hdn, show p + k - p = k by omega]⟩⟩
      · refine V_iconst (v := 0) f dX9_takesNumber_99 (by decide) ?_
        exact V_iret f q dX9_takesNumber_100 rfl (Nat.zero_le _) (Nat.zero_le _) ⟨rfl, rfl, Or.inr ⟨fun g => by have g9 := h15.mp (List.mem_singleton.mp g); exact absurd g9 (by have q9 := c3; rw [Int32.le_iff_toInt_le, hd, e4] at q9; omega), rfl, hK1, e29⟩⟩
  have loop : ∀ (n k : Nat) (M1 : MT) (x : Int32), Kt bP M M1 → M1 0 29 = Int32.ofNat p → x.toInt = ((p + k : Nat) : Int) → (∀ j, j < k → txD (T (p + j)) = true) → M1 0 44 = txnF T p (if k ≤ 4 then k else 4) → p + k + n = N → V K ad 0 0 ZM M1 14 [(1, .int x), (0, .ref (ad 0))] [] := by
    intro n
    induction n with
    | zero =>
      intro k M1 x hK1 e29 hx hL h44 hn
      have hc := rs_c hS hK1 b17 hx
      have hdn : txdn T N p = p + k := txR_is (P := fun k => txD (T k)) k p (p + k) rfl (by omega) (fun j a b => by have := hL (j - p) (by omega); rw [show p + (j - p) = j by omega] at this; exact this) (fun g => by omega)
      refine V_iload_n f dX9_takesNumber_14 0 rfl ?_
      refine V_aload_n f dX9_takesNumber_15 1 rfl ?_
      refine V_getE (x := M1 0 28) f dX9_takesNumber_16 lf_9_126 rfl zm_0 rfl ?_
      refine V_icmp_ge (tgt := 81) f dX9_takesNumber_19 (by decide) (fun _ => ?_) (fun h => absurd (hc.1.mpr (by omega)) h)
      exact fin k M1 x hK1 e29 hx hL h44 (by omega) hdn
    | succ n ih =>
      intro k M1 x hK1 e29 hx hL h44 hn
      have hc := rs_c hS hK1 b17 hx
      have hd := d4 M1 x k (by omega) e29 hx
      have hby := hc.2 (by omega)
      have hlt : ¬ (M1 0 28) ≤ x := fun g => by have := hc.1.mp g; omega
      have hdn : ¬ txD (T (p + k)) = true → txdn T N p = p + k := fun hno => txR_is (P := fun k => txD (T k)) k p (p + k) rfl (by omega) (fun j a b => by have := hL (j - p) (by omega); rw [show p + (j - p) = j by omega] at this; exact this) (fun g => hno)
      refine V_iload_n f dX9_takesNumber_14 0 rfl ?_
      refine V_aload_n f dX9_takesNumber_15 1 rfl ?_
      refine V_getE (x := M1 0 28) f dX9_takesNumber_16 lf_9_126 rfl zm_0 rfl ?_
      refine V_icmp_ge (tgt := 81) f dX9_takesNumber_19 (by decide) (fun h => absurd h hlt) (fun _ => ?_)
      refine V_aload_n f dX9_takesNumber_22 1 rfl ?_
      refine V_getR f dX9_takesNumber_23 lf_9_60 rfl zm_0 rfl ?_
      refine V_iload_n f dX9_takesNumber_26 0 rfl ?_
      refine V_bald f dX9_takesNumber_27 zm_17 (tin hK1.1 (by omega) hlt) ?_
      refine V_bipush (v := 48) f dX9_takesNumber_28 (by decide) ?_
      refine V_icmp_lt (tgt := 81) f dX9_takesNumber_30 (by decide) (fun c4 => ?_) (fun c4 => ?_)
      · exact fin k M1 x hK1 e29 hx hL h44 (by omega) (hdn (di_n hby (Or.inl c4)))
      · refine V_aload_n f dX9_takesNumber_33 1 rfl ?_
        refine V_getR f dX9_takesNumber_34 lf_9_60 rfl zm_0 rfl ?_
        refine V_iload_n f dX9_takesNumber_37 0 rfl ?_
        refine V_bald f dX9_takesNumber_38 zm_17 (tin hK1.1 (by omega) hlt) ?_
        refine V_bipush (v := 57) f dX9_takesNumber_39 (by decide) ?_
        refine V_icmp_gt (tgt := 81) f dX9_takesNumber_41 (by decide) (fun c5 => ?_) (fun c5 => ?_)
        · exact fin k M1 x hK1 e29 hx hL h44 (by omega) (hdn (di_n hby (Or.inr c5)))
        · refine V_iload_n f dX9_takesNumber_44 0 rfl ?_
          refine V_aload_n f dX9_takesNumber_45 1 rfl ?_
          refine V_getE (x := M1 0 29) f dX9_takesNumber_46 lf_9_123 rfl zm_0 rfl ?_
          refine V_isub f dX9_takesNumber_49 ?_
          refine V_iconst (v := 4) f dX9_takesNumber_50 (by decide) ?_
          refine V_icmp_ge (tgt := 75) f dX9_takesNumber_51 (by decide) (fun c6 => ?_) (fun c6 => ?_)
          · refine V_iinc (v := x + 1) f dX9_takesNumber_75 0 rfl rfl (by decide) rfl ?_
            refine V_goto (tgt := 14) f dX9_takesNumber_78 (by decide) ?_
            have q9 := tinc hK1 (by omega) hlt
            have hy := di_y hby c4 c5
            have g4 := c6
            rw [Int32.le_iff_toInt_le, hd, show (4 : Int32).toInt = 4 by decide] at g4
            exact ih (k + 1) _ (x + 1) hK1 e29 (by omega) (ltS (P := fun j => txD (T (p + j)) = true) hL hy.1) (by rw [h44, n4 (by omega), if_neg (show ¬ k + 1 ≤ 4 by omega)]) (by omega)
          · refine V_aload_n f dX9_takesNumber_54 1 rfl ?_
            refine V_bipush (v := 10) f dX9_takesNumber_55 (by decide) ?_
            refine V_aload_n f dX9_takesNumber_57 1 rfl ?_
            refine V_getE (x := M1 0 44) f dX9_takesNumber_58 lf_9_139 rfl zm_0 rfl ?_
            refine V_imul f dX9_takesNumber_61 ?_
            refine V_aload_n f dX9_takesNumber_62 1 rfl ?_
            refine V_getR f dX9_takesNumber_63 lf_9_60 rfl zm_0 rfl ?_
            refine V_iload_n f dX9_takesNumber_66 0 rfl ?_
            refine V_bald f dX9_takesNumber_67 zm_17 (tin hK1.1 (by omega) hlt) ?_
            refine V_iadd f dX9_takesNumber_68 ?_
            refine V_bipush (v := 48) f dX9_takesNumber_69 (by decide) ?_
            refine V_isub f dX9_takesNumber_71 ?_
            refine V_putI f dX9_takesNumber_72 lf_9_139 lp_9_44 rfl rfl rfl rfl zm_0 ?_
            refine V_iinc (v := x + 1) f dX9_takesNumber_75 0 rfl rfl (by decide) rfl ?_
            refine V_goto (tgt := 14) f dX9_takesNumber_78 (by decide) ?_
            have q9 := tinc hK1 (by omega) hlt
            have hy := di_y hby c4 c5
            have g4 := c6
            rw [Int32.le_iff_toInt_le, hd, show (4 : Int32).toInt = 4 by decide] at g4
            exact ih (k + 1) _ (x + 1) (Kt_wn hK1 b1 (by decide) _) ((up_k (by decide) rfl).trans e29) (by omega) (ltS (P := fun j => txD (T (p + j)) = true) hL hy.1) (by rw [up_s, h44, if_pos (by omega), if_pos (by omega), ← hy.2]; rfl) (by omega)
  refine V_aload_n f dX9_takesNumber_0 0 rfl ?_
  refine V_cVp (As := []) (rest := []) f dX9_takesNumber_1 lk_X9_129 ml_X9_129 ins_X9_blanks sel_X9_blanks zm_0 (by decide) rfl (c4_X9_blanks _ _ _ _ ad M T N p hS) rfl (Nat.le_of_ble_eq_true rfl) rfl ⟨by decide, by decide⟩ ⟨Nat.zero_le _, Nat.zero_le _⟩ rfl rfl (fun v1 Mx1 hp1 => ?_)
  obtain ⟨rfl, hk1, e1⟩ := hp1
  have kR1 : Kt bP M Mx1 := Kt_trans (Kt_refl (P := bP) hS.1) (b_b hk1)
  have kC1 : RSx T N Mx1 p := (RS_st hS hk1 b17 e1)
  show V K ad 0 0 ZM Mx1 4 [(0, .ref (ad 0))] []
  refine V_aload_n f dX9_takesNumber_4 0 rfl ?_
  refine V_getE (x := Mx1 0 29) f dX9_takesNumber_5 lf_9_123 rfl zm_0 rfl ?_
  refine V_istore_n f dX9_takesNumber_8 rfl (by decide) rfl ?_
  refine V_aload_n f dX9_takesNumber_9 1 rfl ?_
  refine V_iconst (v := 0) f dX9_takesNumber_10 (by decide) ?_
  refine V_putI f dX9_takesNumber_11 lf_9_139 lp_9_44 rfl rfl rfl rfl zm_0 ?_
  exact loop (N - p) 0 _ _ (Kt_wn hk1 b1 (by decide) _) ((up_k (by decide) rfl).trans e1) (by rw [e1]; exact ofN_toInt (by omega)) (fun j hj => absurd hj (Nat.not_lt_zero j)) up_s (by omega)

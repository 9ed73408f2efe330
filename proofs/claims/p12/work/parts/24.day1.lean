theorem frB_weather {M : MT} (h : FrB M) {b : Nat} (hb : b < 16) (x y z : Int32) : FrB (s1_X0_weather M (28 + b) x y z) := by
  have key : ∀ i k : Nat, i < 28 → s1_X0_weather M (28 + b) x y z i k = M i k := by
    intro i k hi
    simp only [s1_X0_weather, up2, va_up]
    rw [if_neg (by omega), if_neg (by omega)]
  have kb : ∀ c k : Nat, c < 16 → k < 7 → s1_X0_weather M (28 + b) x y z (28 + c) k = M (28 + c) k := by
    intro c k hc hk
    simp only [s1_X0_weather, up2, va_up]
    by_cases h1 : c = b
    · subst h1
      by_cases h5 : k = 5
      · subst h5; simp [va_up, frb_5 h hc]
      · by_cases h4 : k = 4
        · subst h4; simp [va_up, frb_4 h hc]
        · simp [va_up, h4, h5]
    · rw [if_neg (by omega), if_neg (by omega)]
  obtain ⟨h0, h1, h2, h3, h4, h5, h6, h7, h8, h9, h10, h11, h12, h13, h14, h15, h16, hz⟩ := id h
  exact ⟨(key _ _ (by decide)).trans h0, (key _ _ (by decide)).trans h1, (key _ _ (by decide)).trans h2, (key _ _ (by decide)).trans h3, (key _ _ (by decide)).trans h4, (key _ _ (by decide)).trans h5, (key _ _ (by decide)).trans h6, (key _ _ (by decide)).trans h7, (key _ _ (by decide)).trans h8, (key _ _ (by decide)).trans h9, (key _ _ (by decide)).trans h10, (key _ _ (by decide)).trans h11, (key _ _ (by decide)).trans h12, (key _ _ (by decide)).trans h13, (key _ _ (by decide)).trans h14, (key _ _ (by decide)).trans h15, (key _ _ (by decide)).trans h16, fun c hc => ⟨(kb c 0 hc (by decide)).trans (frb_0 h hc), (kb c 1 hc (by decide)).trans (frb_1 h hc), (kb c 2 hc (by decide)).trans (frb_2 h hc), (kb c 3 hc (by decide)).trans (frb_3 h hc), (kb c 4 hc (by decide)).trans (frb_4 h hc), (kb c 5 hc (by decide)).trans (frb_5 h hc), (kb c 6 hc (by decide)).trans (frb_6 h hc)⟩⟩
theorem nI_succ16 {n : Nat} {x : Int32} (h : x.toInt + (n + 1 : Nat) = 16) (hn : n + 1 ≤ 16) : (x + 1).toInt + (n : Nat) = 16 := by
  have := i32_add (x := x) (by omega) (by omega) (k := 1) (by decide) (by decide)
  have e1 : (1 : Int32).toInt = 1 := by decide
  omega
theorem ge16 {x : Int32} (h : x.toInt + (0 : Nat) = 16) : (16 : Int32) ≤ x := by rw [Int32.le_iff_toInt_le]; have e1 : (16 : Int32).toInt = 16 := by decide
                                                                                 omega
theorem nge16 {n : Nat} {x : Int32} (h : x.toInt + (n + 1 : Nat) = 16) : ¬ (16 : Int32) ≤ x := by rw [Int32.le_iff_toInt_le]; have e1 : (16 : Int32).toInt = 16 := by decide
                                                                                                  omega
theorem in16 {n : Nat} {x : Int32} (h : x.toInt + (n + 1 : Nat) = 16) (hn : n + 1 ≤ 16) : vp_in x 16 := by rw [vp_in_iff]; omega
theorem tw_10 {M1 : MT} (fr1 : FrB M1) : s1_X4_takeWanted M1 0 10 = 0 := by simp [s1_X4_takeWanted, up2, va_up, fr_0_10 fr1]
set_option maxHeartbeats 4000000 in
set_option maxRecDepth 100000 in
theorem c1_X8_day (l : Launch) (D : va_G) (cy : Nat → ClassId) (X : va_W) (ad : Nat → Nat) (M : MT) (a : Int32) (b : Int32) (e : Int32) (fr : FrB M) : CtP l yX8_day cX8_day 5 (some .int) (rK 5) D cy X ad ZB M [.ref (ad 0), .int a, .int b, .int e] (fun v _ => v = some (.int (if (s_X8_within M a 0 10) = 0 then -1 else if (s_X8_within M b 0 10) = 0 then -1 else if (s_X8_within M e 0 50) = 0 then -1 else 1))) := by
  refine Ctr.of (by decide +kernel) (Nat.le_of_ble_eq_true rfl) ?_
  intro K f q hnm hl0 hD0 hy0 hX0
  show V K ad 0 0 ZB M 0 [(0, .ref (ad 0)), (1, .int a), (2, .int b), (3, .int e)] []
  have loop : ¬ (s_X8_within M a 0 10) = 0 → ¬ (s_X8_within M b 0 10) = 0 → ¬ (s_X8_within M e 0 50) = 0 → ∀ (n : Nat) (x : Int32) (M1 : MT), FrB M1 → x.toInt + (n : Nat) = 16 → n ≤ 16 → V K ad 0 0 ZB M1 45 [(4, .int x), (0, .ref (ad 0)), (1, .int a), (2, .int b), (3, .int e)] [] := by
    intro w1 w2 w3 n
    induction n with
    | zero =>
      intro x M1 fr1 hx hn
      refine V_iload f dX8_day_45 0 rfl ?_
      refine V_bipush (v := 16) f dX8_day_47 (by decide) ?_
      refine V_icmp_ge (tgt := 71) f dX8_day_49 (by decide) (fun _ => ?_) (fun h => absurd (ge16 hx) h)
      refine V_iconst (v := 0) f dX8_day_71 (by decide) ?_
      refine V_istore f dX8_day_72 (by decide) rfl ?_
      refine V_iload f dX8_day_74 0 rfl ?_
      refine V_aload_n f dX8_day_76 1 rfl ?_
      refine V_getE (x := 0) f dX8_day_77 lf_8_62 rfl zb_0 (fr_0_8 fr1) ?_
      refine V_icmp_ge (tgt := 113) f dX8_day_80 (by decide) (fun _ => ?_) (fun h => absurd (by decide) h)
      refine V_aload_n f dX8_day_113 1 rfl ?_
      refine V_getR f dX8_day_114 lf_8_35 rfl zb_0 rfl ?_
      refine V_aload_n f dX8_day_117 1 rfl ?_
      refine V_getR f dX8_day_118 lf_8_17 rfl zb_0 rfl ?_
      refine V_aload_n f dX8_day_121 1 rfl ?_
      refine V_getE (x := 0) f dX8_day_122 lf_8_62 rfl zb_0 (fr_0_8 fr1) ?_
      refine V_cVv (As := [.ref (ad 2), .int 0]) (rest := []) f dX8_day_125 lk_X8_179 ml_X8_179 ins_X4_takeWanted sel_X4_takeWanted zb_14 (by decide) rfl (c1_X4_takeWanted (kl K) (kD K) (ky K) (kX K) ad M1 ) rfl (Nat.le_of_ble_eq_true rfl) rfl ⟨by decide, by decide⟩ ⟨Nat.zero_le _, Nat.zero_le _⟩ rfl rfl ?_
      refine V_aload_n f dX8_day_128 1 rfl ?_
      refine V_dup f dX8_day_129 rfl ?_
      refine V_getE (x := 0) f dX8_day_130 lf_8_69 rfl zb_0 (tw_10 fr1) ?_
      refine V_iconst (v := 1) f dX8_day_133 (by decide) ?_
      refine V_iadd f dX8_day_134 ?_
      rw [show (0 + 1 : Int32) = 1 by decide]
      refine V_putI f dX8_day_135 lf_8_69 lp_8_10 rfl rfl rfl rfl zb_0 ?_
      refine V_aload_n f dX8_day_138 1 rfl ?_
      refine V_getE (x := 1) f dX8_day_139 lf_8_69 rfl zb_0 up_s ?_
      refine V_bipush (v := 7) f dX8_day_142 (by decide) ?_
      refine V_irem f dX8_day_144 (by decide) ?_
      rw [show (1 - 1 / 7 * 7 : Int32) = 1 by decide]
      refine V_if_ne (tgt := 160) f dX8_day_145 (by decide) (fun _ => ?_) (fun h => absurd h (by decide))
      refine V_aload_n f dX8_day_160 1 rfl ?_
      refine V_getE (x := 1) f dX8_day_161 lf_8_69 rfl zb_0 up_s ?_
      exact V_iret f q dX8_day_164 rfl (Nat.zero_le _) (Nat.zero_le _) ⟨rfl, rfl, (by simp only [if_neg w1, if_neg w2, if_neg w3])⟩
    | succ n ih =>
      intro x M1 fr1 hx hn
      refine V_iload f dX8_day_45 0 rfl ?_
      refine V_bipush (v := 16) f dX8_day_47 (by decide) ?_
      refine V_icmp_ge (tgt := 71) f dX8_day_49 (by decide) (fun h => absurd h (nge16 hx)) (fun _ => ?_)
      refine V_aload_n f dX8_day_52 1 rfl ?_
      refine V_getR f dX8_day_53 lf_8_11 rfl zb_0 rfl ?_
      refine V_iload f dX8_day_56 0 rfl ?_
      refine V_aald (t0 := 3) f dX8_day_58 zb_1 (by decide) rfl (in16 hx hn) (eBay (vlt (in16 hx hn))) ?_
      refine V_iload_n f dX8_day_59 2 rfl ?_
      refine V_iload_n f dX8_day_60 3 rfl ?_
      refine V_iload_n f dX8_day_61 4 rfl ?_
      refine V_cVv (As := [.int a, .int b, .int e]) (rest := []) f dX8_day_62 lk_X8_171 ml_X8_171 ins_X0_weather sel_X0_weather (zBay (vlt (in16 hx hn))) (by decide) rfl (c1_X0_weather (kl K) (kD K) (ky K) (kX K) ad M1 (28 + Int32.toNatClampNeg x) a b e (zBay (vlt (in16 hx hn))) (frb_1 fr1 (vlt (in16 hx hn)))) rfl (Nat.le_of_ble_eq_true rfl) rfl ⟨by decide, by decide⟩ ⟨Nat.zero_le _, Nat.zero_le _⟩ rfl rfl ?_
      refine V_iinc (v := x + 1) f dX8_day_65 0 rfl rfl (by decide) rfl ?_
      refine V_goto (tgt := 45) f dX8_day_68 (by decide) ?_
      exact ih (x + 1) _ (frB_weather fr1 (vlt (in16 hx hn)) a b e) (nI_succ16 hx hn) (by omega)
  refine V_iload_n f dX8_day_0 1 rfl ?_
  refine V_iconst (v := 0) f dX8_day_1 (by decide) ?_
  refine V_bipush (v := 10) f dX8_day_2 (by decide) ?_
  refine V_cSi (As := [.int a, .int 0, .int 10]) (rest := []) f dX8_day_4 lk_X8_90 ml_X8_90 sta_X8_within (c_X8_within (kl K) (kD K) (ky K) (kX K) ad M a 0 10) rfl (Nat.le_of_ble_eq_true rfl) rfl ⟨by decide, by decide⟩ ⟨Nat.zero_le _, Nat.zero_le _⟩ rfl rfl ?_
  refine V_if_eq (tgt := 40) f dX8_day_7 (by decide) (fun c1 => ?_) (fun c1 => ?_)
  · refine V_iconst (v := (-1)) f dX8_day_40 (by decide) ?_
    exact V_iret f q dX8_day_41 rfl (Nat.zero_le _) (Nat.zero_le _) ⟨rfl, rfl, (by simp only [if_pos c1])⟩
  · refine V_iload_n f dX8_day_10 2 rfl ?_
    refine V_iconst (v := 0) f dX8_day_11 (by decide) ?_
    refine V_bipush (v := 10) f dX8_day_12 (by decide) ?_
    refine V_cSi (As := [.int b, .int 0, .int 10]) (rest := []) f dX8_day_14 lk_X8_90 ml_X8_90 sta_X8_within (c_X8_within (kl K) (kD K) (ky K) (kX K) ad M b 0 10) rfl (Nat.le_of_ble_eq_true rfl) rfl ⟨by decide, by decide⟩ ⟨Nat.zero_le _, Nat.zero_le _⟩ rfl rfl ?_
    refine V_if_eq (tgt := 40) f dX8_day_17 (by decide) (fun c2 => ?_) (fun c2 => ?_)
    · refine V_iconst (v := (-1)) f dX8_day_40 (by decide) ?_
      exact V_iret f q dX8_day_41 rfl (Nat.zero_le _) (Nat.zero_le _) ⟨rfl, rfl, (by simp only [if_neg c1, if_pos c2])⟩
    · refine V_iload_n f dX8_day_20 3 rfl ?_
      refine V_iconst (v := 0) f dX8_day_21 (by decide) ?_
      refine V_bipush (v := 50) f dX8_day_22 (by decide) ?_
      refine V_cSi (As := [.int e, .int 0, .int 50]) (rest := []) f dX8_day_24 lk_X8_90 ml_X8_90 sta_X8_within (c_X8_within (kl K) (kD K) (ky K) (kX K) ad M e 0 50) rfl (Nat.le_of_ble_eq_true rfl) rfl ⟨by decide, by decide⟩ ⟨Nat.zero_le _, Nat.zero_le _⟩ rfl rfl ?_
      refine V_if_eq (tgt := 40) f dX8_day_27 (by decide) (fun c3 => ?_) (fun c3 => ?_)
      · refine V_iconst (v := (-1)) f dX8_day_40 (by decide) ?_
        exact V_iret f q dX8_day_41 rfl (Nat.zero_le _) (Nat.zero_le _) ⟨rfl, rfl, (by simp only [if_neg c1, if_neg c2, if_pos c3])⟩
      · refine V_aload_n f dX8_day_30 0 rfl ?_
        refine V_getE (x := 0) f dX8_day_31 lf_8_69 rfl zb_0 (fr_0_10 fr) ?_
        refine V_sipush (v := 1000) f dX8_day_34 (by decide) ?_
        refine V_icmp_lt (tgt := 42) f dX8_day_37 (by decide) (fun _ => ?_) (fun h => absurd (by decide) h)
        refine V_iconst (v := 0) f dX8_day_42 (by decide) ?_
        refine V_istore f dX8_day_43 (by decide) rfl ?_
        exact loop c1 c2 c3 16 0 M fr (by decide) (by decide)

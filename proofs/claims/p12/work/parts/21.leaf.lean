theorem nz_of_nle {x : Int32} (h : ¬ x ≤ 0) : ¬ x = 0 := fun e => h (by rw [e]; decide)
theorem vin_of {x c : Int32} {n : Nat} (h1 : 0 ≤ x) (h2 : x < c) (hc : c.toInt ≤ n) : vp_in x n := by
  rw [vp_in_iff]
  have a1 := Int32.le_iff_toInt_le.mp h1
  have a2 := Int32.lt_iff_toInt_lt.mp h2
  have e0 : (0 : Int32).toInt = 0 := by decide
  omega
theorem vin_of' {x c : Int32} {n : Nat} (h1 : ¬ x < 0) (h2 : ¬ c ≤ x) (hc : c.toInt ≤ n) : vp_in x n := vin_of (Int32.not_lt.mp h1) (Int32.not_le.mp h2) hc
theorem i32_add {x : Int32} {k : Int32} (h0 : 0 ≤ x.toInt) (h1 : x.toInt ≤ 100000) (k0 : 0 ≤ k.toInt) (k1 : k.toInt ≤ 1000) : (x + k).toInt = x.toInt + k.toInt := by
  rw [Int32.toInt_add, Int.bmod_eq_of_le (by omega) (by omega)]
def s_X5_takesPeat (M : MT) (i : Nat) : Int32 := (if (M i 4) = 0 then (if (M i 8) = 0 then 1 else 0) else 0)
theorem b_X5_takesPeat (M : MT) (i : Nat) : s_X5_takesPeat M i = 0 ∨ s_X5_takesPeat M i = 1 := by unfold s_X5_takesPeat; first | (repeat' split) <;> simp | (repeat' split) <;> first | exact Or.inl rfl | exact Or.inr rfl | simp [*]
set_option maxHeartbeats 4000000 in
set_option maxRecDepth 100000 in
theorem c_X5_takesPeat (l : Launch) (D : va_G) (cy : Nat → ClassId) (X : va_W) (ad : Nat → Nat) {Z : ZT} (M : MT) (i : Nat) {ni : Nat} {rsi : List (Option Nat)} (hi : Z[i]? = some (5, ni, rsi)) : CtI l yX5_takesPeat cX5_takesPeat 1 .boolean (rK 0) D cy X ad Z M [.ref (ad i)] (s_X5_takesPeat M i) M := by
  refine Ctr.of (by decide +kernel) (Nat.le_of_ble_eq_true rfl) ?_
  intro K f q hnm hl0 hD0 hy0 hX0
  show V K ad 0 0 Z M 0 [(0, .ref (ad i))] []
  refine V_aload_n f dX5_takesPeat_0 0 rfl ?_
  refine V_getE (x := M i 4) f dX5_takesPeat_1 lf_5_24 rfl hi rfl ?_
  refine V_if_ne (tgt := 18) f dX5_takesPeat_4 (by decide) (fun c1 => ?_) (fun c1 => ?_)
  · refine V_iconst (v := 0) f dX5_takesPeat_18 (by decide) ?_
    exact V_iret f q dX5_takesPeat_19 rfl (Nat.zero_le _) (Nat.zero_le _) ⟨rfl, rfl, (by simp only [s_X5_takesPeat, if_neg c1]), rfl⟩
  · refine V_aload_n f dX5_takesPeat_7 0 rfl ?_
    refine V_getE (x := M i 8) f dX5_takesPeat_8 lf_5_37 rfl hi rfl ?_
    refine V_if_ne (tgt := 18) f dX5_takesPeat_11 (by decide) (fun c2 => ?_) (fun c2 => ?_)
    · refine V_iconst (v := 0) f dX5_takesPeat_18 (by decide) ?_
      exact V_iret f q dX5_takesPeat_19 rfl (Nat.zero_le _) (Nat.zero_le _) ⟨rfl, rfl, (by simp only [s_X5_takesPeat, if_pos c1, if_neg c2]), rfl⟩
    · refine V_iconst (v := 1) f dX5_takesPeat_14 (by decide) ?_
      refine V_goto (tgt := 19) f dX5_takesPeat_15 (by decide) ?_
      exact V_iret f q dX5_takesPeat_19 rfl (Nat.zero_le _) (Nat.zero_le _) ⟨rfl, rfl, (by simp only [s_X5_takesPeat, if_pos c1, if_pos c2]), rfl⟩
def s_X5_add (M : MT) (i : Nat) (a : Int32) (b : Int32) : MT := (if ((M i 0) + a) ≤ 0 then (up2 M i 0 ((M i 0) + a)) else (up2 (up2 M i 1 ((((M i 0) * (M i 1)) + (a * b)) / ((M i 0) + a))) i 0 ((M i 0) + a)))
set_option maxHeartbeats 4000000 in
set_option maxRecDepth 100000 in
theorem c_X5_add (l : Launch) (D : va_G) (cy : Nat → ClassId) (X : va_W) (ad : Nat → Nat) {Z : ZT} (M : MT) (i : Nat) (a : Int32) (b : Int32) {ni : Nat} {rsi : List (Option Nat)} (hi : Z[i]? = some (5, ni, rsi)) : CtV l yX5_add cX5_add 4 (rK 0) D cy X ad Z M [.ref (ad i), .int a, .int b] (s_X5_add M i a b) := by
  refine Ctr.of (by decide +kernel) (Nat.le_of_ble_eq_true rfl) ?_
  intro K f q hnm hl0 hD0 hy0 hX0
  show V K ad 0 0 Z M 0 [(0, .ref (ad i)), (1, .int a), (2, .int b)] []
  refine V_aload_n f dX5_add_0 0 rfl ?_
  refine V_getE (x := M i 0) f dX5_add_1 lf_5_9 rfl hi rfl ?_
  refine V_iload_n f dX5_add_4 1 rfl ?_
  refine V_iadd f dX5_add_5 ?_
  refine V_istore_n f dX5_add_6 rfl (by decide) rfl ?_
  refine V_iload_n f dX5_add_7 0 rfl ?_
  refine V_if_le (tgt := 30) f dX5_add_8 (by decide) (fun c1 => ?_) (fun c1 => ?_)
  · refine V_aload_n f dX5_add_30 1 rfl ?_
    refine V_iload_n f dX5_add_31 0 rfl ?_
    refine V_putI f dX5_add_32 lf_5_9 lp_5_0 rfl rfl rfl rfl hi ?_
    exact V_vret f q dX5_add_35 (Nat.zero_le _) (Nat.zero_le _) ⟨rfl, rfl, rfl, (by simp only [s_X5_add, if_pos c1])⟩
  · refine V_aload_n f dX5_add_11 1 rfl ?_
    refine V_aload_n f dX5_add_12 1 rfl ?_
    refine V_getE (x := M i 0) f dX5_add_13 lf_5_9 rfl hi rfl ?_
    refine V_aload_n f dX5_add_16 1 rfl ?_
    refine V_getE (x := M i 1) f dX5_add_17 lf_5_15 rfl hi rfl ?_
    refine V_imul f dX5_add_20 ?_
    refine V_iload_n f dX5_add_21 2 rfl ?_
    refine V_iload_n f dX5_add_22 3 rfl ?_
    refine V_imul f dX5_add_23 ?_
    refine V_iadd f dX5_add_24 ?_
    refine V_iload_n f dX5_add_25 0 rfl ?_
    refine V_idiv f dX5_add_26 (nz_of_nle c1) ?_
    refine V_putI f dX5_add_27 lf_5_15 lp_5_1 rfl rfl rfl rfl hi ?_
    refine V_aload_n f dX5_add_30 1 rfl ?_
    refine V_iload_n f dX5_add_31 0 rfl ?_
    refine V_putI f dX5_add_32 lf_5_9 lp_5_0 rfl rfl rfl rfl hi ?_
    exact V_vret f q dX5_add_35 (Nat.zero_le _) (Nat.zero_le _) ⟨rfl, rfl, rfl, (by simp only [s_X5_add, if_neg c1])⟩
def s_X5_glow (M : MT) (i : Nat) (a : Int32) (b : Int32) : Int32 × MT := (if 0 < (M i 0) then (if (M i 4) = 0 then (if (M i 1) ≤ 500 then (if a ≤ 20 then (if (if (if 10 < (((((M i 2) + 1) + ((M i 0) / 500)) + 0) - 0) then (((((M i 2) + 1) + ((M i 0) / 500)) + 0) - 0) else 10) < 100 then (if 10 < (((((M i 2) + 1) + ((M i 0) / 500)) + 0) - 0) then (((((M i 2) + 1) + ((M i 0) / 500)) + 0) - 0) else 10) else 100) = 100 then (0, (up2 (up2 (up2 M i 2 (if (if 10 < (((((M i 2) + 1) + ((M i 0) / 500)) + 0) - 0) then (((((M i 2) + 1) + ((M i 0) / 500)) + 0) - 0) else 10) < 100 then (if 10 < (((((M i 2) + 1) + ((M i 0) / 500)) + 0) - 0) then (((((M i 2) + 1) + ((M i 0) / 500)) + 0) - 0) else 10) else 100)) i 4 1) i 6 b)) else (0, (up2 M i 2 (if (if 10 < (((((M i 2) + 1) + ((M i 0) / 500)) + 0) - 0) then (((((M i 2) + 1) + ((M i 0) / 500)) + 0) - 0) else 10) < 100 then (if 10 < (((((M i 2) + 1) + ((M i 0) / 500)) + 0) - 0) then (((((M i 2) + 1) + ((M i 0) / 500)) + 0) - 0) else 10) else 100)))) else (if (if (if 10 < (((((M i 2) + 1) + ((M i 0) / 500)) + 0) - 3) then (((((M i 2) + 1) + ((M i 0) / 500)) + 0) - 3) else 10) < 100 then (if 10 < (((((M i 2) + 1) + ((M i 0) / 500)) + 0) - 3) then (((((M i 2) + 1) + ((M i 0) / 500)) + 0) - 3) else 10) else 100) = 100 then (0, (up2 (up2 (up2 M i 2 (if (if 10 < (((((M i 2) + 1) + ((M i 0) / 500)) + 0) - 3) then (((((M i 2) + 1) + ((M i 0) / 500)) + 0) - 3) else 10) < 100 then (if 10 < (((((M i 2) + 1) + ((M i 0) / 500)) + 0) - 3) then (((((M i 2) + 1) + ((M i 0) / 500)) + 0) - 3) else 10) else 100)) i 4 1) i 6 b)) else (0, (up2 M i 2 (if (if 10 < (((((M i 2) + 1) + ((M i 0) / 500)) + 0) - 3) then (((((M i 2) + 1) + ((M i 0) / 500)) + 0) - 3) else 10) < 100 then (if 10 < (((((M i 2) + 1) + ((M i 0) / 500)) + 0) - 3) then (((((M i 2) + 1) + ((M i 0) / 500)) + 0) - 3) else 10) else 100))))) else (if a ≤ 20 then (if (if (if 10 < (((((M i 2) + 1) + ((M i 0) / 500)) + 2) - 0) then (((((M i 2) + 1) + ((M i 0) / 500)) + 2) - 0) else 10) < 100 then (if 10 < (((((M i 2) + 1) + ((M i 0) / 500)) + 2) - 0) then (((((M i 2) + 1) + ((M i 0) / 500)) + 2) - 0) else 10) else 100) = 100 then (0, (up2 (up2 (up2 M i 2 (if (if 10 < (((((M i 2) + 1) + ((M i 0) / 500)) + 2) - 0) then (((((M i 2) + 1) + ((M i 0) / 500)) + 2) - 0) else 10) < 100 then (if 10 < (((((M i 2) + 1) + ((M i 0) / 500)) + 2) - 0) then (((((M i 2) + 1) + ((M i 0) / 500)) + 2) - 0) else 10) else 100)) i 4 1) i 6 b)) else (0, (up2 M i 2 (if (if 10 < (((((M i 2) + 1) + ((M i 0) / 500)) + 2) - 0) then (((((M i 2) + 1) + ((M i 0) / 500)) + 2) - 0) else 10) < 100 then (if 10 < (((((M i 2) + 1) + ((M i 0) / 500)) + 2) - 0) then (((((M i 2) + 1) + ((M i 0) / 500)) + 2) - 0) else 10) else 100)))) else (if (if (if 10 < (((((M i 2) + 1) + ((M i 0) / 500)) + 2) - 3) then (((((M i 2) + 1) + ((M i 0) / 500)) + 2) - 3) else 10) < 100 then (if 10 < (((((M i 2) + 1) + ((M i 0) / 500)) + 2) - 3) then (((((M i 2) + 1) + ((M i 0) / 500)) + 2) - 3) else 10) else 100) = 100 then (0, (up2 (up2 (up2 M i 2 (if (if 10 < (((((M i 2) + 1) + ((M i 0) / 500)) + 2) - 3) then (((((M i 2) + 1) + ((M i 0) / 500)) + 2) - 3) else 10) < 100 then (if 10 < (((((M i 2) + 1) + ((M i 0) / 500)) + 2) - 3) then (((((M i 2) + 1) + ((M i 0) / 500)) + 2) - 3) else 10) else 100)) i 4 1) i 6 b)) else (0, (up2 M i 2 (if (if 10 < (((((M i 2) + 1) + ((M i 0) / 500)) + 2) - 3) then (((((M i 2) + 1) + ((M i 0) / 500)) + 2) - 3) else 10) < 100 then (if 10 < (((((M i 2) + 1) + ((M i 0) / 500)) + 2) - 3) then (((((M i 2) + 1) + ((M i 0) / 500)) + 2) - 3) else 10) else 100)))))) else (if 1 < ((M i 0) / 10) then ((M i 0) / 10) else 1, (up2 M i 0 ((M i 0) - (if 1 < ((M i 0) / 10) then ((M i 0) / 10) else 1))))) else (0, M))
set_option maxHeartbeats 4000000 in
set_option maxRecDepth 100000 in
theorem c_X5_glow (l : Launch) (D : va_G) (cy : Nat → ClassId) (X : va_W) (ad : Nat → Nat) {Z : ZT} (M : MT) (i : Nat) (a : Int32) (b : Int32) {ni : Nat} {rsi : List (Option Nat)} (hi : Z[i]? = some (5, ni, rsi)) : CtI l yX5_glow cX5_glow 4 .int (rK 1) D cy X ad Z M [.ref (ad i), .int a, .int b] (s_X5_glow M i a b).1 (s_X5_glow M i a b).2 := by
  refine Ctr.of (by decide +kernel) (Nat.le_of_ble_eq_true rfl) ?_
  intro K f q hnm hl0 hD0 hy0 hX0
  show V K ad 0 0 Z M 0 [(0, .ref (ad i)), (1, .int a), (2, .int b)] []
  refine V_aload_n f dX5_glow_0 0 rfl ?_
  refine V_getE (x := M i 0) f dX5_glow_1 lf_5_9 rfl hi rfl ?_
  refine V_if_gt (tgt := 9) f dX5_glow_4 (by decide) (fun c1 => ?_) (fun c1 => ?_)
  · refine V_aload_n f dX5_glow_9 0 rfl ?_
    refine V_getE (x := M i 4) f dX5_glow_10 lf_5_24 rfl hi rfl ?_
    refine V_if_eq (tgt := 40) f dX5_glow_13 (by decide) (fun c2 => ?_) (fun c2 => ?_)
    · refine V_aload_n f dX5_glow_40 0 rfl ?_
      refine V_getE (x := M i 2) f dX5_glow_41 lf_5_18 rfl hi rfl ?_
      refine V_iconst (v := 1) f dX5_glow_44 (by decide) ?_
      refine V_iadd f dX5_glow_45 ?_
      refine V_aload_n f dX5_glow_46 0 rfl ?_
      refine V_getE (x := M i 0) f dX5_glow_47 lf_5_9 rfl hi rfl ?_
      refine V_sipush (v := 500) f dX5_glow_50 (by decide) ?_
      refine V_idiv f dX5_glow_53 (by decide) ?_
      refine V_iadd f dX5_glow_54 ?_
      refine V_aload_n f dX5_glow_55 0 rfl ?_
      refine V_getE (x := M i 1) f dX5_glow_56 lf_5_15 rfl hi rfl ?_
      refine V_sipush (v := 500) f dX5_glow_59 (by decide) ?_
      refine V_icmp_le (tgt := 69) f dX5_glow_62 (by decide) (fun c3 => ?_) (fun c3 => ?_)
      · refine V_iconst (v := 0) f dX5_glow_69 (by decide) ?_
        refine V_iadd f dX5_glow_70 ?_
        refine V_iload_n f dX5_glow_71 1 rfl ?_
        refine V_bipush (v := 20) f dX5_glow_72 (by decide) ?_
        refine V_icmp_le (tgt := 81) f dX5_glow_74 (by decide) (fun c4 => ?_) (fun c4 => ?_)
        · refine V_iconst (v := 0) f dX5_glow_81 (by decide) ?_
          refine V_isub f dX5_glow_82 ?_
          refine V_istore_n f dX5_glow_83 rfl (by decide) rfl ?_
          refine V_aload_n f dX5_glow_84 1 rfl ?_
          refine V_bipush (v := 100) f dX5_glow_85 (by decide) ?_
          refine V_bipush (v := 10) f dX5_glow_87 (by decide) ?_
          refine V_iload_n f dX5_glow_89 0 rfl ?_
          refine V_mmax f dX5_glow_90 ml_X5_40 ma_max ma_ini mc_max (by decide) (Nat.le_of_ble_eq_true rfl) (Nat.zero_le _) (Nat.zero_le _) ?_
          refine V_mmin f dX5_glow_93 ml_X5_46 ma_min ma_ini mc_min (by decide) (Nat.le_of_ble_eq_true rfl) (Nat.zero_le _) (Nat.zero_le _) ?_
          refine V_putI f dX5_glow_96 lf_5_18 lp_5_2 rfl rfl rfl rfl hi ?_
          refine V_aload_n f dX5_glow_99 1 rfl ?_
          refine V_getE (x := if (if 10 < (((((M i 2) + 1) + ((M i 0) / 500)) + 0) - 0) then (((((M i 2) + 1) + ((M i 0) / 500)) + 0) - 0) else 10) < 100 then (if 10 < (((((M i 2) + 1) + ((M i 0) / 500)) + 0) - 0) then (((((M i 2) + 1) + ((M i 0) / 500)) + 0) - 0) else 10) else 100) f dX5_glow_100 lf_5_18 rfl hi up_s ?_
          refine V_bipush (v := 100) f dX5_glow_103 (by decide) ?_
          refine V_icmp_ne (tgt := 118) f dX5_glow_105 (by decide) (fun c5 => ?_) (fun c5 => ?_)
          · refine V_iconst (v := 0) f dX5_glow_118 (by decide) ?_
            exact V_iret f q dX5_glow_119 rfl (Nat.zero_le _) (Nat.zero_le _) ⟨rfl, rfl, (by simp only [s_X5_glow, if_pos c1, if_pos c2, if_pos c3, if_pos c4, if_neg c5]), (by simp only [s_X5_glow, if_pos c1, if_pos c2, if_pos c3, if_pos c4, if_neg c5])⟩
          · refine V_aload_n f dX5_glow_108 1 rfl ?_
            refine V_iconst (v := 1) f dX5_glow_109 (by decide) ?_
            refine V_putI f dX5_glow_110 lf_5_24 lp_5_4 rfl rfl rfl rfl hi ?_
            refine V_aload_n f dX5_glow_113 1 rfl ?_
            refine V_iload_n f dX5_glow_114 3 rfl ?_
            refine V_putI f dX5_glow_115 lf_5_31 lp_5_6 rfl rfl rfl rfl hi ?_
            refine V_iconst (v := 0) f dX5_glow_118 (by decide) ?_
            exact V_iret f q dX5_glow_119 rfl (Nat.zero_le _) (Nat.zero_le _) ⟨rfl, rfl, (by simp only [s_X5_glow, if_pos c1, if_pos c2, if_pos c3, if_pos c4, if_pos c5]), (by simp only [s_X5_glow, if_pos c1, if_pos c2, if_pos c3, if_pos c4, if_pos c5])⟩
        · refine V_iconst (v := 3) f dX5_glow_77 (by decide) ?_
          refine V_goto (tgt := 82) f dX5_glow_78 (by decide) ?_
          refine V_isub f dX5_glow_82 ?_
          refine V_istore_n f dX5_glow_83 rfl (by decide) rfl ?_
          refine V_aload_n f dX5_glow_84 1 rfl ?_
          refine V_bipush (v := 100) f dX5_glow_85 (by decide) ?_
          refine V_bipush (v := 10) f dX5_glow_87 (by decide) ?_
          refine V_iload_n f dX5_glow_89 0 rfl ?_
          refine V_mmax f dX5_glow_90 ml_X5_40 ma_max ma_ini mc_max (by decide) (Nat.le_of_ble_eq_true rfl) (Nat.zero_le _) (Nat.zero_le _) ?_
          refine V_mmin f dX5_glow_93 ml_X5_46 ma_min ma_ini mc_min (by decide) (Nat.le_of_ble_eq_true rfl) (Nat.zero_le _) (Nat.zero_le _) ?_
          refine V_putI f dX5_glow_96 lf_5_18 lp_5_2 rfl rfl rfl rfl hi ?_
          refine V_aload_n f dX5_glow_99 1 rfl ?_
          refine V_getE (x := if (if 10 < (((((M i 2) + 1) + ((M i 0) / 500)) + 0) - 3) then (((((M i 2) + 1) + ((M i 0) / 500)) + 0) - 3) else 10) < 100 then (if 10 < (((((M i 2) + 1) + ((M i 0) / 500)) + 0) - 3) then (((((M i 2) + 1) + ((M i 0) / 500)) + 0) - 3) else 10) else 100) f dX5_glow_100 lf_5_18 rfl hi up_s ?_
          refine V_bipush (v := 100) f dX5_glow_103 (by decide) ?_
          refine V_icmp_ne (tgt := 118) f dX5_glow_105 (by decide) (fun c6 => ?_) (fun c6 => ?_)
          · refine V_iconst (v := 0) f dX5_glow_118 (by decide) ?_
            exact V_iret f q dX5_glow_119 rfl (Nat.zero_le _) (Nat.zero_le _) ⟨rfl, rfl, (by simp only [s_X5_glow, if_pos c1, if_pos c2, if_pos c3, if_neg c4, if_neg c6]), (by simp only [s_X5_glow, if_pos c1, if_pos c2, if_pos c3, if_neg c4, if_neg c6])⟩
          · refine V_aload_n f dX5_glow_108 1 rfl ?_
            refine V_iconst (v := 1) f dX5_glow_109 (by decide) ?_
            refine V_putI f dX5_glow_110 lf_5_24 lp_5_4 rfl rfl rfl rfl hi ?_
            refine V_aload_n f dX5_glow_113 1 rfl ?_
            refine V_iload_n f dX5_glow_114 3 rfl ?_
            refine V_putI f dX5_glow_115 lf_5_31 lp_5_6 rfl rfl rfl rfl hi ?_
            refine V_iconst (v := 0) f dX5_glow_118 (by decide) ?_
            exact V_iret f q dX5_glow_119 rfl (Nat.zero_le _) (Nat.zero_le _) ⟨rfl, rfl, (by simp only [s_X5_glow, if_pos c1, if_pos c2, if_pos c3, if_neg c4, if_pos c6]), (by simp only [s_X5_glow, if_pos c1, if_pos c2, if_pos c3, if_neg c4, if_pos c6])⟩
      · refine V_iconst (v := 2) f dX5_glow_65 (by decide) ?_
        refine V_goto (tgt := 70) f dX5_glow_66 (by decide) ?_
        refine V_iadd f dX5_glow_70 ?_
        refine V_iload_n f dX5_glow_71 1 rfl ?_
        refine V_bipush (v := 20) f dX5_glow_72 (by decide) ?_
        refine V_icmp_le (tgt := 81) f dX5_glow_74 (by decide) (fun c7 => ?_) (fun c7 => ?_)
        · refine V_iconst (v := 0) f dX5_glow_81 (by decide) ?_
          refine V_isub f dX5_glow_82 ?_
          refine V_istore_n f dX5_glow_83 rfl (by decide) rfl ?_
          refine V_aload_n f dX5_glow_84 1 rfl ?_
          refine V_bipush (v := 100) f dX5_glow_85 (by decide) ?_
          refine V_bipush (v := 10) f dX5_glow_87 (by decide) ?_
          refine V_iload_n f dX5_glow_89 0 rfl ?_
          refine V_mmax f dX5_glow_90 ml_X5_40 ma_max ma_ini mc_max (by decide) (Nat.le_of_ble_eq_true rfl) (Nat.zero_le _) (Nat.zero_le _) ?_
          refine V_mmin f dX5_glow_93 ml_X5_46 ma_min ma_ini mc_min (by decide) (Nat.le_of_ble_eq_true rfl) (Nat.zero_le _) (Nat.zero_le _) ?_
          refine V_putI f dX5_glow_96 lf_5_18 lp_5_2 rfl rfl rfl rfl hi ?_
          refine V_aload_n f dX5_glow_99 1 rfl ?_
          refine V_getE (x := if (if 10 < (((((M i 2) + 1) + ((M i 0) / 500)) + 2) - 0) then (((((M i 2) + 1) + ((M i 0) / 500)) + 2) - 0) else 10) < 100 then (if 10 < (((((M i 2) + 1) + ((M i 0) / 500)) + 2) - 0) then (((((M i 2) + 1) + ((M i 0) / 500)) + 2) - 0) else 10) else 100) f dX5_glow_100 lf_5_18 rfl hi up_s ?_
          refine V_bipush (v := 100) f dX5_glow_103 (by decide) ?_
          refine V_icmp_ne (tgt := 118) f dX5_glow_105 (by decide) (fun c8 => ?_) (fun c8 => ?_)
          · refine V_iconst (v := 0) f dX5_glow_118 (by decide) ?_
            exact V_iret f q dX5_glow_119 rfl (Nat.zero_le _) (Nat.zero_le _) ⟨rfl, rfl, (by simp only [s_X5_glow, if_pos c1, if_pos c2, if_neg c3, if_pos c7, if_neg c8]), (by simp only [s_X5_glow, if_pos c1, if_pos c2, if_neg c3, if_pos c7, if_neg c8])⟩
          · refine V_aload_n f dX5_glow_108 1 rfl ?_
            refine V_iconst (v := 1) f dX5_glow_109 (by decide) ?_
            refine V_putI f dX5_glow_110 lf_5_24 lp_5_4 rfl rfl rfl rfl hi ?_
            refine V_aload_n f dX5_glow_113 1 rfl ?_
            refine V_iload_n f dX5_glow_114 3 rfl ?_
            refine V_putI f dX5_glow_115 lf_5_31 lp_5_6 rfl rfl rfl rfl hi ?_
            refine V_iconst (v := 0) f dX5_glow_118 (by decide) ?_
            exact V_iret f q dX5_glow_119 rfl (Nat.zero_le _) (Nat.zero_le _) ⟨rfl, rfl, (by simp only [s_X5_glow, if_pos c1, if_pos c2, if_neg c3, if_pos c7, if_pos c8]), (by simp only [s_X5_glow, if_pos c1, if_pos c2, if_neg c3, if_pos c7, if_pos c8])⟩
        · refine V_iconst (v := 3) f dX5_glow_77 (by decide) ?_
          refine V_goto (tgt := 82) f dX5_glow_78 (by decide) ?_
          refine V_isub f dX5_glow_82 ?_
          refine V_istore_n f dX5_glow_83 rfl (by decide) rfl ?_
          refine V_aload_n f dX5_glow_84 1 rfl ?_
          refine V_bipush (v := 100) f dX5_glow_85 (by decide) ?_
          refine V_bipush (v := 10) f dX5_glow_87 (by decide) ?_
          refine V_iload_n f dX5_glow_89 0 rfl ?_
          refine V_mmax f dX5_glow_90 ml_X5_40 ma_max ma_ini mc_max (by decide) (Nat.le_of_ble_eq_true rfl) (Nat.zero_le _) (Nat.zero_le _) ?_
          refine V_mmin f dX5_glow_93 ml_X5_46 ma_min ma_ini mc_min (by decide) (Nat.le_of_ble_eq_true rfl) (Nat.zero_le _) (Nat.zero_le _) ?_
          refine V_putI f dX5_glow_96 lf_5_18 lp_5_2 rfl rfl rfl rfl hi ?_
          refine V_aload_n f dX5_glow_99 1 rfl ?_
          refine V_getE (x := if (if 10 < (((((M i 2) + 1) + ((M i 0) / 500)) + 2) - 3) then (((((M i 2) + 1) + ((M i 0) / 500)) + 2) - 3) else 10) < 100 then (if 10 < (((((M i 2) + 1) + ((M i 0) / 500)) + 2) - 3) then (((((M i 2) + 1) + ((M i 0) / 500)) + 2) - 3) else 10) else 100) f dX5_glow_100 lf_5_18 rfl hi up_s ?_
          refine V_bipush (v := 100) f dX5_glow_103 (by decide) ?_
          refine V_icmp_ne (tgt := 118) f dX5_glow_105 (by decide) (fun c9 => ?_) (fun c9 => ?_)
          · refine V_iconst (v := 0) f dX5_glow_118 (by decide) ?_
            exact V_iret f q dX5_glow_119 rfl (Nat.zero_le _) (Nat.zero_le _) ⟨rfl, rfl, (by simp only [s_X5_glow, if_pos c1, if_pos c2, if_neg c3, if_neg c7, if_neg c9]), (by simp only [s_X5_glow, if_pos c1, if_pos c2, if_neg c3, if_neg c7, if_neg c9])⟩
          · refine V_aload_n f dX5_glow_108 1 rfl ?_
            refine V_iconst (v := 1) f dX5_glow_109 (by decide) ?_
            refine V_putI f dX5_glow_110 lf_5_24 lp_5_4 rfl rfl rfl rfl hi ?_
            refine V_aload_n f dX5_glow_113 1 rfl ?_
            refine V_iload_n f dX5_glow_114 3 rfl ?_
            refine V_putI f dX5_glow_115 lf_5_31 lp_5_6 rfl rfl rfl rfl hi ?_
            refine V_iconst (v := 0) f dX5_glow_118 (by decide) ?_
            exact V_iret f q dX5_glow_119 rfl (Nat.zero_le _) (Nat.zero_le _) ⟨rfl, rfl, (by simp only [s_X5_glow, if_pos c1, if_pos c2, if_neg c3, if_neg c7, if_pos c9]), (by simp only [s_X5_glow, if_pos c1, if_pos c2, if_neg c3, if_neg c7, if_pos c9])⟩
    · refine V_iconst (v := 1) f dX5_glow_16 (by decide) ?_
      refine V_aload_n f dX5_glow_17 0 rfl ?_
      refine V_getE (x := M i 0) f dX5_glow_18 lf_5_9 rfl hi rfl ?_
      refine V_bipush (v := 10) f dX5_glow_21 (by decide) ?_
      refine V_idiv f dX5_glow_23 (by decide) ?_
      refine V_mmax f dX5_glow_24 ml_X5_40 ma_max ma_ini mc_max (by decide) (Nat.le_of_ble_eq_true rfl) (Nat.zero_le _) (Nat.zero_le _) ?_
      refine V_istore_n f dX5_glow_27 rfl (by decide) rfl ?_
      refine V_aload_n f dX5_glow_28 1 rfl ?_
      refine V_dup f dX5_glow_29 rfl ?_
      refine V_getE (x := M i 0) f dX5_glow_30 lf_5_9 rfl hi rfl ?_
      refine V_iload_n f dX5_glow_33 0 rfl ?_
      refine V_isub f dX5_glow_34 ?_
      refine V_putI f dX5_glow_35 lf_5_9 lp_5_0 rfl rfl rfl rfl hi ?_
      refine V_iload_n f dX5_glow_38 0 rfl ?_
      exact V_iret f q dX5_glow_39 rfl (Nat.zero_le _) (Nat.zero_le _) ⟨rfl, rfl, (by simp only [s_X5_glow, if_pos c1, if_neg c2]), (by simp only [s_X5_glow, if_pos c1, if_neg c2])⟩
  · refine V_iconst (v := 0) f dX5_glow_7 (by decide) ?_
    exact V_iret f q dX5_glow_8 rfl (Nat.zero_le _) (Nat.zero_le _) ⟨rfl, rfl, (by simp only [s_X5_glow, if_neg c1]), (by simp only [s_X5_glow, if_neg c1])⟩
def s_X5_turnOver (M : MT) (i : Nat) : MT := (up2 (up2 M i 2 (if 10 < ((M i 2) / 2) then ((M i 2) / 2) else 10)) i 7 ((M i 7) + 1))
set_option maxHeartbeats 4000000 in
set_option maxRecDepth 100000 in
theorem c_X5_turnOver (l : Launch) (D : va_G) (cy : Nat → ClassId) (X : va_W) (ad : Nat → Nat) {Z : ZT} (M : MT) (i : Nat) {ni : Nat} {rsi : List (Option Nat)} (hi : Z[i]? = some (5, ni, rsi)) : CtV l yX5_turnOver cX5_turnOver 1 (rK 1) D cy X ad Z M [.ref (ad i)] (s_X5_turnOver M i) := by
  refine Ctr.of (by decide +kernel) (Nat.le_of_ble_eq_true rfl) ?_
  intro K f q hnm hl0 hD0 hy0 hX0
  show V K ad 0 0 Z M 0 [(0, .ref (ad i))] []
  refine V_aload_n f dX5_turnOver_0 0 rfl ?_
  refine V_bipush (v := 10) f dX5_turnOver_1 (by decide) ?_
  refine V_aload_n f dX5_turnOver_3 0 rfl ?_
  refine V_getE (x := M i 2) f dX5_turnOver_4 lf_5_18 rfl hi rfl ?_
  refine V_iconst (v := 2) f dX5_turnOver_7 (by decide) ?_
  refine V_idiv f dX5_turnOver_8 (by decide) ?_
  refine V_mmax f dX5_turnOver_9 ml_X5_40 ma_max ma_ini mc_max (by decide) (Nat.le_of_ble_eq_true rfl) (Nat.zero_le _) (Nat.zero_le _) ?_
  refine V_putI f dX5_turnOver_12 lf_5_18 lp_5_2 rfl rfl rfl rfl hi ?_
  refine V_aload_n f dX5_turnOver_15 0 rfl ?_
  refine V_dup f dX5_turnOver_16 rfl ?_
  refine V_getE (x := M i 7) f dX5_turnOver_17 lf_5_34 rfl hi (up_k (by decide) rfl) ?_
  refine V_iconst (v := 1) f dX5_turnOver_20 (by decide) ?_
  refine V_iadd f dX5_turnOver_21 ?_
  refine V_putI f dX5_turnOver_22 lf_5_34 lp_5_7 rfl rfl rfl rfl hi ?_
  exact V_vret f q dX5_turnOver_25 (Nat.zero_le _) (Nat.zero_le _) ⟨rfl, rfl, rfl, (by simp only [s_X5_turnOver])⟩
def s_X5_sendAway (M : MT) (i : Nat) : Int32 × MT := (M i 0, (up2 (up2 M i 0 0) i 8 1))
set_option maxHeartbeats 4000000 in
set_option maxRecDepth 100000 in
theorem c_X5_sendAway (l : Launch) (D : va_G) (cy : Nat → ClassId) (X : va_W) (ad : Nat → Nat) {Z : ZT} (M : MT) (i : Nat) {ni : Nat} {rsi : List (Option Nat)} (hi : Z[i]? = some (5, ni, rsi)) : CtI l yX5_sendAway cX5_sendAway 2 .int (rK 0) D cy X ad Z M [.ref (ad i)] (s_X5_sendAway M i).1 (s_X5_sendAway M i).2 := by
  refine Ctr.of (by decide +kernel) (Nat.le_of_ble_eq_true rfl) ?_
  intro K f q hnm hl0 hD0 hy0 hX0
  show V K ad 0 0 Z M 0 [(0, .ref (ad i))] []
  refine V_aload_n f dX5_sendAway_0 0 rfl ?_
  refine V_getE (x := M i 0) f dX5_sendAway_1 lf_5_9 rfl hi rfl ?_
  refine V_istore_n f dX5_sendAway_4 rfl (by decide) rfl ?_
  refine V_aload_n f dX5_sendAway_5 1 rfl ?_
  refine V_iconst (v := 0) f dX5_sendAway_6 (by decide) ?_
  refine V_putI f dX5_sendAway_7 lf_5_9 lp_5_0 rfl rfl rfl rfl hi ?_
  refine V_aload_n f dX5_sendAway_10 1 rfl ?_
  refine V_iconst (v := 1) f dX5_sendAway_11 (by decide) ?_
  refine V_putI f dX5_sendAway_12 lf_5_37 lp_5_8 rfl rfl rfl rfl hi ?_
  refine V_iload_n f dX5_sendAway_15 0 rfl ?_
  exact V_iret f q dX5_sendAway_16 rfl (Nat.zero_le _) (Nat.zero_le _) ⟨rfl, rfl, (by simp only [s_X5_sendAway]), (by simp only [s_X5_sendAway])⟩
def s_X5_tellOf (M : MT) (i : Nat) (a : Int32) : Int32 := (if a = 0 then (M i 0) else (if a = 1 then (M i 1) else (if a = 2 then (M i 2) else (if a = 3 then (M i 3) else (if a = 4 then (if (M i 4) = 0 then 0 else 1) else (if a = 5 then (M i 5) else (if a = 6 then (M i 6) else (if a = 7 then (M i 7) else (if a = 8 then (if (M i 8) = 0 then 0 else 1) else (-1))))))))))
set_option maxHeartbeats 4000000 in
set_option maxRecDepth 100000 in
theorem c_X5_tellOf (l : Launch) (D : va_G) (cy : Nat → ClassId) (X : va_W) (ad : Nat → Nat) {Z : ZT} (M : MT) (i : Nat) (a : Int32) {ni : Nat} {rsi : List (Option Nat)} (hi : Z[i]? = some (5, ni, rsi)) : CtI l yX5_tellOf cX5_tellOf 2 .int (rK 0) D cy X ad Z M [.ref (ad i), .int a] (s_X5_tellOf M i a) M := by
  refine Ctr.of (by decide +kernel) (Nat.le_of_ble_eq_true rfl) ?_
  intro K f q hnm hl0 hD0 hy0 hX0
  show V K ad 0 0 Z M 0 [(0, .ref (ad i)), (1, .int a)] []
  refine V_iload_n f dX5_tellOf_0 1 rfl ?_
  rcases Decidable.em (a = 0) with c1 | c1
  · refine V_tableIn (off := 51) (tgt := 52) f dX5_tellOf_1 (by rw [c1]; decide) (by rw [c1]; decide) (by rw [c1]; decide) (by decide) ?_
    refine V_aload_n f dX5_tellOf_52 0 rfl ?_
    refine V_getE (x := M i 0) f dX5_tellOf_53 lf_5_9 rfl hi rfl ?_
    exact V_iret f q dX5_tellOf_56 rfl (Nat.zero_le _) (Nat.zero_le _) ⟨rfl, rfl, (by simp only [s_X5_tellOf, if_pos c1]), rfl⟩
  rcases Decidable.em (a = 1) with c2 | c2
  · refine V_tableIn (off := 56) (tgt := 57) f dX5_tellOf_1 (by rw [c2]; decide) (by rw [c2]; decide) (by rw [c2]; decide) (by decide) ?_
    refine V_aload_n f dX5_tellOf_57 0 rfl ?_
    refine V_getE (x := M i 1) f dX5_tellOf_58 lf_5_15 rfl hi rfl ?_
    exact V_iret f q dX5_tellOf_61 rfl (Nat.zero_le _) (Nat.zero_le _) ⟨rfl, rfl, (by simp only [s_X5_tellOf, if_neg c1, if_pos c2]), rfl⟩
  rcases Decidable.em (a = 2) with c3 | c3
  · refine V_tableIn (off := 61) (tgt := 62) f dX5_tellOf_1 (by rw [c3]; decide) (by rw [c3]; decide) (by rw [c3]; decide) (by decide) ?_
    refine V_aload_n f dX5_tellOf_62 0 rfl ?_
    refine V_getE (x := M i 2) f dX5_tellOf_63 lf_5_18 rfl hi rfl ?_
    exact V_iret f q dX5_tellOf_66 rfl (Nat.zero_le _) (Nat.zero_le _) ⟨rfl, rfl, (by simp only [s_X5_tellOf, if_neg c1, if_neg c2, if_pos c3]), rfl⟩
  rcases Decidable.em (a = 3) with c4 | c4
  · refine V_tableIn (off := 66) (tgt := 67) f dX5_tellOf_1 (by rw [c4]; decide) (by rw [c4]; decide) (by rw [c4]; decide) (by decide) ?_
    refine V_aload_n f dX5_tellOf_67 0 rfl ?_
    refine V_getE (x := M i 3) f dX5_tellOf_68 lf_5_21 rfl hi rfl ?_
    exact V_iret f q dX5_tellOf_71 rfl (Nat.zero_le _) (Nat.zero_le _) ⟨rfl, rfl, (by simp only [s_X5_tellOf, if_neg c1, if_neg c2, if_neg c3, if_pos c4]), rfl⟩
  rcases Decidable.em (a = 4) with c5 | c5
  · refine V_tableIn (off := 71) (tgt := 72) f dX5_tellOf_1 (by rw [c5]; decide) (by rw [c5]; decide) (by rw [c5]; decide) (by decide) ?_
    refine V_aload_n f dX5_tellOf_72 0 rfl ?_
    refine V_getE (x := M i 4) f dX5_tellOf_73 lf_5_24 rfl hi rfl ?_
    refine V_if_eq (tgt := 83) f dX5_tellOf_76 (by decide) (fun c6 => ?_) (fun c6 => ?_)
    · refine V_iconst (v := 0) f dX5_tellOf_83 (by decide) ?_
      exact V_iret f q dX5_tellOf_84 rfl (Nat.zero_le _) (Nat.zero_le _) ⟨rfl, rfl, (by simp only [s_X5_tellOf, if_neg c1, if_neg c2, if_neg c3, if_neg c4, if_pos c5, if_pos c6]), rfl⟩
    · refine V_iconst (v := 1) f dX5_tellOf_79 (by decide) ?_
      refine V_goto (tgt := 84) f dX5_tellOf_80 (by decide) ?_
      exact V_iret f q dX5_tellOf_84 rfl (Nat.zero_le _) (Nat.zero_le _) ⟨rfl, rfl, (by simp only [s_X5_tellOf, if_neg c1, if_neg c2, if_neg c3, if_neg c4, if_pos c5, if_neg c6]), rfl⟩
  rcases Decidable.em (a = 5) with c7 | c7
  · refine V_tableIn (off := 84) (tgt := 85) f dX5_tellOf_1 (by rw [c7]; decide) (by rw [c7]; decide) (by rw [c7]; decide) (by decide) ?_
    refine V_aload_n f dX5_tellOf_85 0 rfl ?_
    refine V_getE (x := M i 5) f dX5_tellOf_86 lf_5_28 rfl hi rfl ?_
    exact V_iret f q dX5_tellOf_89 rfl (Nat.zero_le _) (Nat.zero_le _) ⟨rfl, rfl, (by simp only [s_X5_tellOf, if_neg c1, if_neg c2, if_neg c3, if_neg c4, if_neg c5, if_pos c7]), rfl⟩
  rcases Decidable.em (a = 6) with c8 | c8
  · refine V_tableIn (off := 89) (tgt := 90) f dX5_tellOf_1 (by rw [c8]; decide) (by rw [c8]; decide) (by rw [c8]; decide) (by decide) ?_
    refine V_aload_n f dX5_tellOf_90 0 rfl ?_
    refine V_getE (x := M i 6) f dX5_tellOf_91 lf_5_31 rfl hi rfl ?_
    exact V_iret f q dX5_tellOf_94 rfl (Nat.zero_le _) (Nat.zero_le _) ⟨rfl, rfl, (by simp only [s_X5_tellOf, if_neg c1, if_neg c2, if_neg c3, if_neg c4, if_neg c5, if_neg c7, if_pos c8]), rfl⟩
  rcases Decidable.em (a = 7) with c9 | c9
  · refine V_tableIn (off := 94) (tgt := 95) f dX5_tellOf_1 (by rw [c9]; decide) (by rw [c9]; decide) (by rw [c9]; decide) (by decide) ?_
    refine V_aload_n f dX5_tellOf_95 0 rfl ?_
    refine V_getE (x := M i 7) f dX5_tellOf_96 lf_5_34 rfl hi rfl ?_
    exact V_iret f q dX5_tellOf_99 rfl (Nat.zero_le _) (Nat.zero_le _) ⟨rfl, rfl, (by simp only [s_X5_tellOf, if_neg c1, if_neg c2, if_neg c3, if_neg c4, if_neg c5, if_neg c7, if_neg c8, if_pos c9]), rfl⟩
  rcases Decidable.em (a = 8) with c10 | c10
  · refine V_tableIn (off := 99) (tgt := 100) f dX5_tellOf_1 (by rw [c10]; decide) (by rw [c10]; decide) (by rw [c10]; decide) (by decide) ?_
    refine V_aload_n f dX5_tellOf_100 0 rfl ?_
    refine V_getE (x := M i 8) f dX5_tellOf_101 lf_5_37 rfl hi rfl ?_
    refine V_if_eq (tgt := 111) f dX5_tellOf_104 (by decide) (fun c11 => ?_) (fun c11 => ?_)
    · refine V_iconst (v := 0) f dX5_tellOf_111 (by decide) ?_
      exact V_iret f q dX5_tellOf_112 rfl (Nat.zero_le _) (Nat.zero_le _) ⟨rfl, rfl, (by simp only [s_X5_tellOf, if_neg c1, if_neg c2, if_neg c3, if_neg c4, if_neg c5, if_neg c7, if_neg c8, if_neg c9, if_pos c10, if_pos c11]), rfl⟩
    · refine V_iconst (v := 1) f dX5_tellOf_107 (by decide) ?_
      refine V_goto (tgt := 112) f dX5_tellOf_108 (by decide) ?_
      exact V_iret f q dX5_tellOf_112 rfl (Nat.zero_le _) (Nat.zero_le _) ⟨rfl, rfl, (by simp only [s_X5_tellOf, if_neg c1, if_neg c2, if_neg c3, if_neg c4, if_neg c5, if_neg c7, if_neg c8, if_neg c9, if_pos c10, if_neg c11]), rfl⟩
  refine V_tableOut (tgt := 113) f dX5_tellOf_1 (sw_out 0 8 9 [0, 1, 2, 3, 4, 5, 6, 7, 8] (by decide) (by decide) (List.forall_mem_cons.mpr ⟨c1, (List.forall_mem_cons.mpr ⟨c2, (List.forall_mem_cons.mpr ⟨c3, (List.forall_mem_cons.mpr ⟨c4, (List.forall_mem_cons.mpr ⟨c5, (List.forall_mem_cons.mpr ⟨c7, (List.forall_mem_cons.mpr ⟨c8, (List.forall_mem_cons.mpr ⟨c9, (List.forall_mem_cons.mpr ⟨c10, (fun _ h => absurd h List.not_mem_nil)⟩)⟩)⟩)⟩)⟩)⟩)⟩)⟩)⟩)) (by decide) ?_
  refine V_iconst (v := (-1)) f dX5_tellOf_113 (by decide) ?_
  exact V_iret f q dX5_tellOf_114 rfl (Nat.zero_le _) (Nat.zero_le _) ⟨rfl, rfl, (by simp only [s_X5_tellOf, if_neg c1, if_neg c2, if_neg c3, if_neg c4, if_neg c5, if_neg c7, if_neg c8, if_neg c9, if_neg c10]), rfl⟩
def s_X0_weather (M : MT) (i : Nat) (a : Int32) (b : Int32) (e : Int32) : MT := (if (s_X0_lies (up2 (up2 M i 4 0) i 5 (-1)) i) = 0 then (up2 (up2 M i 4 0) i 5 (-1)) else (if (M i 1) = 2 then (up2 (up2 (up2 M i 4 0) i 5 (-1)) i 3 (if ((if 0 < ((M i 3) - (((12 * a) + (6 * b)) / 2)) then ((M i 3) - (((12 * a) + (6 * b)) / 2)) else 0) + ((10 * e) / 4)) < 900 then ((if 0 < ((M i 3) - (((12 * a) + (6 * b)) / 2)) then ((M i 3) - (((12 * a) + (6 * b)) / 2)) else 0) + ((10 * e) / 4)) else 900)) else (up2 (up2 (up2 M i 4 0) i 5 (-1)) i 3 (if ((if 0 < ((M i 3) - ((12 * a) + (6 * b))) then ((M i 3) - ((12 * a) + (6 * b))) else 0) + (10 * e)) < 900 then ((if 0 < ((M i 3) - ((12 * a) + (6 * b))) then ((M i 3) - ((12 * a) + (6 * b))) else 0) + (10 * e)) else 900))))
set_option maxHeartbeats 4000000 in
set_option maxRecDepth 100000 in
theorem c_X0_weather (l : Launch) (D : va_G) (cy : Nat → ClassId) (X : va_W) (ad : Nat → Nat) {Z : ZT} (M : MT) (i : Nat) (a : Int32) (b : Int32) (e : Int32) {ni : Nat} {rsi : List (Option Nat)} (hi : Z[i]? = some (0, ni, rsi)) : CtV l yX0_weather cX0_weather 6 (rK 1) D cy X ad Z M [.ref (ad i), .int a, .int b, .int e] (s_X0_weather M i a b e) := by
  refine Ctr.of (by decide +kernel) (Nat.le_of_ble_eq_true rfl) ?_
  intro K f q hnm hl0 hD0 hy0 hX0
  show V K ad 0 0 Z M 0 [(0, .ref (ad i)), (1, .int a), (2, .int b), (3, .int e)] []
  refine V_aload_n f dX0_weather_0 0 rfl ?_
  refine V_iconst (v := 0) f dX0_weather_1 (by decide) ?_
  refine V_putI f dX0_weather_2 lf_0_24 lp_0_4 rfl rfl rfl rfl hi ?_
  refine V_aload_n f dX0_weather_5 0 rfl ?_
  refine V_iconst (v := (-1)) f dX0_weather_6 (by decide) ?_
  refine V_putI f dX0_weather_7 lf_0_27 lp_0_5 rfl rfl rfl rfl hi ?_
  refine V_aload_n f dX0_weather_10 0 rfl ?_
  refine V_cVi (As := []) (rest := []) f dX0_weather_11 lk_X0_33 ml_X0_33 ins_X0_lies sel_X0_lies hi (by decide) rfl (c_X0_lies (kl K) (kD K) (ky K) (kX K) ad (up2 (up2 M i 4 0) i 5 (-1)) i hi) rfl (Nat.le_of_ble_eq_true rfl) rfl ⟨by decide, by decide⟩ ⟨Nat.zero_le _, Nat.zero_le _⟩ rfl rfl ?_
  refine V_if_ne (tgt := 18) f dX0_weather_14 (by decide) (fun c1 => ?_) (fun c1 => ?_)
  · refine V_bipush (v := 12) f dX0_weather_18 (by decide) ?_
    refine V_iload_n f dX0_weather_20 1 rfl ?_
    refine V_imul f dX0_weather_21 ?_
    refine V_bipush (v := 6) f dX0_weather_22 (by decide) ?_
    refine V_iload_n f dX0_weather_24 2 rfl ?_
    refine V_imul f dX0_weather_25 ?_
    refine V_iadd f dX0_weather_26 ?_
    refine V_istore f dX0_weather_27 (by decide) rfl ?_
    refine V_bipush (v := 10) f dX0_weather_29 (by decide) ?_
    refine V_iload_n f dX0_weather_31 4 rfl ?_
    refine V_imul f dX0_weather_32 ?_
    refine V_istore f dX0_weather_33 (by decide) rfl ?_
    refine V_aload_n f dX0_weather_35 2 rfl ?_
    refine V_getE (x := M i 1) f dX0_weather_36 lf_0_15 rfl hi (up_k (by decide) (up_k (by decide) rfl)) ?_
    refine V_iconst (v := 2) f dX0_weather_39 (by decide) ?_
    refine V_icmp_ne (tgt := 55) f dX0_weather_40 (by decide) (fun c2 => ?_) (fun c2 => ?_)
    · refine V_aload_n f dX0_weather_55 2 rfl ?_
      refine V_sipush (v := 900) f dX0_weather_56 (by decide) ?_
      refine V_iconst (v := 0) f dX0_weather_59 (by decide) ?_
      refine V_aload_n f dX0_weather_60 2 rfl ?_
      refine V_getE (x := M i 3) f dX0_weather_61 lf_0_21 rfl hi (up_k (by decide) (up_k (by decide) rfl)) ?_
      refine V_iload f dX0_weather_64 1 rfl ?_
      refine V_isub f dX0_weather_66 ?_
      refine V_mmax f dX0_weather_67 ml_X0_37 ma_max ma_ini mc_max (by decide) (Nat.le_of_ble_eq_true rfl) (Nat.zero_le _) (Nat.zero_le _) ?_
      refine V_iload f dX0_weather_70 0 rfl ?_
      refine V_iadd f dX0_weather_72 ?_
      refine V_mmin f dX0_weather_73 ml_X0_43 ma_min ma_ini mc_min (by decide) (Nat.le_of_ble_eq_true rfl) (Nat.zero_le _) (Nat.zero_le _) ?_
      refine V_putI f dX0_weather_76 lf_0_21 lp_0_3 rfl rfl rfl rfl hi ?_
      exact V_vret f q dX0_weather_79 (Nat.zero_le _) (Nat.zero_le _) ⟨rfl, rfl, rfl, (by simp only [s_X0_weather, if_neg c1, if_neg c2])⟩
    · refine V_iload f dX0_weather_43 1 rfl ?_
      refine V_iconst (v := 2) f dX0_weather_45 (by decide) ?_
      refine V_idiv f dX0_weather_46 (by decide) ?_
      refine V_istore f dX0_weather_47 (by decide) rfl ?_
      refine V_iload f dX0_weather_49 1 rfl ?_
      refine V_iconst (v := 4) f dX0_weather_51 (by decide) ?_
      refine V_idiv f dX0_weather_52 (by decide) ?_
      refine V_istore f dX0_weather_53 (by decide) rfl ?_
      refine V_aload_n f dX0_weather_55 2 rfl ?_
      refine V_sipush (v := 900) f dX0_weather_56 (by decide) ?_
      refine V_iconst (v := 0) f dX0_weather_59 (by decide) ?_
      refine V_aload_n f dX0_weather_60 2 rfl ?_
      refine V_getE (x := M i 3) f dX0_weather_61 lf_0_21 rfl hi (up_k (by decide) (up_k (by decide) rfl)) ?_
      refine V_iload f dX0_weather_64 1 rfl ?_
      refine V_isub f dX0_weather_66 ?_
      refine V_mmax f dX0_weather_67 ml_X0_37 ma_max ma_ini mc_max (by decide) (Nat.le_of_ble_eq_true rfl) (Nat.zero_le _) (Nat.zero_le _) ?_
      refine V_iload f dX0_weather_70 0 rfl ?_
      refine V_iadd f dX0_weather_72 ?_
      refine V_mmin f dX0_weather_73 ml_X0_43 ma_min ma_ini mc_min (by decide) (Nat.le_of_ble_eq_true rfl) (Nat.zero_le _) (Nat.zero_le _) ?_
      refine V_putI f dX0_weather_76 lf_0_21 lp_0_3 rfl rfl rfl rfl hi ?_
      exact V_vret f q dX0_weather_79 (Nat.zero_le _) (Nat.zero_le _) ⟨rfl, rfl, rfl, (by simp only [s_X0_weather, if_neg c1, if_pos c2])⟩
  · exact V_vret f q dX0_weather_17 (Nat.zero_le _) (Nat.zero_le _) ⟨rfl, rfl, rfl, (by simp only [s_X0_weather, if_pos c1])⟩
def s_X1_begin (M : MT) (i : Nat) (a : Int32) (b : Int32) : MT := (up2 (up2 (up2 (up2 (up2 (up2 M i 0 a) i 1 b) i 2 550) i 3 0) i 4 0) i 9 0)
set_option maxHeartbeats 4000000 in
set_option maxRecDepth 100000 in
theorem c_X1_begin (l : Launch) (D : va_G) (cy : Nat → ClassId) (X : va_W) (ad : Nat → Nat) (M : MT) (i : Nat) (a : Int32) (b : Int32) (hz : LawZ i) : CtV l yX1_begin cX1_begin 3 (rK 0) D cy X ad ZB M [.ref (ad i), .int a, .int b] (s_X1_begin M i a b) := by
  refine Ctr.of (by decide +kernel) (Nat.le_of_ble_eq_true rfl) ?_
  intro K f q hnm hl0 hD0 hy0 hX0
  show V K ad 0 0 ZB M 0 [(0, .ref (ad i)), (1, .int a), (2, .int b)] []
  refine V_aload_n f dX1_begin_0 0 rfl ?_
  refine V_iload_n f dX1_begin_1 1 rfl ?_
  refine V_putI f dX1_begin_2 lf_1_9 lp_1_0 rfl rfl rfl rfl (zL hz) ?_
  refine V_aload_n f dX1_begin_5 0 rfl ?_
  refine V_iload_n f dX1_begin_6 2 rfl ?_
  refine V_putI f dX1_begin_7 lf_1_15 lp_1_1 rfl rfl rfl rfl (zL hz) ?_
  refine V_aload_n f dX1_begin_10 0 rfl ?_
  refine V_sipush (v := 550) f dX1_begin_11 (by decide) ?_
  refine V_putI f dX1_begin_14 lf_1_18 lp_1_2 rfl rfl rfl rfl (zL hz) ?_
  refine V_aload_n f dX1_begin_17 0 rfl ?_
  refine V_iconst (v := 0) f dX1_begin_18 (by decide) ?_
  refine V_putI f dX1_begin_19 lf_1_21 lp_1_3 rfl rfl rfl rfl (zL hz) ?_
  refine V_aload_n f dX1_begin_22 0 rfl ?_
  refine V_iconst (v := 0) f dX1_begin_23 (by decide) ?_
  refine V_putI f dX1_begin_24 lf_1_24 lp_1_4 rfl rfl rfl rfl (zL hz) ?_
  refine V_aload_n f dX1_begin_27 0 rfl ?_
  refine V_iconst (v := 0) f dX1_begin_28 (by decide) ?_
  refine V_putI f dX1_begin_29 lf_1_40 lp_1_9 rfl rfl rfl rfl (zL hz) ?_
  exact V_vret f q dX1_begin_32 (Nat.zero_le _) (Nat.zero_le _) ⟨rfl, rfl, rfl, (by simp only [s_X1_begin])⟩
def s_X8_within (M : MT) (a : Int32) (b : Int32) (e : Int32) : Int32 := (if a < b then 0 else (if e < a then 0 else 1))
theorem b_X8_within (M : MT) (a : Int32) (b : Int32) (e : Int32) : s_X8_within M a b e = 0 ∨ s_X8_within M a b e = 1 := by unfold s_X8_within; first | (repeat' split) <;> simp | (repeat' split) <;> first | exact Or.inl rfl | exact Or.inr rfl | simp [*]
set_option maxHeartbeats 4000000 in
set_option maxRecDepth 100000 in
theorem c_X8_within (l : Launch) (D : va_G) (cy : Nat → ClassId) (X : va_W) (ad : Nat → Nat) {Z : ZT} (M : MT) (a : Int32) (b : Int32) (e : Int32) : CtI l yX8_within cX8_within 3 .boolean (rK 0) D cy X ad Z M [.int a, .int b, .int e] (s_X8_within M a b e) M := by
  refine Ctr.of (by decide +kernel) (Nat.le_of_ble_eq_true rfl) ?_
  intro K f q hnm hl0 hD0 hy0 hX0
  show V K ad 0 0 Z M 0 [(0, .int a), (1, .int b), (2, .int e)] []
  refine V_iload_n f dX8_within_0 0 rfl ?_
  refine V_iload_n f dX8_within_1 1 rfl ?_
  refine V_icmp_lt (tgt := 14) f dX8_within_2 (by decide) (fun c1 => ?_) (fun c1 => ?_)
  · refine V_iconst (v := 0) f dX8_within_14 (by decide) ?_
    exact V_iret f q dX8_within_15 rfl (Nat.zero_le _) (Nat.zero_le _) ⟨rfl, rfl, (by simp only [s_X8_within, if_pos c1]), rfl⟩
  · refine V_iload_n f dX8_within_5 0 rfl ?_
    refine V_iload_n f dX8_within_6 2 rfl ?_
    refine V_icmp_gt (tgt := 14) f dX8_within_7 (by decide) (fun c2 => ?_) (fun c2 => ?_)
    · refine V_iconst (v := 0) f dX8_within_14 (by decide) ?_
      exact V_iret f q dX8_within_15 rfl (Nat.zero_le _) (Nat.zero_le _) ⟨rfl, rfl, (by simp only [s_X8_within, if_neg c1, if_pos c2]), rfl⟩
    · refine V_iconst (v := 1) f dX8_within_10 (by decide) ?_
      refine V_goto (tgt := 15) f dX8_within_11 (by decide) ?_
      exact V_iret f q dX8_within_15 rfl (Nat.zero_le _) (Nat.zero_le _) ⟨rfl, rfl, (by simp only [s_X8_within, if_neg c1, if_neg c2]), rfl⟩
def s_X8_isBay (M : MT) (a : Int32) : Int32 := (s_X8_within M a 0 15)
theorem b_X8_isBay (M : MT) (a : Int32) : s_X8_isBay M a = 0 ∨ s_X8_isBay M a = 1 := by unfold s_X8_isBay; exact b_X8_within M a 0 15
set_option maxHeartbeats 4000000 in
set_option maxRecDepth 100000 in
theorem c_X8_isBay (l : Launch) (D : va_G) (cy : Nat → ClassId) (X : va_W) (ad : Nat → Nat) {Z : ZT} (M : MT) (a : Int32) : CtI l yX8_isBay cX8_isBay 1 .boolean (rK 1) D cy X ad Z M [.int a] (s_X8_isBay M a) M := by
  refine Ctr.of (by decide +kernel) (Nat.le_of_ble_eq_true rfl) ?_
  intro K f q hnm hl0 hD0 hy0 hX0
  show V K ad 0 0 Z M 0 [(0, .int a)] []
  refine V_iload_n f dX8_isBay_0 0 rfl ?_
  refine V_iconst (v := 0) f dX8_isBay_1 (by decide) ?_
  refine V_bipush (v := 15) f dX8_isBay_2 (by decide) ?_
  refine V_cSi (As := [.int a, .int 0, .int 15]) (rest := []) f dX8_isBay_4 lk_X8_90 ml_X8_90 sta_X8_within (c_X8_within (kl K) (kD K) (ky K) (kX K) ad M a 0 15) rfl (Nat.le_of_ble_eq_true rfl) rfl ⟨by decide, by decide⟩ ⟨Nat.zero_le _, Nat.zero_le _⟩ rfl rfl ?_
  exact V_iret f q dX8_isBay_7 (nbz (b_X8_within M a 0 15)) (Nat.zero_le _) (Nat.zero_le _) ⟨rfl, rfl, (by simp only [s_X8_isBay]), rfl⟩
theorem within_of {M : MT} {a b e : Int32} (h : ¬ s_X8_within M a b e = 0) : b ≤ a ∧ a ≤ e := by
  unfold s_X8_within at h
  by_cases h1 : a < b
  · simp [h1] at h
  · by_cases h2 : e < a
    · simp [h1, h2] at h
    · exact ⟨Int32.not_lt.mp h1, Int32.not_lt.mp h2⟩
theorem vin_rng {x e : Int32} {n : Nat} (h : 0 ≤ x ∧ x ≤ e) (hn : e.toInt < n) : vp_in x n := by
  rw [vp_in_iff]
  have a1 := Int32.le_iff_toInt_le.mp h.1
  have a2 := Int32.le_iff_toInt_le.mp h.2
  have e0 : (0 : Int32).toInt = 0 := by decide
  omega
theorem isBay_in {M : MT} {a : Int32} (h : ¬ s_X8_isBay M a = 0) : vp_in a 16 := vin_rng (within_of (M := M) h) (by decide)

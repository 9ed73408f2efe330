theorem Kp_0 {M M1 : MT} (h : Kp dP M M1) {k : Nat} (hk : ¬ k = 8 ∧ ¬ k = 9 ∧ ¬ k = 10 ∧ ¬ k = 11 ∧ ¬ k = 14) (v : Int32) : Kp dP M (up2 M1 0 k v) := ⟨InvB_0 h.1 ⟨hk.1, hk.2.1⟩ v, up_k (fun q => hk.1 q.symm) h.2.1, up_k (fun q => hk.2.2.1 q.symm) h.2.2.1, up_k (fun q => hk.2.2.2.1 q.symm) h.2.2.2.1, up_k (fun q => hk.2.1 q.symm) h.2.2.2.2.1, up_k (fun q => hk.2.2.2.2 q.symm) h.2.2.2.2.2.1, fun j hj => (upo (by unfold dP at hj; omega)).trans (h.2.2.2.2.2.2 j hj)⟩
theorem Kp_turn {M M1 : MT} (h : Kp dP M M1) {b : Nat} (hb : b < 10) : Kp dP M (s_X5_turnOver M1 (44 + b)) := by
  unfold s_X5_turnOver
  exact Kp_nr (Kp_nr h (nr44 hb) _ _) (nr44 hb) _ _
theorem Kp_send {M M1 : MT} (h : Kp dP M M1) {b : Nat} (hb : b < 10) : Kp dP M (s_X5_sendAway M1 (44 + b)).2 := by
  unfold s_X5_sendAway
  exact Kp_nr (Kp_nr h (nr44 hb) _ _) (nr44 hb) _ _

set_option maxHeartbeats 4000000 in
theorem Kp_glow {M0 M : MT} (h : Kp dP M0 M) (i : Nat) (a : Int32) (b : Int32) (hi : nrD i) : Kp dP M0 (s_X5_glow M i a b).2 := by
  unfold s_X5_glow
  by_cases q1 : 0 < (M i 0)
  · rw [if_pos q1]
    by_cases q2 : (M i 4) = 0
    · rw [if_pos q2]
      by_cases q3 : (M i 1) ≤ 500
      · rw [if_pos q3]
        by_cases q4 : a ≤ 20
        · rw [if_pos q4]
          by_cases q5 : (if (if 10 < (((((M i 2) + 1) + ((M i 0) / 500)) + 0) - 0) then (((((M i 2) + 1) + ((M i 0) / 500)) + 0) - 0) else 10) < 100 then (if 10 < (((((M i 2) + 1) + ((M i 0) / 500)) + 0) - 0) then (((((M i 2) + 1) + ((M i 0) / 500)) + 0) - 0) else 10) else 100) = 100
          · rw [if_pos q5]
            exact Kp_nr (Kp_nr (Kp_nr (h) hi _ _) hi _ _) hi _ _
          · rw [if_neg q5]
            exact Kp_nr (h) hi _ _
        · rw [if_neg q4]
          by_cases q6 : (if (if 10 < (((((M i 2) + 1) + ((M i 0) / 500)) + 0) - 3) then (((((M i 2) + 1) + ((M i 0) / 500)) + 0) - 3) else 10) < 100 then (if 10 < (((((M i 2) + 1) + ((M i 0) / 500)) + 0) - 3) then (((((M i 2) + 1) + ((M i 0) / 500)) + 0) - 3) else 10) else 100) = 100
          · rw [if_pos q6]
            exact Kp_nr (Kp_nr (Kp_nr (h) hi _ _) hi _ _) hi _ _
          · rw [if_neg q6]
            exact Kp_nr (h) hi _ _
      · rw [if_neg q3]
        by_cases q7 : a ≤ 20
        · rw [if_pos q7]
          by_cases q8 : (if (if 10 < (((((M i 2) + 1) + ((M i 0) / 500)) + 2) - 0) then (((((M i 2) + 1) + ((M i 0) / 500)) + 2) - 0) else 10) < 100 then (if 10 < (((((M i 2) + 1) + ((M i 0) / 500)) + 2) - 0) then (((((M i 2) + 1) + ((M i 0) / 500)) + 2) - 0) else 10) else 100) = 100
          · rw [if_pos q8]
            exact Kp_nr (Kp_nr (Kp_nr (h) hi _ _) hi _ _) hi _ _
          · rw [if_neg q8]
            exact Kp_nr (h) hi _ _
        · rw [if_neg q7]
          by_cases q9 : (if (if 10 < (((((M i 2) + 1) + ((M i 0) / 500)) + 2) - 3) then (((((M i 2) + 1) + ((M i 0) / 500)) + 2) - 3) else 10) < 100 then (if 10 < (((((M i 2) + 1) + ((M i 0) / 500)) + 2) - 3) then (((((M i 2) + 1) + ((M i 0) / 500)) + 2) - 3) else 10) else 100) = 100
          · rw [if_pos q9]
            exact Kp_nr (Kp_nr (Kp_nr (h) hi _ _) hi _ _) hi _ _
          · rw [if_neg q9]
            exact Kp_nr (h) hi _ _
    · rw [if_neg q2]
      exact Kp_nr (h) hi _ _
  · rw [if_neg q1]
    exact h
set_option maxHeartbeats 4000000 in
theorem Kp_weather {M0 M : MT} (h : Kp dP M0 M) (i : Nat) (a : Int32) (b : Int32) (e : Int32) (hi : nrD i) : Kp dP M0 (s_X0_weather M i a b e) := by
  unfold s_X0_weather
  by_cases q1 : (s_X0_lies (up2 (up2 M i 4 0) i 5 (-1)) i) = 0
  · rw [if_pos q1]
    exact Kp_nr (Kp_nr (h) hi _ _) hi _ _
  · rw [if_neg q1]
    by_cases q2 : (M i 1) = 2
    · rw [if_pos q2]
      exact Kp_nr (Kp_nr (Kp_nr (h) hi _ _) hi _ _) hi _ _
    · rw [if_neg q2]
      exact Kp_nr (Kp_nr (Kp_nr (h) hi _ _) hi _ _) hi _ _
set_option maxHeartbeats 4000000 in
set_option maxRecDepth 100000 in
theorem c3_X4_takeWanted (l : Launch) (D : va_G) (cy : Nat → ClassId) (X : va_W) (ad : Nat → Nat) (M : MT) (a : Int32) (hI : InvB M) : CtP l yX4_takeWanted cX4_takeWanted 6 none (rK 1) D cy X ad ZB M [.ref (ad 14), .ref (ad 2), .int a] (fun v M1 => v = none ∧ Kp dP M M1) := by
  refine Ctr.of (by decide +kernel) (Nat.le_of_ble_eq_true rfl) ?_
  intro K f q hnm hl0 hD0 hy0 hX0
  show V K ad 0 0 ZB M 0 [(0, .ref (ad 14)), (1, .ref (ad 2)), (2, .int a)] []
  have loop : ∀ (n : Nat) (x t3 t4 : Int32) (M1 : MT), 0 ≤ x.toInt → x.toInt + (n : Nat) = 1000 → Kp dP M M1 → V K ad 0 0 ZB M1 34 [(5, .int x), (3, .int t3), (4, .int t4), (0, .ref (ad 14)), (1, .ref (ad 2)), (2, .int a)] [] := by
    intro n
    induction n using Nat.strongRecOn with
    | ind n ih =>
      intro x t3 t4 M1 x0 hx hK1
      refine V_iload f dX4_takeWanted_34 0 rfl ?_
      refine V_iload_n f dX4_takeWanted_36 5 rfl ?_
      refine V_icmp_ge (tgt := 95) f dX4_takeWanted_37 (by decide) (fun c1 => ?_) (fun c1 => ?_)
      · refine V_aload_n f dX4_takeWanted_95 3 rfl ?_
        refine V_dup f dX4_takeWanted_96 rfl ?_
        refine V_getE (x := M1 14 2) f dX4_takeWanted_97 lf_4_16 rfl zb_14 rfl ?_
        refine V_aload_n f dX4_takeWanted_100 3 rfl ?_
        refine V_getE (x := M1 14 0) f dX4_takeWanted_101 lf_4_7 rfl zb_14 rfl ?_
        refine V_iload_n f dX4_takeWanted_104 1 rfl ?_
        refine V_isub f dX4_takeWanted_105 ?_
        refine V_iadd f dX4_takeWanted_106 ?_
        refine V_putI f dX4_takeWanted_107 lf_4_16 lp_4_2 rfl rfl rfl rfl zb_14 ?_
        refine V_aload_n f dX4_takeWanted_110 3 rfl ?_
        refine V_dup f dX4_takeWanted_111 rfl ?_
        refine V_getE (x := M1 14 3) f dX4_takeWanted_112 lf_4_19 rfl zb_14 (up_k (by decide) rfl) ?_
        refine V_iload_n f dX4_takeWanted_115 1 rfl ?_
        refine V_iadd f dX4_takeWanted_116 ?_
        refine V_putI f dX4_takeWanted_117 lf_4_19 lp_4_3 rfl rfl rfl rfl zb_14 ?_
        refine V_aload_n f dX4_takeWanted_120 3 rfl ?_
        refine V_iload_n f dX4_takeWanted_121 1 rfl ?_
        refine V_putI f dX4_takeWanted_122 lf_4_22 lp_4_4 rfl rfl rfl rfl zb_14 ?_
        exact V_vret f q dX4_takeWanted_125 (Nat.zero_le _) (Nat.zero_le _) ⟨rfl, rfl, rfl, (Kp_nr (Kp_nr (Kp_nr hK1 (Or.inl rfl) _ _) (Or.inl rfl) _ _) (Or.inl rfl) _ _)⟩
      · refine V_iload f dX4_takeWanted_40 0 rfl ?_
        refine V_aload_n f dX4_takeWanted_42 4 rfl ?_
        refine V_alen (t0 := 5) f dX4_takeWanted_43 zb_2 (by decide) rfl ?_
        refine V_icmp_ge (tgt := 95) f dX4_takeWanted_44 (by decide) (fun c2 => ?_) (fun c2 => ?_)
        · refine V_aload_n f dX4_takeWanted_95 3 rfl ?_
          refine V_dup f dX4_takeWanted_96 rfl ?_
          refine V_getE (x := M1 14 2) f dX4_takeWanted_97 lf_4_16 rfl zb_14 rfl ?_
          refine V_aload_n f dX4_takeWanted_100 3 rfl ?_
          refine V_getE (x := M1 14 0) f dX4_takeWanted_101 lf_4_7 rfl zb_14 rfl ?_
          refine V_iload_n f dX4_takeWanted_104 1 rfl ?_
          refine V_isub f dX4_takeWanted_105 ?_
          refine V_iadd f dX4_takeWanted_106 ?_
          refine V_putI f dX4_takeWanted_107 lf_4_16 lp_4_2 rfl rfl rfl rfl zb_14 ?_
          refine V_aload_n f dX4_takeWanted_110 3 rfl ?_
          refine V_dup f dX4_takeWanted_111 rfl ?_
          refine V_getE (x := M1 14 3) f dX4_takeWanted_112 lf_4_19 rfl zb_14 (up_k (by decide) rfl) ?_
          refine V_iload_n f dX4_takeWanted_115 1 rfl ?_
          refine V_iadd f dX4_takeWanted_116 ?_
          refine V_putI f dX4_takeWanted_117 lf_4_19 lp_4_3 rfl rfl rfl rfl zb_14 ?_
          refine V_aload_n f dX4_takeWanted_120 3 rfl ?_
          refine V_iload_n f dX4_takeWanted_121 1 rfl ?_
          refine V_putI f dX4_takeWanted_122 lf_4_22 lp_4_4 rfl rfl rfl rfl zb_14 ?_
          exact V_vret f q dX4_takeWanted_125 (Nat.zero_le _) (Nat.zero_le _) ⟨rfl, rfl, rfl, (Kp_nr (Kp_nr (Kp_nr hK1 (Or.inl rfl) _ _) (Or.inl rfl) _ _) (Or.inl rfl) _ _)⟩
        · refine V_aload_n f dX4_takeWanted_47 4 rfl ?_
          refine V_iload f dX4_takeWanted_48 0 rfl ?_
          refine V_aald (t0 := 5) f dX4_takeWanted_50 zb_2 (by decide) rfl (vinN x0 c2 (n := 10) (by decide)) (eStk (vlt (vinN x0 c2 (n := 10) (by decide)))) ?_
          refine V_getE (x := M1 (44 + Int32.toNatClampNeg x) 4) f dX4_takeWanted_51 lf_4_31 rfl (zStk (vlt (vinN x0 c2 (n := 10) (by decide)))) rfl ?_
          refine V_if_ne (tgt := 89) f dX4_takeWanted_54 (by decide) (fun c3 => ?_) (fun c3 => ?_)
          · refine V_iinc (v := x + 1) f dX4_takeWanted_89 0 rfl rfl (by decide) rfl ?_
            refine V_goto (tgt := 34) f dX4_takeWanted_92 (by decide) ?_
            obtain ⟨k9, e9, y0, y1⟩ := lo_inc x0 hx c2 (by decide)
            exact ih k9 (by omega) (x + 1) _ _ _ y0 y1 hK1
          · refine V_iload_n f dX4_takeWanted_57 1 rfl ?_
            refine V_aload_n f dX4_takeWanted_58 4 rfl ?_
            refine V_iload f dX4_takeWanted_59 0 rfl ?_
            refine V_aald (t0 := 5) f dX4_takeWanted_61 zb_2 (by decide) rfl (vinN x0 c2 (n := 10) (by decide)) (eStk (vlt (vinN x0 c2 (n := 10) (by decide)))) ?_
            refine V_getE (x := M1 (44 + Int32.toNatClampNeg x) 0) f dX4_takeWanted_62 lf_4_37 rfl (zStk (vlt (vinN x0 c2 (n := 10) (by decide)))) rfl ?_
            refine V_mmin f dX4_takeWanted_65 ml_X4_25 ma_min ma_ini mc_min (by decide) (Nat.le_of_ble_eq_true rfl) (Nat.zero_le _) (Nat.zero_le _) ?_
            refine V_istore f dX4_takeWanted_68 (by decide) rfl ?_
            refine V_aload_n f dX4_takeWanted_70 4 rfl ?_
            refine V_iload f dX4_takeWanted_71 1 rfl ?_
            refine V_aald (t0 := 5) f dX4_takeWanted_73 zb_2 (by decide) rfl (vinN x0 c2 (n := 10) (by decide)) (eStk (vlt (vinN x0 c2 (n := 10) (by decide)))) ?_
            refine V_dup f dX4_takeWanted_74 rfl ?_
            refine V_getE (x := M1 (44 + Int32.toNatClampNeg x) 0) f dX4_takeWanted_75 lf_4_37 rfl (zStk (vlt (vinN x0 c2 (n := 10) (by decide)))) rfl ?_
            refine V_iload f dX4_takeWanted_78 0 rfl ?_
            refine V_isub f dX4_takeWanted_80 ?_
            refine V_putI f dX4_takeWanted_81 lf_4_37 lp_5_0 rfl rfl rfl rfl (zStk (vlt (vinN x0 c2 (n := 10) (by decide)))) ?_
            refine V_iload_n f dX4_takeWanted_84 2 rfl ?_
            refine V_iload f dX4_takeWanted_85 0 rfl ?_
            refine V_isub f dX4_takeWanted_87 ?_
            refine V_istore_n f dX4_takeWanted_88 rfl (by decide) rfl ?_
            refine V_iinc (v := x + 1) f dX4_takeWanted_89 2 rfl rfl (by decide) rfl ?_
            refine V_goto (tgt := 34) f dX4_takeWanted_92 (by decide) ?_
            obtain ⟨k9, e9, y0, y1⟩ := lo_inc x0 hx c2 (by decide)
            exact ih k9 (by omega) (x + 1) _ _ _ y0 y1 (Kp_nr hK1 (nr44 (vlt (vinN x0 c2 (n := 10) (by decide)))) _ _)
  refine V_aload_n f dX4_takeWanted_0 0 rfl ?_
  refine V_getE (x := M 14 0) f dX4_takeWanted_1 lf_4_7 rfl zb_14 rfl ?_
  refine V_istore_n f dX4_takeWanted_4 rfl (by decide) rfl ?_
  refine V_iload_n f dX4_takeWanted_5 0 rfl ?_
  refine V_aload_n f dX4_takeWanted_6 1 rfl ?_
  refine V_getE (x := M 14 1) f dX4_takeWanted_7 lf_4_13 rfl zb_14 rfl ?_
  refine V_mmin f dX4_takeWanted_10 ml_X4_25 ma_min ma_ini mc_min (by decide) (Nat.le_of_ble_eq_true rfl) (Nat.zero_le _) (Nat.zero_le _) ?_
  refine V_istore f dX4_takeWanted_13 (by decide) rfl ?_
  refine V_aload_n f dX4_takeWanted_15 2 rfl ?_
  refine V_dup f dX4_takeWanted_16 rfl ?_
  refine V_getE (x := M 14 1) f dX4_takeWanted_17 lf_4_13 rfl zb_14 rfl ?_
  refine V_iload f dX4_takeWanted_20 0 rfl ?_
  refine V_isub f dX4_takeWanted_22 ?_
  refine V_putI f dX4_takeWanted_23 lf_4_13 lp_4_1 rfl rfl rfl rfl zb_14 ?_
  refine V_iload_n f dX4_takeWanted_26 1 rfl ?_
  refine V_iload f dX4_takeWanted_27 0 rfl ?_
  refine V_isub f dX4_takeWanted_29 ?_
  refine V_istore_n f dX4_takeWanted_30 rfl (by decide) rfl ?_
  refine V_iconst (v := 0) f dX4_takeWanted_31 (by decide) ?_
  refine V_istore f dX4_takeWanted_32 (by decide) rfl ?_
  exact loop 1000 0 _ _ _ (by decide) (by decide) (Kp_nr (Kp_refl hI) (Or.inl rfl) _ _)
set_option maxHeartbeats 4000000 in
set_option maxRecDepth 100000 in
theorem c3_X8_applyLaw (l : Launch) (D : va_G) (cy : Nat → ClassId) (X : va_W) (ad : Nat → Nat) (M : MT) (i : Nat) (hz : LawZ i) (hI : InvB M) : CtP l yX8_applyLaw cX8_applyLaw 5 none (rK 4) D cy X ad ZB M [.ref (ad 0), .ref (ad i)] (fun v M1 => v = none ∧ Kp dP M M1) := by
  refine Ctr.of (by decide +kernel) (Nat.le_of_ble_eq_true rfl) ?_
  intro K f q hnm hl0 hD0 hy0 hX0
  show V K ad 0 0 ZB M 0 [(0, .ref (ad 0)), (1, .ref (ad i))] []
  have loop : ∀ (n : Nat) (x : Int32) (M1 : MT), 0 ≤ x.toInt → x.toInt + (n : Nat) = 1000 → Kp dP M M1 → V K ad 0 0 ZB M1 2 [(2, .int x), (0, .ref (ad 0)), (1, .ref (ad i))] [] := by
    intro n
    induction n using Nat.strongRecOn with
    | ind n ih =>
      intro x M1 x0 hx hK1
      refine V_iload_n f dX8_applyLaw_2 0 rfl ?_
      refine V_aload_n f dX8_applyLaw_3 1 rfl ?_
      refine V_getE (x := M1 0 8) f dX8_applyLaw_4 lf_8_62 rfl zb_0 rfl ?_
      refine V_icmp_ge (tgt := 96) f dX8_applyLaw_7 (by decide) (fun c1 => ?_) (fun c1 => ?_)
      · exact V_vret f q dX8_applyLaw_96 (Nat.zero_le _) (Nat.zero_le _) ⟨rfl, rfl, rfl, hK1⟩
      · refine V_aload_n f dX8_applyLaw_10 1 rfl ?_
        refine V_getR f dX8_applyLaw_11 lf_8_17 rfl zb_0 rfl ?_
        refine V_iload_n f dX8_applyLaw_14 0 rfl ?_
        refine V_aald (t0 := 5) f dX8_applyLaw_15 zb_2 (by decide) rfl (vinN x0 c1 hK1.1.1.2) (eStk (vlt (vinN x0 c1 hK1.1.1.2))) ?_
        refine V_astore_n f dX8_applyLaw_16 rfl (by decide) rfl ?_
        refine V_aload_n f dX8_applyLaw_17 0 rfl ?_
        refine V_getE (x := M1 (44 + Int32.toNatClampNeg x) 0) f dX8_applyLaw_18 lf_8_226 rfl (zStk (vlt (vinN x0 c1 hK1.1.1.2))) rfl ?_
        refine V_if_le (tgt := 90) f dX8_applyLaw_21 (by decide) (fun c2 => ?_) (fun c2 => ?_)
        · refine V_iinc (v := x + 1) f dX8_applyLaw_90 1 rfl rfl (by decide) rfl ?_
          refine V_goto (tgt := 2) f dX8_applyLaw_93 (by decide) ?_
          obtain ⟨k9, e9, y0, y1⟩ := lo_inc x0 hx c1 (by have := hK1.1.1.2; omega)
          refine V.sub [0, 2, 3] rfl ?_
          exact ih k9 (by omega) (x + 1) _ y0 y1 hK1
        · refine V_aload_n f dX8_applyLaw_24 0 rfl ?_
          refine V_getE (x := M1 (44 + Int32.toNatClampNeg x) 4) f dX8_applyLaw_25 lf_8_222 rfl (zStk (vlt (vinN x0 c1 hK1.1.1.2))) rfl ?_
          refine V_if_eq (tgt := 34) f dX8_applyLaw_28 (by decide) (fun c3 => ?_) (fun c3 => ?_)
          · refine V_aload_n f dX8_applyLaw_34 3 rfl ?_
            refine V_aload_n f dX8_applyLaw_35 0 rfl ?_
            refine V_aload_n f dX8_applyLaw_36 2 rfl ?_
            refine V_getE (x := M1 0 10) f dX8_applyLaw_37 lf_8_69 rfl zb_0 rfl ?_
            refine V_aload_n f dX8_applyLaw_40 0 rfl ?_
            refine V_getE (x := M1 (44 + Int32.toNatClampNeg x) 5) f dX8_applyLaw_41 lf_8_126 rfl (zStk (vlt (vinN x0 c1 hK1.1.1.2))) rfl ?_
            refine V_isub f dX8_applyLaw_44 ?_
            refine V_bipush (v := 7) f dX8_applyLaw_45 (by decide) ?_
            refine V_idiv f dX8_applyLaw_47 (by decide) ?_
            refine V_cVp (As := [.ref (ad (44 + Int32.toNatClampNeg x)), .int (((M1 0 10) - (M1 (44 + Int32.toNatClampNeg x) 5)) / 7)]) (rest := []) f dX8_applyLaw_48 lk_X8_243 ml_X8_243 ins_X1_deedFor sel_X1_deedFor (zL hz) (by decide) rfl (c3_X1_deedFor _ _ _ _ ad M1 i (44 + Int32.toNatClampNeg x) (((M1 0 10) - (M1 (44 + Int32.toNatClampNeg x) 5)) / 7) hz (zStk (vlt (vinN x0 c1 hK1.1.1.2))) (hK1.1.2.2.2.2 _ hz)) rfl (Nat.le_of_ble_eq_true rfl) rfl ⟨by decide, by decide⟩ ⟨Nat.zero_le _, Nat.zero_le _⟩ rfl rfl (fun v4 Mx4 hp4 => ?_)
            obtain ⟨⟨r4, rfl⟩, e4⟩ := hp4
            rw [e4]
            show V K ad 0 0 ZB M1 51 [(3, .ref (ad (44 + Int32.toNatClampNeg x))), (2, .int x), (0, .ref (ad 0)), (1, .ref (ad i))] [.int r4]
            refine V_istore f dX8_applyLaw_51 (by decide) rfl ?_
            refine V_iload f dX8_applyLaw_53 0 rfl ?_
            refine V_bipush (v := 9) f dX8_applyLaw_55 (by decide) ?_
            refine V_icmp_ne (tgt := 67) f dX8_applyLaw_57 (by decide) (fun c5 => ?_) (fun c5 => ?_)
            · refine V_iload f dX8_applyLaw_67 0 rfl ?_
              refine V_bipush (v := 10) f dX8_applyLaw_69 (by decide) ?_
              refine V_icmp_ne (tgt := 90) f dX8_applyLaw_71 (by decide) (fun c6 => ?_) (fun c6 => ?_)
              · refine V_iinc (v := x + 1) f dX8_applyLaw_90 2 rfl rfl (by decide) rfl ?_
                refine V_goto (tgt := 2) f dX8_applyLaw_93 (by decide) ?_
                obtain ⟨k9, e9, y0, y1⟩ := lo_inc x0 hx c1 (by have := hK1.1.1.2; omega)
                refine V.sub [0, 3, 4] rfl ?_
                exact ih k9 (by omega) (x + 1) _ y0 y1 hK1
              · refine V_aload_n f dX8_applyLaw_74 3 rfl ?_
                refine V_getR f dX8_applyLaw_75 lf_8_35 rfl zb_0 rfl ?_
                refine V_dup f dX8_applyLaw_78 rfl ?_
                refine V_getE (x := M1 14 1) f dX8_applyLaw_79 lf_8_219 rfl zb_14 rfl ?_
                refine V_aload_n f dX8_applyLaw_82 1 rfl ?_
                refine V_cVi (As := []) (rest := [.int (M1 14 1), .ref (ad 14)]) f dX8_applyLaw_83 lk_X8_252 ml_X8_252 ins_X5_sendAway sel_X5_sendAway (zStk (vlt (vinN x0 c1 hK1.1.1.2))) (by decide) rfl (c_X5_sendAway (kl K) (kD K) (ky K) (kX K) ad M1 (44 + Int32.toNatClampNeg x) (zStk (vlt (vinN x0 c1 hK1.1.1.2)))) rfl (Nat.le_of_ble_eq_true rfl) rfl ⟨by decide, by decide⟩ ⟨Nat.zero_le _, Nat.zero_le _⟩ rfl rfl ?_
                refine V_iadd f dX8_applyLaw_86 ?_
                refine V_putI f dX8_applyLaw_87 lf_8_219 lp_4_1 rfl rfl rfl rfl zb_14 ?_
                refine V_iinc (v := x + 1) f dX8_applyLaw_90 2 rfl rfl (by decide) rfl ?_
                refine V_goto (tgt := 2) f dX8_applyLaw_93 (by decide) ?_
                obtain ⟨k9, e9, y0, y1⟩ := lo_inc x0 hx c1 (by have := hK1.1.1.2; omega)
                refine V.sub [0, 3, 4] rfl ?_
                exact ih k9 (by omega) (x + 1) _ y0 y1 (Kp_nr (Kp_send hK1 (vlt (vinN x0 c1 hK1.1.1.2))) (Or.inl rfl) _ _)
            · refine V_aload_n f dX8_applyLaw_60 1 rfl ?_
              refine V_cVv (As := []) (rest := []) f dX8_applyLaw_61 lk_X8_249 ml_X8_249 ins_X5_turnOver sel_X5_turnOver (zStk (vlt (vinN x0 c1 hK1.1.1.2))) (by decide) rfl (c_X5_turnOver (kl K) (kD K) (ky K) (kX K) ad M1 (44 + Int32.toNatClampNeg x) (zStk (vlt (vinN x0 c1 hK1.1.1.2)))) rfl (Nat.le_of_ble_eq_true rfl) rfl ⟨by decide, by decide⟩ ⟨Nat.zero_le _, Nat.zero_le _⟩ rfl rfl ?_
              refine V_goto (tgt := 90) f dX8_applyLaw_64 (by decide) ?_
              refine V_iinc (v := x + 1) f dX8_applyLaw_90 2 rfl rfl (by decide) rfl ?_
              refine V_goto (tgt := 2) f dX8_applyLaw_93 (by decide) ?_
              obtain ⟨k9, e9, y0, y1⟩ := lo_inc x0 hx c1 (by have := hK1.1.1.2; omega)
              refine V.sub [0, 3, 4] rfl ?_
              exact ih k9 (by omega) (x + 1) _ y0 y1 (Kp_turn hK1 (vlt (vinN x0 c1 hK1.1.1.2)))
          · refine V_goto (tgt := 90) f dX8_applyLaw_31 (by decide) ?_
            refine V_iinc (v := x + 1) f dX8_applyLaw_90 1 rfl rfl (by decide) rfl ?_
            refine V_goto (tgt := 2) f dX8_applyLaw_93 (by decide) ?_
            obtain ⟨k9, e9, y0, y1⟩ := lo_inc x0 hx c1 (by have := hK1.1.1.2; omega)
            refine V.sub [0, 2, 3] rfl ?_
            exact ih k9 (by omega) (x + 1) _ y0 y1 hK1
  refine V_iconst (v := 0) f dX8_applyLaw_0 (by decide) ?_
  refine V_istore_n f dX8_applyLaw_1 rfl (by decide) rfl ?_
  exact loop 1000 0 M (by decide) (by decide) (Kp_refl hI)

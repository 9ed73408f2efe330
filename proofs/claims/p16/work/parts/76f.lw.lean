set_option maxHeartbeats 4000000 in
set_option maxRecDepth 100000 in
theorem c4_X2_readText (cs cv : Nat → Nat) (z : Value) (l : Launch) (D : va_G) (cy : Nat → ClassId) (X : va_W) (ad : Nat → Nat) (M : MT) (n : Int32) (i : Nat) (hz : LawZ i) (T : Nat → Int32) (hT : T = b8 M) (hI : InvB M) (N : Nat) (hN : n.toInt = (N : Int) ∧ N ≤ 500) (h0 : (cB M i).2.2.length = 0) : CtS cs cv z l yX2_readText cX2_readText 4 (some .int) (rK 7) D cy X ad ZB M [.ref (ad 17), .int n, .ref (ad i)] (fun v M1 => (∃ q, txlw T N 16 (txsk T N 0) = (true, q) ∧ v = some (.int (-1)) ∧ QT i M M1 ∧ cB M1 i = txlc T N 16 (txsk T N 0) (cB M i)) ∨ (∃ q, txlw T N 16 (txsk T N 0) = (false, q) ∧ v = some (.int (Int32.ofNat q)) ∧ QT i M M1 ∧ q ≤ 500)) := by
  refine CtS.of (by decide +kernel) (Nat.le_of_ble_eq_true rfl) ?_
  intro K hw f q hnm hl0 hD0 hy0 hX0
  show V K ad 0 0 ZB M 0 [(0, .ref (ad 17)), (1, .int n), (2, .ref (ad i))] []
  have loop : ∀ (q9 c : Nat) (x : Int32) (M1 : MT) (p1 : Nat), c + q9 = 16 → x.toInt = c → RTx T N i M q9 M1 p1 → V K ad 0 0 ZB M1 15 [(3, .int x), (0, .ref (ad 17)), (1, .int n), (2, .ref (ad i))] [] := by
    intro q9
    induction q9 with
    | zero =>
      intro c x M1 p1 hb hx hR
      obtain rfl : c = 16 := by omega
      refine V_iload_n f dX2_readText_15 0 rfl ?_
      refine V_bipush (v := 16) f dX2_readText_16 (by decide) ?_
      refine V_icmp_ge (tgt := 63) f dX2_readText_18 (by decide) (fun _ => ?_) (fun h => absurd (lq_ge hx (y := 16) (n := 16) (by decide) rfl) h)
      refine V_aload_n f dX2_readText_63 1 rfl ?_
      refine V_getR f dX2_readText_64 lf_2_20 rfl zb_17 rfl ?_
      refine V_aload_n f dX2_readText_67 1 rfl ?_
      refine V_getE (x := M1 17 1) f dX2_readText_68 lf_2_9 rfl zb_17 rfl ?_
      refine V_cVi (As := [.int (M1 17 1)]) (rest := []) f dX2_readText_71 lk_X2_30 ml_X2_30 ins_X7_codeAt sel_X7_codeAt zb_18 (by decide) rfl (c_X7_codeAt (kl K) (kD K) (ky K) (kX K) ad M1 (M1 17 1) hR.2.1.1.2.2.2.1.2) rfl (Nat.le_of_ble_eq_true rfl) rfl ⟨by decide, by decide⟩ ⟨Nat.zero_le _, Nat.zero_le _⟩ rfl rfl ?_
      refine V_if_ne (tgt := 81) f dX2_readText_74 (by decide) (fun c2 => ?_) (fun c2 => ?_)
      · refine V_aload_n f dX2_readText_81 1 rfl ?_
        refine V_getR f dX2_readText_82 lf_2_20 rfl zb_17 rfl ?_
        refine V_aload_n f dX2_readText_85 1 rfl ?_
        refine V_getE (x := M1 17 1) f dX2_readText_86 lf_2_9 rfl zb_17 rfl ?_
        refine V_cVi (As := [.int (M1 17 1)]) (rest := []) f dX2_readText_89 lk_X2_38 ml_X2_38 ins_X7_placeAt sel_X7_placeAt zb_18 (by decide) rfl (c_X7_placeAt (kl K) (kD K) (ky K) (kX K) ad M1 (M1 17 1) hR.2.1.1.2.2.2.1.2) rfl (Nat.le_of_ble_eq_true rfl) rfl ⟨by decide, by decide⟩ ⟨Nat.zero_le _, Nat.zero_le _⟩ rfl rfl ?_
        exact V_iret f q dX2_readText_92 rfl (Nat.zero_le _) (Nat.zero_le _) ⟨rfl, rfl, Or.inr ⟨p1, hR.2.2.2.1.trans (txlw_z (rt_ne hR.1 c2)), by rw [txC_place hR.1], hR.2.1, by have := txC_pl hR.1; omega⟩⟩
      · refine V_iconst (v := (-1)) f dX2_readText_77 (by decide) ?_
        refine V_goto (tgt := 92) f dX2_readText_78 (by decide) ?_
        exact V_iret f q dX2_readText_92 rfl (Nat.zero_le _) (Nat.zero_le _) ⟨rfl, rfl, Or.inl ⟨p1, hR.2.2.2.1.trans (txlw_0 ((txC_code hR.1).symm.trans c2)), rfl, hR.2.1, (hR.2.2.2.2.trans (txlc_0 ((txC_code hR.1).symm.trans c2) _)).symm⟩⟩
    | succ q9 ih =>
      intro c x M1 p1 hb hx hR
      obtain ⟨hbl, hin, hnat, hx1⟩ := lq_lt hx hb (by decide)
      refine V_iload_n f dX2_readText_15 0 rfl ?_
      refine V_bipush (v := 16) f dX2_readText_16 (by decide) ?_
      refine V_icmp_ge (tgt := 63) f dX2_readText_18 (by decide) (fun h => absurd h (lq_nge hx (y := 16) (by decide) hb)) (fun _ => ?_)
      refine V_aload_n f dX2_readText_21 1 rfl ?_
      refine V_getR f dX2_readText_22 lf_2_20 rfl zb_17 rfl ?_
      refine V_aload_n f dX2_readText_25 1 rfl ?_
      refine V_getE (x := M1 17 1) f dX2_readText_26 lf_2_9 rfl zb_17 rfl ?_
      refine V_cVi (As := [.int (M1 17 1)]) (rest := []) f dX2_readText_29 lk_X2_30 ml_X2_30 ins_X7_codeAt sel_X7_codeAt zb_18 (by decide) rfl (c_X7_codeAt (kl K) (kD K) (ky K) (kX K) ad M1 (M1 17 1) hR.2.1.1.2.2.2.1.2) rfl (Nat.le_of_ble_eq_true rfl) rfl ⟨by decide, by decide⟩ ⟨Nat.zero_le _, Nat.zero_le _⟩ rfl rfl ?_
      refine V_if_ne (tgt := 37) f dX2_readText_32 (by decide) (fun c3 => ?_) (fun c3 => ?_)
      · refine V_aload_n f dX2_readText_37 1 rfl ?_
        refine V_aload_n f dX2_readText_38 3 rfl ?_
        refine V_cVp (As := [.ref (ad i)]) (rest := []) f dX2_readText_39 lk_X2_34 ml_X2_34 ins_X2_readStatement sel_X2_readStatement zb_17 (by decide) rfl (c4_X2_readStatement _ _ _ _ ad M1 i hz T N p1 hR.1 hR.2.1.1 (by have := hR.2.2.1; omega)) rfl (Nat.le_of_ble_eq_true rfl) rfl ⟨by decide, by decide⟩ ⟨Nat.zero_le _, Nat.zero_le _⟩ rfl rfl (fun v4 Mx4 hp4 => ?_)
        rcases hp4 with ⟨q4, hq4, rfl, hC4, hR4⟩ | ⟨q4, hq4, rfl, hC4, hR4⟩
        · show V K ad 0 0 ZB Mx4 42 [(3, .int x), (0, .ref (ad 17)), (1, .int n), (2, .ref (ad i))] [.int 1]
          refine V_if_ne (tgt := 57) f dX2_readText_42 (by decide) (fun _ => ?_) (fun h => absurd h (by decide))
          refine V_iinc (v := x + 1) f dX2_readText_57 0 rfl rfl (by decide) rfl ?_
          refine V_goto (tgt := 15) f dX2_readText_60 (by decide) ?_
          exact ih (c + 1) (x + 1) _ _ (by omega) hx1 (RT_s hR (rt_ne hR.1 c3) hq4 hC4 hR4)
        · show V K ad 0 0 ZB Mx4 42 [(3, .int x), (0, .ref (ad 17)), (1, .int n), (2, .ref (ad i))] [.int 0]
          refine V_if_ne (tgt := 57) f dX2_readText_42 (by decide) (fun h => absurd (by decide) h) (fun _ => ?_)
          refine V_aload_n f dX2_readText_45 1 rfl ?_
          refine V_getR f dX2_readText_46 lf_2_20 rfl zb_17 rfl ?_
          refine V_aload_n f dX2_readText_49 1 rfl ?_
          refine V_getE (x := Mx4 17 1) f dX2_readText_50 lf_2_9 rfl zb_17 rfl ?_
          refine V_cVi (As := [.int (Mx4 17 1)]) (rest := []) f dX2_readText_53 lk_X2_38 ml_X2_38 ins_X7_placeAt sel_X7_placeAt zb_18 (by decide) rfl (c_X7_placeAt (kl K) (kD K) (ky K) (kX K) ad Mx4 (Mx4 17 1) (hR4.1.2.2.2.1.2)) rfl (Nat.le_of_ble_eq_true rfl) rfl ⟨by decide, by decide⟩ ⟨Nat.zero_le _, Nat.zero_le _⟩ rfl rfl ?_
          exact V_iret f q dX2_readText_56 rfl (Nat.zero_le _) (Nat.zero_le _) ⟨rfl, rfl, Or.inr ⟨q4, hR.2.2.2.1.trans (txlw_n (rt_ne hR.1 c3) hq4), by rw [txC_place hC4], QT_CQ hR.2.1 hR4, by have := txC_pl hC4; omega⟩⟩
      · refine V_iconst (v := (-1)) f dX2_readText_35 (by decide) ?_
        exact V_iret f q dX2_readText_36 rfl (Nat.zero_le _) (Nat.zero_le _) ⟨rfl, rfl, Or.inl ⟨p1, hR.2.2.2.1.trans (txlw_0 ((txC_code hR.1).symm.trans c3)), rfl, hR.2.1, (hR.2.2.2.2.trans (txlc_0 ((txC_code hR.1).symm.trans c3) _)).symm⟩⟩
  refine V_aload_n f dX2_readText_0 0 rfl ?_
  refine V_getR f dX2_readText_1 lf_2_20 rfl zb_17 rfl ?_
  refine V_iload_n f dX2_readText_4 1 rfl ?_
  refine V_cVs (As := [.int n]) (rest := []) f hw dX2_readText_5 lk_X2_24 ml_X2_24 ins_X7_cut sel_X7_cut zb_18 (by decide) rfl (c3_X7_cut cs cv z _ _ _ _ ad M n N (fun M1 p => (Kp rP M M1 ∧ txI T N M1 p) ∧ FC M M1) hN (by rw [hT]; exact cutU M N hN.2) (by rw [hT]; exact cutU0 hI hN)) rfl (Nat.le_of_ble_eq_true rfl) rfl ⟨by decide, by decide⟩ ⟨Nat.zero_le _, Nat.zero_le _⟩ rfl rfl (fun v1 Mx1 hp1 => ?_)
  obtain ⟨rfl, hK1⟩ := hp1
  show V K ad 0 0 ZB Mx1 8 [(0, .ref (ad 17)), (1, .int n), (2, .ref (ad i))] []
  refine V_aload_n f dX2_readText_8 0 rfl ?_
  refine V_iconst (v := 0) f dX2_readText_9 (by decide) ?_
  refine V_putI f dX2_readText_10 lf_2_9 lp_2_1 rfl rfl rfl rfl zb_17 ?_
  refine V_iconst (v := 0) f dX2_readText_13 (by decide) ?_
  refine V_istore_n f dX2_readText_14 rfl (by decide) rfl ?_
  exact loop 16 0 0 _ _ rfl (by decide) (RT_0 hz hN.2 hK1 h0)
set_option maxHeartbeats 4000000 in
set_option maxRecDepth 100000 in
theorem c4_X8_law (cs cv : Nat → Nat) (z : Value) (l : Launch) (D : va_G) (cy : Nat → ClassId) (X : va_W) (ad : Nat → Nat) (M : MT) (a : Int32) (hI : InvB M) : CtS cs cv z l yX8_law cX8_law 3 (some .int) (rK 8) D cy X ad ZB M [.ref (ad 0), .int a] (LB M a) := by
  refine CtS.of (by decide +kernel) (Nat.le_of_ble_eq_true rfl) ?_
  intro K hw f q hnm hl0 hD0 hy0 hX0
  show V K ad 0 0 ZB M 0 [(0, .ref (ad 0)), (1, .int a)] []
  refine V_iload_n f dX8_law_0 1 rfl ?_
  refine V_iconst (v := 0) f dX8_law_1 (by decide) ?_
  refine V_aload_n f dX8_law_2 0 rfl ?_
  refine V_getR f dX8_law_3 lf_8_42 rfl zb_0 rfl ?_
  refine V_getE (x := M 15 1) f dX8_law_6 lf_8_192 rfl zb_15 rfl ?_
  refine V_cSi (As := [.int a, .int 0, .int (M 15 1)]) (rest := []) f dX8_law_9 lk_X8_90 ml_X8_90 sta_X8_within (c_X8_within (kl K) (kD K) (ky K) (kX K) ad M a 0 (M 15 1)) rfl (Nat.le_of_ble_eq_true rfl) rfl ⟨by decide, by decide⟩ ⟨Nat.zero_le _, Nat.zero_le _⟩ rfl rfl ?_
  refine V_if_ne (tgt := 18) f dX8_law_12 (by decide) (fun c1 => ?_) (fun c1 => ?_)
  · refine V_aload_n f dX8_law_18 0 rfl ?_
    refine V_getE (x := M 0 9) f dX8_law_19 lf_8_66 rfl zb_0 rfl ?_
    refine V_bipush (v := 8) f dX8_law_22 (by decide) ?_
    refine V_icmp_lt (tgt := 30) f dX8_law_24 (by decide) (fun c2 => ?_) (fun c2 => ?_)
    · refine V_aload_n f dX8_law_30 0 rfl ?_
      refine V_getR f dX8_law_31 lf_8_23 rfl zb_0 rfl ?_
      refine V_aload_n f dX8_law_34 0 rfl ?_
      refine V_getE (x := M 0 9) f dX8_law_35 lf_8_66 rfl zb_0 rfl ?_
      refine V_aald (t0 := 4) f dX8_law_38 zb_3 (by decide) rfl (v8l hI.2.1.1 c2) (eLaw (vlt (v8l hI.2.1.1 c2))) ?_
      refine V_astore_n f dX8_law_39 rfl (by decide) rfl ?_
      refine V_aload_n f dX8_law_40 0 rfl ?_
      refine V_aload_n f dX8_law_41 1 rfl ?_
      refine V_getE (x := M 0 9) f dX8_law_42 lf_8_66 rfl zb_0 rfl ?_
      refine V_aload_n f dX8_law_45 1 rfl ?_
      refine V_getE (x := M 0 10) f dX8_law_46 lf_8_69 rfl zb_0 rfl ?_
      refine V_cVv (As := [.int (M 0 9), .int (M 0 10)]) (rest := []) f dX8_law_49 lk_X8_195 ml_X8_195 ins_X1_begin sel_X1_begin (zL (zLw (vlt (v8l hI.2.1.1 c2)))) (by decide) rfl (c_X1_begin (kl K) (kD K) (ky K) (kX K) ad M (54 + 10 * Int32.toNatClampNeg (M 0 9)) (M 0 9) (M 0 10) (zLw (vlt (v8l hI.2.1.1 c2)))) rfl (Nat.le_of_ble_eq_true rfl) rfl ⟨by decide, by decide⟩ ⟨Nat.zero_le _, Nat.zero_le _⟩ rfl rfl ?_
      refine V_aload_n f dX8_law_52 1 rfl ?_
      refine V_aload_n f dX8_law_53 1 rfl ?_
      refine V_getR f dX8_law_54 lf_8_51 rfl zb_0 rfl ?_
      refine V_iload_n f dX8_law_57 2 rfl ?_
      refine V_aload_n f dX8_law_58 0 rfl ?_
      refine V_cVs (As := [.int a, .ref (ad (54 + 10 * Int32.toNatClampNeg (M 0 9)))]) (rest := [.ref (ad 0)]) f hw dX8_law_59 lk_X8_198 ml_X8_198 ins_X2_readText sel_X2_readText zb_17 (by decide) rfl (c4_X2_readText cs cv z _ _ _ _ ad (s_X1_begin M (54 + 10 * Int32.toNatClampNeg (M 0 9)) (M 0 9) (M 0 10)) a (54 + 10 * Int32.toNatClampNeg (M 0 9)) (zLw (vlt (v8l hI.2.1.1 c2))) (b8 M) (b8_bg (by omega) _ _) (Kp_begin (Kp_refl (P := rP) hI) (zLw (vlt (v8l hI.2.1.1 c2))) _ _).1 a.toInt.toNat (wN hI c1) (by rw [bg_c]; rfl)) rfl (Nat.le_of_ble_eq_true rfl) rfl ⟨by decide, by decide⟩ ⟨Nat.zero_le _, Nat.zero_le _⟩ rfl rfl (fun v3 Mx3 hp3 => ?_)
      rcases hp3 with ⟨q3, hq3, rfl, hQ3, hc3⟩ | ⟨q3, hq3, rfl, hQ3, hc3⟩
      · show V K ad 0 0 ZB Mx3 62 [(2, .ref (ad (54 + 10 * Int32.toNatClampNeg (M 0 9)))), (0, .ref (ad 0)), (1, .int a)] [.int (-1), .ref (ad 0)]
        refine V_putI f dX8_law_62 lf_8_81 lp_8_14 rfl rfl rfl rfl zb_0 ?_
        refine V_aload_n f dX8_law_65 1 rfl ?_
        refine V_getR f dX8_law_66 lf_8_42 rfl zb_0 rfl ?_
        refine V_iconst (v := 0) f dX8_law_69 (by decide) ?_
        refine V_putI f dX8_law_70 lf_8_192 lp_6_1 rfl rfl rfl rfl zb_15 ?_
        refine V_aload_n f dX8_law_73 1 rfl ?_
        refine V_getE (x := (-1)) f dX8_law_74 lf_8_81 rfl zb_0 (up_c (by decide) up_s) ?_
        refine V_iconst (v := (-1)) f dX8_law_77 (by decide) ?_
        refine V_icmp_eq (tgt := 83) f dX8_law_78 (by decide) (fun _ => ?_) (fun h => absurd (by decide) h)
        refine V_aload_n f dX8_law_83 1 rfl ?_
        refine V_dup f dX8_law_84 rfl ?_
        refine V_getE (x := Mx3 0 9) f dX8_law_85 lf_8_66 rfl zb_0 (up_c (by decide) (up_k (by decide) rfl)) ?_
        refine V_iconst (v := 1) f dX8_law_88 (by decide) ?_
        refine V_iadd f dX8_law_89 ?_
        refine V_putI f dX8_law_90 lf_8_66 lp_8_9 rfl rfl rfl rfl zb_0 ?_
        refine V_aload_n f dX8_law_93 0 rfl ?_
        refine V_getE (x := Mx3 (54 + 10 * Int32.toNatClampNeg (M 0 9)) 0) f dX8_law_94 lf_8_202 rfl (zL (zLw (vlt (v8l hI.2.1.1 c2)))) (up_c (ci_ne (zL (zLw (vlt (v8l hI.2.1.1 c2)))) zb_0 (by decide)) (up_c (ci_ne (zL (zLw (vlt (v8l hI.2.1.1 c2)))) zb_15 (by decide)) (up_c (ci_ne (zL (zLw (vlt (v8l hI.2.1.1 c2)))) zb_0 (by decide)) rfl))) ?_
        exact V_iret f q dX8_law_97 rfl (Nat.zero_le _) (Nat.zero_le _) ⟨rfl, rfl, LB_good hI c1 c2 hq3 hQ3 hc3 rfl⟩
      · show V K ad 0 0 ZB Mx3 62 [(2, .ref (ad (54 + 10 * Int32.toNatClampNeg (M 0 9)))), (0, .ref (ad 0)), (1, .int a)] [.int (Int32.ofNat q3), .ref (ad 0)]
        refine V_putI f dX8_law_62 lf_8_81 lp_8_14 rfl rfl rfl rfl zb_0 ?_
        refine V_aload_n f dX8_law_65 1 rfl ?_
        refine V_getR f dX8_law_66 lf_8_42 rfl zb_0 rfl ?_
        refine V_iconst (v := 0) f dX8_law_69 (by decide) ?_
        refine V_putI f dX8_law_70 lf_8_192 lp_6_1 rfl rfl rfl rfl zb_15 ?_
        refine V_aload_n f dX8_law_73 1 rfl ?_
        refine V_getE (x := Int32.ofNat q3) f dX8_law_74 lf_8_81 rfl zb_0 (up_c (by decide) up_s) ?_
        refine V_iconst (v := (-1)) f dX8_law_77 (by decide) ?_
        refine V_icmp_eq (tgt := 83) f dX8_law_78 (by decide) (fun h => absurd h (ofN_m1 hc3)) (fun _ => ?_)
        refine V_iconst (v := (-1)) f dX8_law_81 (by decide) ?_
        exact V_iret f q dX8_law_82 rfl (Nat.zero_le _) (Nat.zero_le _) ⟨rfl, rfl, LB_bad hI c1 c2 hq3 hQ3⟩
    · refine V_bipush (v := (-3)) f dX8_law_27 (by decide) ?_
      exact V_iret f q dX8_law_29 rfl (Nat.zero_le _) (Nat.zero_le _) ⟨rfl, rfl, Or.inr (Or.inl ⟨c1, c2, rfl, rfl⟩)⟩
  · refine V_bipush (v := (-2)) f dX8_law_15 (by decide) ?_
    exact V_iret f q dX8_law_17 rfl (Nat.zero_le _) (Nat.zero_le _) ⟨rfl, rfl, Or.inl ⟨c1, rfl, rfl⟩⟩

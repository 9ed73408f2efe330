theorem v16l {x : Int32} (h : 0 ≤ x.toInt) (hx : x < 16) : vp_in x 16 := by
  have e : (16 : Int32).toInt = 16 := by decide
  rw [Int32.lt_iff_toInt_lt] at hx
  rw [vp_in_iff]; omega
theorem v16n {x : Int32} (h : 0 ≤ x.toInt) (hx : ¬ 16 ≤ x) : vp_in x 16 := v16l h (Int32.not_le.mp hx)
theorem v48 {x a : Int32} {M : MT} (h : 0 ≤ x.toInt) (hx : ¬ 16 ≤ x) (ha : ¬ s_X8_within M a 0 2 = 0) : vp_in ((x * 3) + a) 48 := by
  obtain ⟨h1, h2, h3⟩ := ah1 (v16n h hx)
  have h4 := within_of ha
  have e0 : (0 : Int32).toInt = 0 := by decide
  have e2 : (2 : Int32).toInt = 2 := by decide
  rw [Int32.le_iff_toInt_le, Int32.le_iff_toInt_le] at h4
  have e : ((x * 3) + a).toInt = x.toInt * 3 + a.toInt := by rw [Int32.toInt_add, h1, Int.bmod_eq_of_le (by omega) (by omega)]
  rw [vp_in_iff]; omega
def s_X1_addClosing (M : MT) (i : Nat) (a : Int32) (b : Int32) (e : Int32) (g : Int32) : MT := (if (M i 4) < 16 then (up2 (up2 (up2 (up2 (up2 M (i + 1) (Int32.toNatClampNeg (M i 4)) a) (i + 2) (Int32.toNatClampNeg (M i 4)) b) (i + 3) (Int32.toNatClampNeg (M i 4)) e) (i + 4) (Int32.toNatClampNeg (M i 4)) g) i 4 ((M i 4) + 1)) else M)
set_option maxHeartbeats 4000000 in
set_option maxRecDepth 100000 in
theorem c_X1_addClosing (l : Launch) (D : va_G) (cy : Nat → ClassId) (X : va_W) (ad : Nat → Nat) (M : MT) (i : Nat) (a : Int32) (b : Int32) (e : Int32) (g : Int32) (hz : LawZ i) (hL : LwOk M i) : CtV l yX1_addClosing cX1_addClosing 5 (rK 0) D cy X ad ZB M [.ref (ad i), .int a, .int b, .int e, .int g] (s_X1_addClosing M i a b e g) := by
  refine Ctr.of (by decide +kernel) (Nat.le_of_ble_eq_true rfl) ?_
  intro K f q hnm hl0 hD0 hy0 hX0
  show V K ad 0 0 ZB M 0 [(0, .ref (ad i)), (1, .int a), (2, .int b), (3, .int e), (4, .int g)] []
  refine V_aload_n f dX1_addClosing_0 0 rfl ?_
  refine V_getE (x := M i 4) f dX1_addClosing_1 lf_1_24 rfl (zL hz) rfl ?_
  refine V_bipush (v := 16) f dX1_addClosing_4 (by decide) ?_
  refine V_icmp_lt (tgt := 10) f dX1_addClosing_6 (by decide) (fun c1 => ?_) (fun c1 => ?_)
  · refine V_aload_n f dX1_addClosing_10 0 rfl ?_
    refine V_getR f dX1_addClosing_11 lf_1_27 rfl (zL hz) rfl ?_
    refine V_aload_n f dX1_addClosing_14 0 rfl ?_
    refine V_getE (x := M i 4) f dX1_addClosing_15 lf_1_24 rfl (zL hz) rfl ?_
    refine V_iload_n f dX1_addClosing_18 1 rfl ?_
    refine V_iast f dX1_addClosing_19 (zLa_1 hz) (v16l hL.1.1 c1) ?_
    refine V_aload_n f dX1_addClosing_20 0 rfl ?_
    refine V_getR f dX1_addClosing_21 lf_1_31 rfl (zL hz) rfl ?_
    refine V_aload_n f dX1_addClosing_24 0 rfl ?_
    refine V_getE (x := M i 4) f dX1_addClosing_25 lf_1_24 rfl (zL hz) (up_c (ci_ne (zL hz) (zLa_1 hz) (by decide)) rfl) ?_
    refine V_iload_n f dX1_addClosing_28 2 rfl ?_
    refine V_iast f dX1_addClosing_29 (zLa_2 hz) (v16l hL.1.1 c1) ?_
    refine V_aload_n f dX1_addClosing_30 0 rfl ?_
    refine V_getR f dX1_addClosing_31 lf_1_34 rfl (zL hz) rfl ?_
    refine V_aload_n f dX1_addClosing_34 0 rfl ?_
    refine V_getE (x := M i 4) f dX1_addClosing_35 lf_1_24 rfl (zL hz) (up_c (ci_ne (zL hz) (zLa_2 hz) (by decide)) (up_c (ci_ne (zL hz) (zLa_1 hz) (by decide)) rfl)) ?_
    refine V_iload_n f dX1_addClosing_38 3 rfl ?_
    refine V_iast f dX1_addClosing_39 (zLa_3 hz) (v16l hL.1.1 c1) ?_
    refine V_aload_n f dX1_addClosing_40 0 rfl ?_
    refine V_getR f dX1_addClosing_41 lf_1_37 rfl (zL hz) rfl ?_
    refine V_aload_n f dX1_addClosing_44 0 rfl ?_
    refine V_getE (x := M i 4) f dX1_addClosing_45 lf_1_24 rfl (zL hz) (up_c (ci_ne (zL hz) (zLa_3 hz) (by decide)) (up_c (ci_ne (zL hz) (zLa_2 hz) (by decide)) (up_c (ci_ne (zL hz) (zLa_1 hz) (by decide)) rfl))) ?_
    refine V_iload f dX1_addClosing_48 4 rfl ?_
    refine V_iast f dX1_addClosing_50 (zLa_4 hz) (v16l hL.1.1 c1) ?_
    refine V_aload_n f dX1_addClosing_51 0 rfl ?_
    refine V_dup f dX1_addClosing_52 rfl ?_
    refine V_getE (x := M i 4) f dX1_addClosing_53 lf_1_24 rfl (zL hz) (up_c (ci_ne (zL hz) (zLa_4 hz) (by decide)) (up_c (ci_ne (zL hz) (zLa_3 hz) (by decide)) (up_c (ci_ne (zL hz) (zLa_2 hz) (by decide)) (up_c (ci_ne (zL hz) (zLa_1 hz) (by decide)) rfl)))) ?_
    refine V_iconst (v := 1) f dX1_addClosing_56 (by decide) ?_
    refine V_iadd f dX1_addClosing_57 ?_
    refine V_putI f dX1_addClosing_58 lf_1_24 lp_1_4 rfl rfl rfl rfl (zL hz) ?_
    exact V_vret f q dX1_addClosing_61 (Nat.zero_le _) (Nat.zero_le _) ⟨rfl, rfl, rfl, (by simp only [s_X1_addClosing, if_pos c1])⟩
  · exact V_vret f q dX1_addClosing_9 (Nat.zero_le _) (Nat.zero_le _) ⟨rfl, rfl, rfl, (by simp only [s_X1_addClosing, if_neg c1])⟩
def s_X1_putTest (M : MT) (i : Nat) (a : Int32) (b : Int32) (e : Int32) (g : Int32) : MT := (if 16 ≤ (M i 9) then M else (if (s_X8_within M a 0 2) = 0 then M else (up2 (up2 (up2 M (i + 7) (Int32.toNatClampNeg (((M i 9) * 3) + a)) b) (i + 8) (Int32.toNatClampNeg (((M i 9) * 3) + a)) e) (i + 9) (Int32.toNatClampNeg (((M i 9) * 3) + a)) g)))
set_option maxHeartbeats 4000000 in
set_option maxRecDepth 100000 in
theorem c_X1_putTest (l : Launch) (D : va_G) (cy : Nat → ClassId) (X : va_W) (ad : Nat → Nat) (M : MT) (i : Nat) (a : Int32) (b : Int32) (e : Int32) (g : Int32) (hz : LawZ i) (hL : LwOk M i) : CtV l yX1_putTest cX1_putTest 6 (rK 1) D cy X ad ZB M [.ref (ad i), .int a, .int b, .int e, .int g] (s_X1_putTest M i a b e g) := by
  refine Ctr.of (by decide +kernel) (Nat.le_of_ble_eq_true rfl) ?_
  intro K f q hnm hl0 hD0 hy0 hX0
  show V K ad 0 0 ZB M 0 [(0, .ref (ad i)), (1, .int a), (2, .int b), (3, .int e), (4, .int g)] []
  refine V_aload_n f dX1_putTest_0 0 rfl ?_
  refine V_getE (x := M i 9) f dX1_putTest_1 lf_1_40 rfl (zL hz) rfl ?_
  refine V_bipush (v := 16) f dX1_putTest_4 (by decide) ?_
  refine V_icmp_ge (tgt := 18) f dX1_putTest_6 (by decide) (fun c1 => ?_) (fun c1 => ?_)
  · exact V_vret f q dX1_putTest_18 (Nat.zero_le _) (Nat.zero_le _) ⟨rfl, rfl, rfl, (by simp only [s_X1_putTest, if_pos c1])⟩
  · refine V_iload_n f dX1_putTest_9 1 rfl ?_
    refine V_iconst (v := 0) f dX1_putTest_10 (by decide) ?_
    refine V_iconst (v := 2) f dX1_putTest_11 (by decide) ?_
    refine V_cNi (As := [.int a, .int 0, .int 2]) (rest := []) f dX1_putTest_12 lk_X1_58 nl_X1_58 sta_X8_within (c_X8_within (kl K) (kD K) (ky K) (kX K) ad M a 0 2) rfl (Nat.le_of_ble_eq_true rfl) rfl ⟨by decide, by decide⟩ ⟨Nat.zero_le _, Nat.zero_le _⟩ rfl rfl ?_
    refine V_if_ne (tgt := 19) f dX1_putTest_15 (by decide) (fun c2 => ?_) (fun c2 => ?_)
    · refine V_aload_n f dX1_putTest_19 0 rfl ?_
      refine V_getE (x := M i 9) f dX1_putTest_20 lf_1_40 rfl (zL hz) rfl ?_
      refine V_iconst (v := 3) f dX1_putTest_23 (by decide) ?_
      refine V_imul f dX1_putTest_24 ?_
      refine V_iload_n f dX1_putTest_25 1 rfl ?_
      refine V_iadd f dX1_putTest_26 ?_
      refine V_istore f dX1_putTest_27 (by decide) rfl ?_
      refine V_aload_n f dX1_putTest_29 1 rfl ?_
      refine V_getR f dX1_putTest_30 lf_1_49 rfl (zL hz) rfl ?_
      refine V_iload f dX1_putTest_33 0 rfl ?_
      refine V_iload_n f dX1_putTest_35 3 rfl ?_
      refine V_iast f dX1_putTest_36 (zLa_7 hz) (v48 hL.2.1.1 c1 c2) ?_
      refine V_aload_n f dX1_putTest_37 1 rfl ?_
      refine V_getR f dX1_putTest_38 lf_1_52 rfl (zL hz) rfl ?_
      refine V_iload f dX1_putTest_41 0 rfl ?_
      refine V_iload_n f dX1_putTest_43 4 rfl ?_
      refine V_iast f dX1_putTest_44 (zLa_8 hz) (v48 hL.2.1.1 c1 c2) ?_
      refine V_aload_n f dX1_putTest_45 1 rfl ?_
      refine V_getR f dX1_putTest_46 lf_1_55 rfl (zL hz) rfl ?_
      refine V_iload f dX1_putTest_49 0 rfl ?_
      refine V_iload f dX1_putTest_51 5 rfl ?_
      refine V_iast f dX1_putTest_53 (zLa_9 hz) (v48 hL.2.1.1 c1 c2) ?_
      exact V_vret f q dX1_putTest_54 (Nat.zero_le _) (Nat.zero_le _) ⟨rfl, rfl, rfl, (by simp only [s_X1_putTest, if_neg c1, if_neg c2])⟩
    · exact V_vret f q dX1_putTest_18 (Nat.zero_le _) (Nat.zero_le _) ⟨rfl, rfl, rfl, (by simp only [s_X1_putTest, if_neg c1, if_pos c2])⟩
def s_X1_addRule (M : MT) (i : Nat) (a : Int32) (b : Int32) : MT := (if 16 ≤ (M i 9) then M else (if (s_X8_within M a 1 3) = 0 then M else (up2 (up2 (up2 M (i + 5) (Int32.toNatClampNeg (M i 9)) a) (i + 6) (Int32.toNatClampNeg (M i 9)) b) i 9 ((M i 9) + 1))))
set_option maxHeartbeats 4000000 in
set_option maxRecDepth 100000 in
theorem c_X1_addRule (l : Launch) (D : va_G) (cy : Nat → ClassId) (X : va_W) (ad : Nat → Nat) (M : MT) (i : Nat) (a : Int32) (b : Int32) (hz : LawZ i) (hL : LwOk M i) : CtV l yX1_addRule cX1_addRule 3 (rK 1) D cy X ad ZB M [.ref (ad i), .int a, .int b] (s_X1_addRule M i a b) := by
  refine Ctr.of (by decide +kernel) (Nat.le_of_ble_eq_true rfl) ?_
  intro K f q hnm hl0 hD0 hy0 hX0
  show V K ad 0 0 ZB M 0 [(0, .ref (ad i)), (1, .int a), (2, .int b)] []
  refine V_aload_n f dX1_addRule_0 0 rfl ?_
  refine V_getE (x := M i 9) f dX1_addRule_1 lf_1_40 rfl (zL hz) rfl ?_
  refine V_bipush (v := 16) f dX1_addRule_4 (by decide) ?_
  refine V_icmp_ge (tgt := 18) f dX1_addRule_6 (by decide) (fun c1 => ?_) (fun c1 => ?_)
  · exact V_vret f q dX1_addRule_18 (Nat.zero_le _) (Nat.zero_le _) ⟨rfl, rfl, rfl, (by simp only [s_X1_addRule, if_pos c1])⟩
  · refine V_iload_n f dX1_addRule_9 1 rfl ?_
    refine V_iconst (v := 1) f dX1_addRule_10 (by decide) ?_
    refine V_iconst (v := 3) f dX1_addRule_11 (by decide) ?_
    refine V_cNi (As := [.int a, .int 1, .int 3]) (rest := []) f dX1_addRule_12 lk_X1_58 nl_X1_58 sta_X8_within (c_X8_within (kl K) (kD K) (ky K) (kX K) ad M a 1 3) rfl (Nat.le_of_ble_eq_true rfl) rfl ⟨by decide, by decide⟩ ⟨Nat.zero_le _, Nat.zero_le _⟩ rfl rfl ?_
    refine V_if_ne (tgt := 19) f dX1_addRule_15 (by decide) (fun c2 => ?_) (fun c2 => ?_)
    · refine V_aload_n f dX1_addRule_19 0 rfl ?_
      refine V_getR f dX1_addRule_20 lf_1_43 rfl (zL hz) rfl ?_
      refine V_aload_n f dX1_addRule_23 0 rfl ?_
      refine V_getE (x := M i 9) f dX1_addRule_24 lf_1_40 rfl (zL hz) rfl ?_
      refine V_iload_n f dX1_addRule_27 1 rfl ?_
      refine V_iast f dX1_addRule_28 (zLa_5 hz) (v16n hL.2.1.1 c1) ?_
      refine V_aload_n f dX1_addRule_29 0 rfl ?_
      refine V_getR f dX1_addRule_30 lf_1_46 rfl (zL hz) rfl ?_
      refine V_aload_n f dX1_addRule_33 0 rfl ?_
      refine V_getE (x := M i 9) f dX1_addRule_34 lf_1_40 rfl (zL hz) (up_c (ci_ne (zL hz) (zLa_5 hz) (by decide)) rfl) ?_
      refine V_iload_n f dX1_addRule_37 2 rfl ?_
      refine V_iast f dX1_addRule_38 (zLa_6 hz) (v16n hL.2.1.1 c1) ?_
      refine V_aload_n f dX1_addRule_39 0 rfl ?_
      refine V_dup f dX1_addRule_40 rfl ?_
      refine V_getE (x := M i 9) f dX1_addRule_41 lf_1_40 rfl (zL hz) (up_c (ci_ne (zL hz) (zLa_6 hz) (by decide)) (up_c (ci_ne (zL hz) (zLa_5 hz) (by decide)) rfl)) ?_
      refine V_iconst (v := 1) f dX1_addRule_44 (by decide) ?_
      refine V_iadd f dX1_addRule_45 ?_
      refine V_putI f dX1_addRule_46 lf_1_40 lp_1_9 rfl rfl rfl rfl (zL hz) ?_
      exact V_vret f q dX1_addRule_49 (Nat.zero_le _) (Nat.zero_le _) ⟨rfl, rfl, rfl, (by simp only [s_X1_addRule, if_neg c1, if_neg c2])⟩
    · exact V_vret f q dX1_addRule_18 (Nat.zero_le _) (Nat.zero_le _) ⟨rfl, rfl, rfl, (by simp only [s_X1_addRule, if_neg c1, if_pos c2])⟩
def s_X2_take (M : MT) (a : Int32) : Int32 × MT := (if (s_X7_codeAt M (M 17 1)) = a then (1, (up2 M 17 1 ((M 17 1) + 1))) else (0, M))
set_option maxHeartbeats 4000000 in
set_option maxRecDepth 100000 in
theorem c_X2_take (l : Launch) (D : va_G) (cy : Nat → ClassId) (X : va_W) (ad : Nat → Nat) (M : MT) (a : Int32) (hc : (M 18 1).toInt ≤ 500) : CtI l yX2_take cX2_take 2 .boolean (rK 1) D cy X ad ZB M [.ref (ad 17), .int a] (s_X2_take M a).1 (s_X2_take M a).2 := by
  refine Ctr.of (by decide +kernel) (Nat.le_of_ble_eq_true rfl) ?_
  intro K f q hnm hl0 hD0 hy0 hX0
  show V K ad 0 0 ZB M 0 [(0, .ref (ad 17)), (1, .int a)] []
  refine V_aload_n f dX2_take_0 0 rfl ?_
  refine V_getR f dX2_take_1 lf_2_20 rfl zb_17 rfl ?_
  refine V_aload_n f dX2_take_4 0 rfl ?_
  refine V_getE (x := M 17 1) f dX2_take_5 lf_2_9 rfl zb_17 rfl ?_
  refine V_cVi (As := [.int (M 17 1)]) (rest := []) f dX2_take_8 lk_X2_30 ml_X2_30 ins_X7_codeAt sel_X7_codeAt zb_18 (by decide) rfl (c_X7_codeAt (kl K) (kD K) (ky K) (kX K) ad M (M 17 1) hc) rfl (Nat.le_of_ble_eq_true rfl) rfl ⟨by decide, by decide⟩ ⟨Nat.zero_le _, Nat.zero_le _⟩ rfl rfl ?_
  refine V_iload_n f dX2_take_11 1 rfl ?_
  refine V_icmp_eq (tgt := 17) f dX2_take_12 (by decide) (fun c1 => ?_) (fun c1 => ?_)
  · refine V_aload_n f dX2_take_17 0 rfl ?_
    refine V_dup f dX2_take_18 rfl ?_
    refine V_getE (x := M 17 1) f dX2_take_19 lf_2_9 rfl zb_17 rfl ?_
    refine V_iconst (v := 1) f dX2_take_22 (by decide) ?_
    refine V_iadd f dX2_take_23 ?_
    refine V_putI f dX2_take_24 lf_2_9 lp_2_1 rfl rfl rfl rfl zb_17 ?_
    refine V_iconst (v := 1) f dX2_take_27 (by decide) ?_
    exact V_iret f q dX2_take_28 rfl (Nat.zero_le _) (Nat.zero_le _) ⟨rfl, rfl, (by simp only [s_X2_take, if_pos c1]), (by simp only [s_X2_take, if_pos c1])⟩
  · refine V_iconst (v := 0) f dX2_take_15 (by decide) ?_
    exact V_iret f q dX2_take_16 rfl (Nat.zero_le _) (Nat.zero_le _) ⟨rfl, rfl, (by simp only [s_X2_take, if_neg c1]), (by simp only [s_X2_take, if_neg c1])⟩
def s_X2_takeNumber (M : MT) : Int32 × MT := (if (s_X7_codeAt M (M 17 1)) = 15 then (s_X7_valueAt (up2 M 17 1 ((M 17 1) + 1)) (((M 17 1) + 1) - 1), (up2 M 17 1 ((M 17 1) + 1))) else ((-1), M))
set_option maxHeartbeats 4000000 in
set_option maxRecDepth 100000 in
theorem c_X2_takeNumber (l : Launch) (D : va_G) (cy : Nat → ClassId) (X : va_W) (ad : Nat → Nat) (M : MT) (hc : (M 18 1).toInt ≤ 500) : CtI l yX2_takeNumber cX2_takeNumber 1 .int (rK 1) D cy X ad ZB M [.ref (ad 17)] (s_X2_takeNumber M).1 (s_X2_takeNumber M).2 := by
  refine Ctr.of (by decide +kernel) (Nat.le_of_ble_eq_true rfl) ?_
  intro K f q hnm hl0 hD0 hy0 hX0
  show V K ad 0 0 ZB M 0 [(0, .ref (ad 17))] []
  refine V_aload_n f dX2_takeNumber_0 0 rfl ?_
  refine V_getR f dX2_takeNumber_1 lf_2_20 rfl zb_17 rfl ?_
  refine V_aload_n f dX2_takeNumber_4 0 rfl ?_
  refine V_getE (x := M 17 1) f dX2_takeNumber_5 lf_2_9 rfl zb_17 rfl ?_
  refine V_cVi (As := [.int (M 17 1)]) (rest := []) f dX2_takeNumber_8 lk_X2_30 ml_X2_30 ins_X7_codeAt sel_X7_codeAt zb_18 (by decide) rfl (c_X7_codeAt (kl K) (kD K) (ky K) (kX K) ad M (M 17 1) hc) rfl (Nat.le_of_ble_eq_true rfl) rfl ⟨by decide, by decide⟩ ⟨Nat.zero_le _, Nat.zero_le _⟩ rfl rfl ?_
  refine V_bipush (v := 15) f dX2_takeNumber_11 (by decide) ?_
  refine V_icmp_eq (tgt := 18) f dX2_takeNumber_13 (by decide) (fun c1 => ?_) (fun c1 => ?_)
  · refine V_aload_n f dX2_takeNumber_18 0 rfl ?_
    refine V_dup f dX2_takeNumber_19 rfl ?_
    refine V_getE (x := M 17 1) f dX2_takeNumber_20 lf_2_9 rfl zb_17 rfl ?_
    refine V_iconst (v := 1) f dX2_takeNumber_23 (by decide) ?_
    refine V_iadd f dX2_takeNumber_24 ?_
    refine V_putI f dX2_takeNumber_25 lf_2_9 lp_2_1 rfl rfl rfl rfl zb_17 ?_
    refine V_aload_n f dX2_takeNumber_28 0 rfl ?_
    refine V_getR f dX2_takeNumber_29 lf_2_20 rfl zb_17 rfl ?_
    refine V_aload_n f dX2_takeNumber_32 0 rfl ?_
    refine V_getE (x := (M 17 1) + 1) f dX2_takeNumber_33 lf_2_9 rfl zb_17 up_s ?_
    refine V_iconst (v := 1) f dX2_takeNumber_36 (by decide) ?_
    refine V_isub f dX2_takeNumber_37 ?_
    refine V_cVi (As := [.int (((M 17 1) + 1) - 1)]) (rest := []) f dX2_takeNumber_38 lk_X2_80 ml_X2_80 ins_X7_valueAt sel_X7_valueAt zb_18 (by decide) rfl (c_X7_valueAt (kl K) (kD K) (ky K) (kX K) ad (up2 M 17 1 ((M 17 1) + 1)) (((M 17 1) + 1) - 1) (by rw [show (up2 M 17 1 ((M 17 1) + 1)) 18 1 = M 18 1 from (up_c (by decide) rfl)]; exact hc)) rfl (Nat.le_of_ble_eq_true rfl) rfl ⟨by decide, by decide⟩ ⟨Nat.zero_le _, Nat.zero_le _⟩ rfl rfl ?_
    exact V_iret f q dX2_takeNumber_41 rfl (Nat.zero_le _) (Nat.zero_le _) ⟨rfl, rfl, (by simp only [s_X2_takeNumber, if_pos c1]), (by simp only [s_X2_takeNumber, if_pos c1])⟩
  · refine V_iconst (v := (-1)) f dX2_takeNumber_16 (by decide) ?_
    exact V_iret f q dX2_takeNumber_17 rfl (Nat.zero_le _) (Nat.zero_le _) ⟨rfl, rfl, (by simp only [s_X2_takeNumber, if_neg c1]), (by simp only [s_X2_takeNumber, if_neg c1])⟩
def s_X2_takeOneOf (M : MT) (a : Int32) (b : Int32) (e : Int32) : Int32 × MT := (if (s_X7_codeAt M (M 17 1)) = a then (s_X7_codeAt M (M 17 1), (up2 M 17 1 ((M 17 1) + 1))) else (if (s_X7_codeAt M (M 17 1)) = b then (s_X7_codeAt M (M 17 1), (up2 M 17 1 ((M 17 1) + 1))) else (if (s_X7_codeAt M (M 17 1)) = e then (s_X7_codeAt M (M 17 1), (up2 M 17 1 ((M 17 1) + 1))) else ((-1), M))))
set_option maxHeartbeats 4000000 in
set_option maxRecDepth 100000 in
theorem c_X2_takeOneOf (l : Launch) (D : va_G) (cy : Nat → ClassId) (X : va_W) (ad : Nat → Nat) (M : MT) (a : Int32) (b : Int32) (e : Int32) (hc : (M 18 1).toInt ≤ 500) : CtI l yX2_takeOneOf cX2_takeOneOf 5 .int (rK 1) D cy X ad ZB M [.ref (ad 17), .int a, .int b, .int e] (s_X2_takeOneOf M a b e).1 (s_X2_takeOneOf M a b e).2 := by
  refine Ctr.of (by decide +kernel) (Nat.le_of_ble_eq_true rfl) ?_
  intro K f q hnm hl0 hD0 hy0 hX0
  show V K ad 0 0 ZB M 0 [(0, .ref (ad 17)), (1, .int a), (2, .int b), (3, .int e)] []
  refine V_aload_n f dX2_takeOneOf_0 0 rfl ?_
  refine V_getR f dX2_takeOneOf_1 lf_2_20 rfl zb_17 rfl ?_
  refine V_aload_n f dX2_takeOneOf_4 0 rfl ?_
  refine V_getE (x := M 17 1) f dX2_takeOneOf_5 lf_2_9 rfl zb_17 rfl ?_
  refine V_cVi (As := [.int (M 17 1)]) (rest := []) f dX2_takeOneOf_8 lk_X2_30 ml_X2_30 ins_X7_codeAt sel_X7_codeAt zb_18 (by decide) rfl (c_X7_codeAt (kl K) (kD K) (ky K) (kX K) ad M (M 17 1) hc) rfl (Nat.le_of_ble_eq_true rfl) rfl ⟨by decide, by decide⟩ ⟨Nat.zero_le _, Nat.zero_le _⟩ rfl rfl ?_
  refine V_istore f dX2_takeOneOf_11 (by decide) rfl ?_
  refine V_iload f dX2_takeOneOf_13 0 rfl ?_
  refine V_iload_n f dX2_takeOneOf_15 2 rfl ?_
  refine V_icmp_eq (tgt := 33) f dX2_takeOneOf_16 (by decide) (fun c1 => ?_) (fun c1 => ?_)
  · refine V_aload_n f dX2_takeOneOf_33 1 rfl ?_
    refine V_dup f dX2_takeOneOf_34 rfl ?_
    refine V_getE (x := M 17 1) f dX2_takeOneOf_35 lf_2_9 rfl zb_17 rfl ?_
    refine V_iconst (v := 1) f dX2_takeOneOf_38 (by decide) ?_
    refine V_iadd f dX2_takeOneOf_39 ?_
    refine V_putI f dX2_takeOneOf_40 lf_2_9 lp_2_1 rfl rfl rfl rfl zb_17 ?_
    refine V_iload f dX2_takeOneOf_43 0 rfl ?_
    exact V_iret f q dX2_takeOneOf_45 rfl (Nat.zero_le _) (Nat.zero_le _) ⟨rfl, rfl, (by simp only [s_X2_takeOneOf, if_pos c1]), (by simp only [s_X2_takeOneOf, if_pos c1])⟩
  · refine V_iload f dX2_takeOneOf_19 0 rfl ?_
    refine V_iload_n f dX2_takeOneOf_21 3 rfl ?_
    refine V_icmp_eq (tgt := 33) f dX2_takeOneOf_22 (by decide) (fun c2 => ?_) (fun c2 => ?_)
    · refine V_aload_n f dX2_takeOneOf_33 1 rfl ?_
      refine V_dup f dX2_takeOneOf_34 rfl ?_
      refine V_getE (x := M 17 1) f dX2_takeOneOf_35 lf_2_9 rfl zb_17 rfl ?_
      refine V_iconst (v := 1) f dX2_takeOneOf_38 (by decide) ?_
      refine V_iadd f dX2_takeOneOf_39 ?_
      refine V_putI f dX2_takeOneOf_40 lf_2_9 lp_2_1 rfl rfl rfl rfl zb_17 ?_
      refine V_iload f dX2_takeOneOf_43 0 rfl ?_
      exact V_iret f q dX2_takeOneOf_45 rfl (Nat.zero_le _) (Nat.zero_le _) ⟨rfl, rfl, (by simp only [s_X2_takeOneOf, if_neg c1, if_pos c2]), (by simp only [s_X2_takeOneOf, if_neg c1, if_pos c2])⟩
    · refine V_iload f dX2_takeOneOf_25 0 rfl ?_
      refine V_iload_n f dX2_takeOneOf_27 4 rfl ?_
      refine V_icmp_eq (tgt := 33) f dX2_takeOneOf_28 (by decide) (fun c3 => ?_) (fun c3 => ?_)
      · refine V_aload_n f dX2_takeOneOf_33 1 rfl ?_
        refine V_dup f dX2_takeOneOf_34 rfl ?_
        refine V_getE (x := M 17 1) f dX2_takeOneOf_35 lf_2_9 rfl zb_17 rfl ?_
        refine V_iconst (v := 1) f dX2_takeOneOf_38 (by decide) ?_
        refine V_iadd f dX2_takeOneOf_39 ?_
        refine V_putI f dX2_takeOneOf_40 lf_2_9 lp_2_1 rfl rfl rfl rfl zb_17 ?_
        refine V_iload f dX2_takeOneOf_43 0 rfl ?_
        exact V_iret f q dX2_takeOneOf_45 rfl (Nat.zero_le _) (Nat.zero_le _) ⟨rfl, rfl, (by simp only [s_X2_takeOneOf, if_neg c1, if_neg c2, if_pos c3]), (by simp only [s_X2_takeOneOf, if_neg c1, if_neg c2, if_pos c3])⟩
      · refine V_iconst (v := (-1)) f dX2_takeOneOf_31 (by decide) ?_
        exact V_iret f q dX2_takeOneOf_32 rfl (Nat.zero_le _) (Nat.zero_le _) ⟨rfl, rfl, (by simp only [s_X2_takeOneOf, if_neg c1, if_neg c2, if_neg c3]), (by simp only [s_X2_takeOneOf, if_neg c1, if_neg c2, if_neg c3])⟩

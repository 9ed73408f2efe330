theorem isStack_in {M : MT} {a : Int32} (hI : InvB M) (h : ¬ s_X8_isStack M a = 0) : vp_in a 10 := by
  have h1 := within_of (M := M) h
  have h2 := hI.1
  have e0 : (0 : Int32).toInt = 0 := by decide
  have e1 : (1 : Int32).toInt = 1 := by decide
  have e2 : ((M 0 8) - 1).toInt = (M 0 8).toInt - 1 := by rw [Int32.toInt_sub, e1, Int.bmod_eq_of_le (by omega) (by omega)]
  rw [Int32.le_iff_toInt_le, Int32.le_iff_toInt_le] at h1
  rw [vp_in_iff]; omega
theorem vin10 {x : Int32} (h0 : 0 ≤ x.toInt) (h : x < 10) : vp_in x 10 := by
  have e : (10 : Int32).toInt = 10 := by decide
  rw [Int32.lt_iff_toInt_lt] at h
  rw [vp_in_iff]; omega
def s3_X8_depth (M : MT) (b : Int32) (e : Int32) : Int32 × MT := (if (s_X8_isBay M b) = 0 then (0, M) else (if (s_X8_within M e 0 3000) = 0 then (0, M) else (if (s_X0_lies M (28 + Int32.toNatClampNeg b)) = 0 then (1, (up2 M (28 + Int32.toNatClampNeg b) 0 e)) else (0, M))))
set_option maxHeartbeats 4000000 in
set_option maxRecDepth 100000 in
theorem c3_X8_depth (l : Launch) (D : va_G) (cy : Nat → ClassId) (X : va_W) (ad : Nat → Nat) (M : MT) (b : Int32) (e : Int32) (hI : InvB M) : CtI l yX8_depth cX8_depth 3 .boolean (rK 2) D cy X ad ZB M [.ref (ad 0), .int b, .int e] (s3_X8_depth M b e).1 (s3_X8_depth M b e).2 := by
  refine Ctr.of (by decide +kernel) (Nat.le_of_ble_eq_true rfl) ?_
  intro K f q hnm hl0 hD0 hy0 hX0
  show V K ad 0 0 ZB M 0 [(0, .ref (ad 0)), (1, .int b), (2, .int e)] []
  refine V_iload_n f dX8_depth_0 1 rfl ?_
  refine V_cSi (As := [.int b]) (rest := []) f dX8_depth_1 lk_X8_86 ml_X8_86 sta_X8_isBay (c_X8_isBay (kl K) (kD K) (ky K) (kX K) ad M b) rfl (Nat.le_of_ble_eq_true rfl) rfl ⟨by decide, by decide⟩ ⟨Nat.zero_le _, Nat.zero_le _⟩ rfl rfl ?_
  refine V_if_eq (tgt := 30) f dX8_depth_4 (by decide) (fun c1 => ?_) (fun c1 => ?_)
  · refine V_iconst (v := 0) f dX8_depth_30 (by decide) ?_
    exact V_iret f q dX8_depth_31 rfl (Nat.zero_le _) (Nat.zero_le _) ⟨rfl, rfl, (by simp only [s3_X8_depth, if_pos c1]), (by simp only [s3_X8_depth, if_pos c1])⟩
  · refine V_iload_n f dX8_depth_7 2 rfl ?_
    refine V_iconst (v := 0) f dX8_depth_8 (by decide) ?_
    refine V_sipush (v := 3000) f dX8_depth_9 (by decide) ?_
    refine V_cSi (As := [.int e, .int 0, .int 3000]) (rest := []) f dX8_depth_12 lk_X8_90 ml_X8_90 sta_X8_within (c_X8_within (kl K) (kD K) (ky K) (kX K) ad M e 0 3000) rfl (Nat.le_of_ble_eq_true rfl) rfl ⟨by decide, by decide⟩ ⟨Nat.zero_le _, Nat.zero_le _⟩ rfl rfl ?_
    refine V_if_eq (tgt := 30) f dX8_depth_15 (by decide) (fun c2 => ?_) (fun c2 => ?_)
    · refine V_iconst (v := 0) f dX8_depth_30 (by decide) ?_
      exact V_iret f q dX8_depth_31 rfl (Nat.zero_le _) (Nat.zero_le _) ⟨rfl, rfl, (by simp only [s3_X8_depth, if_neg c1, if_pos c2]), (by simp only [s3_X8_depth, if_neg c1, if_pos c2])⟩
    · refine V_aload_n f dX8_depth_18 0 rfl ?_
      refine V_getR f dX8_depth_19 lf_8_11 rfl zb_0 rfl ?_
      refine V_iload_n f dX8_depth_22 1 rfl ?_
      refine V_aald (t0 := 3) f dX8_depth_23 zb_1 (by decide) rfl (isBay_in c1) (eBay (vlt (isBay_in c1))) ?_
      refine V_cVi (As := []) (rest := []) f dX8_depth_24 lk_X8_94 ml_X8_94 ins_X0_lies sel_X0_lies (zBay (vlt (isBay_in c1))) (by decide) rfl (c_X0_lies (kl K) (kD K) (ky K) (kX K) ad M (28 + Int32.toNatClampNeg b) (zBay (vlt (isBay_in c1)))) rfl (Nat.le_of_ble_eq_true rfl) rfl ⟨by decide, by decide⟩ ⟨Nat.zero_le _, Nat.zero_le _⟩ rfl rfl ?_
      refine V_if_eq (tgt := 32) f dX8_depth_27 (by decide) (fun c3 => ?_) (fun c3 => ?_)
      · refine V_aload_n f dX8_depth_32 0 rfl ?_
        refine V_getR f dX8_depth_33 lf_8_11 rfl zb_0 rfl ?_
        refine V_iload_n f dX8_depth_36 1 rfl ?_
        refine V_aald (t0 := 3) f dX8_depth_37 zb_1 (by decide) rfl (isBay_in c1) (eBay (vlt (isBay_in c1))) ?_
        refine V_iload_n f dX8_depth_38 2 rfl ?_
        refine V_putI f dX8_depth_39 lf_8_98 lp_0_0 rfl rfl rfl rfl (zBay (vlt (isBay_in c1))) ?_
        refine V_iconst (v := 1) f dX8_depth_42 (by decide) ?_
        exact V_iret f q dX8_depth_43 rfl (Nat.zero_le _) (Nat.zero_le _) ⟨rfl, rfl, (by simp only [s3_X8_depth, if_neg c1, if_neg c2, if_pos c3]), (by simp only [s3_X8_depth, if_neg c1, if_neg c2, if_pos c3])⟩
      · refine V_iconst (v := 0) f dX8_depth_30 (by decide) ?_
        exact V_iret f q dX8_depth_31 rfl (Nat.zero_le _) (Nat.zero_le _) ⟨rfl, rfl, (by simp only [s3_X8_depth, if_neg c1, if_neg c2, if_neg c3]), (by simp only [s3_X8_depth, if_neg c1, if_neg c2, if_neg c3])⟩
def s3_X8_ridge (M : MT) (b : Int32) : Int32 × MT := (if (s_X8_isBay M b) = 0 then (0, M) else (if (M (28 + Int32.toNatClampNeg b) 1) = 1 then (1, (up2 M (28 + Int32.toNatClampNeg b) 1 2)) else (0, M)))
set_option maxHeartbeats 4000000 in
set_option maxRecDepth 100000 in
theorem c3_X8_ridge (l : Launch) (D : va_G) (cy : Nat → ClassId) (X : va_W) (ad : Nat → Nat) (M : MT) (b : Int32) (hI : InvB M) : CtI l yX8_ridge cX8_ridge 2 .boolean (rK 2) D cy X ad ZB M [.ref (ad 0), .int b] (s3_X8_ridge M b).1 (s3_X8_ridge M b).2 := by
  refine Ctr.of (by decide +kernel) (Nat.le_of_ble_eq_true rfl) ?_
  intro K f q hnm hl0 hD0 hy0 hX0
  show V K ad 0 0 ZB M 0 [(0, .ref (ad 0)), (1, .int b)] []
  refine V_iload_n f dX8_ridge_0 1 rfl ?_
  refine V_cSi (As := [.int b]) (rest := []) f dX8_ridge_1 lk_X8_86 ml_X8_86 sta_X8_isBay (c_X8_isBay (kl K) (kD K) (ky K) (kX K) ad M b) rfl (Nat.le_of_ble_eq_true rfl) rfl ⟨by decide, by decide⟩ ⟨Nat.zero_le _, Nat.zero_le _⟩ rfl rfl ?_
  refine V_if_eq (tgt := 20) f dX8_ridge_4 (by decide) (fun c1 => ?_) (fun c1 => ?_)
  · refine V_iconst (v := 0) f dX8_ridge_20 (by decide) ?_
    exact V_iret f q dX8_ridge_21 rfl (Nat.zero_le _) (Nat.zero_le _) ⟨rfl, rfl, (by simp only [s3_X8_ridge, if_pos c1]), (by simp only [s3_X8_ridge, if_pos c1])⟩
  · refine V_aload_n f dX8_ridge_7 0 rfl ?_
    refine V_getR f dX8_ridge_8 lf_8_11 rfl zb_0 rfl ?_
    refine V_iload_n f dX8_ridge_11 1 rfl ?_
    refine V_aald (t0 := 3) f dX8_ridge_12 zb_1 (by decide) rfl (isBay_in c1) (eBay (vlt (isBay_in c1))) ?_
    refine V_getE (x := M (28 + Int32.toNatClampNeg b) 1) f dX8_ridge_13 lf_8_116 rfl (zBay (vlt (isBay_in c1))) rfl ?_
    refine V_iconst (v := 1) f dX8_ridge_16 (by decide) ?_
    refine V_icmp_eq (tgt := 22) f dX8_ridge_17 (by decide) (fun c2 => ?_) (fun c2 => ?_)
    · refine V_aload_n f dX8_ridge_22 0 rfl ?_
      refine V_getR f dX8_ridge_23 lf_8_11 rfl zb_0 rfl ?_
      refine V_iload_n f dX8_ridge_26 1 rfl ?_
      refine V_aald (t0 := 3) f dX8_ridge_27 zb_1 (by decide) rfl (isBay_in c1) (eBay (vlt (isBay_in c1))) ?_
      refine V_iconst (v := 2) f dX8_ridge_28 (by decide) ?_
      refine V_putI f dX8_ridge_29 lf_8_116 lp_0_1 rfl rfl rfl rfl (zBay (vlt (isBay_in c1))) ?_
      refine V_iconst (v := 1) f dX8_ridge_32 (by decide) ?_
      exact V_iret f q dX8_ridge_33 rfl (Nat.zero_le _) (Nat.zero_le _) ⟨rfl, rfl, (by simp only [s3_X8_ridge, if_neg c1, if_pos c2]), (by simp only [s3_X8_ridge, if_neg c1, if_pos c2])⟩
    · refine V_iconst (v := 0) f dX8_ridge_20 (by decide) ?_
      exact V_iret f q dX8_ridge_21 rfl (Nat.zero_le _) (Nat.zero_le _) ⟨rfl, rfl, (by simp only [s3_X8_ridge, if_neg c1, if_neg c2]), (by simp only [s3_X8_ridge, if_neg c1, if_neg c2])⟩
def s3_X8_probe (M : MT) (b : Int32) (e : Int32) : Int32 × MT := (if (s_X8_isBay M b) = 0 then ((-1), M) else (if (s_X8_within M e 0 900) = 0 then ((-1), M) else (if (s_X0_takesProbe M (28 + Int32.toNatClampNeg b)) = 0 then ((-1), M) else ((s_X0_addProbe M (28 + Int32.toNatClampNeg b) e).1, (s_X0_addProbe M (28 + Int32.toNatClampNeg b) e).2))))
set_option maxHeartbeats 4000000 in
set_option maxRecDepth 100000 in
theorem c3_X8_probe (l : Launch) (D : va_G) (cy : Nat → ClassId) (X : va_W) (ad : Nat → Nat) (M : MT) (b : Int32) (e : Int32) (hI : InvB M) : CtI l yX8_probe cX8_probe 3 .int (rK 2) D cy X ad ZB M [.ref (ad 0), .int b, .int e] (s3_X8_probe M b e).1 (s3_X8_probe M b e).2 := by
  refine Ctr.of (by decide +kernel) (Nat.le_of_ble_eq_true rfl) ?_
  intro K f q hnm hl0 hD0 hy0 hX0
  show V K ad 0 0 ZB M 0 [(0, .ref (ad 0)), (1, .int b), (2, .int e)] []
  refine V_iload_n f dX8_probe_0 1 rfl ?_
  refine V_cSi (As := [.int b]) (rest := []) f dX8_probe_1 lk_X8_86 ml_X8_86 sta_X8_isBay (c_X8_isBay (kl K) (kD K) (ky K) (kX K) ad M b) rfl (Nat.le_of_ble_eq_true rfl) rfl ⟨by decide, by decide⟩ ⟨Nat.zero_le _, Nat.zero_le _⟩ rfl rfl ?_
  refine V_if_eq (tgt := 30) f dX8_probe_4 (by decide) (fun c1 => ?_) (fun c1 => ?_)
  · refine V_iconst (v := (-1)) f dX8_probe_30 (by decide) ?_
    exact V_iret f q dX8_probe_31 rfl (Nat.zero_le _) (Nat.zero_le _) ⟨rfl, rfl, (by simp only [s3_X8_probe, if_pos c1]), (by simp only [s3_X8_probe, if_pos c1])⟩
  · refine V_iload_n f dX8_probe_7 2 rfl ?_
    refine V_iconst (v := 0) f dX8_probe_8 (by decide) ?_
    refine V_sipush (v := 900) f dX8_probe_9 (by decide) ?_
    refine V_cSi (As := [.int e, .int 0, .int 900]) (rest := []) f dX8_probe_12 lk_X8_90 ml_X8_90 sta_X8_within (c_X8_within (kl K) (kD K) (ky K) (kX K) ad M e 0 900) rfl (Nat.le_of_ble_eq_true rfl) rfl ⟨by decide, by decide⟩ ⟨Nat.zero_le _, Nat.zero_le _⟩ rfl rfl ?_
    refine V_if_eq (tgt := 30) f dX8_probe_15 (by decide) (fun c2 => ?_) (fun c2 => ?_)
    · refine V_iconst (v := (-1)) f dX8_probe_30 (by decide) ?_
      exact V_iret f q dX8_probe_31 rfl (Nat.zero_le _) (Nat.zero_le _) ⟨rfl, rfl, (by simp only [s3_X8_probe, if_neg c1, if_pos c2]), (by simp only [s3_X8_probe, if_neg c1, if_pos c2])⟩
    · refine V_aload_n f dX8_probe_18 0 rfl ?_
      refine V_getR f dX8_probe_19 lf_8_11 rfl zb_0 rfl ?_
      refine V_iload_n f dX8_probe_22 1 rfl ?_
      refine V_aald (t0 := 3) f dX8_probe_23 zb_1 (by decide) rfl (isBay_in c1) (eBay (vlt (isBay_in c1))) ?_
      refine V_cVi (As := []) (rest := []) f dX8_probe_24 lk_X8_119 ml_X8_119 ins_X0_takesProbe sel_X0_takesProbe (zBay (vlt (isBay_in c1))) (by decide) rfl (c_X0_takesProbe (kl K) (kD K) (ky K) (kX K) ad M (28 + Int32.toNatClampNeg b) (zBay (vlt (isBay_in c1)))) rfl (Nat.le_of_ble_eq_true rfl) rfl ⟨by decide, by decide⟩ ⟨Nat.zero_le _, Nat.zero_le _⟩ rfl rfl ?_
      refine V_if_ne (tgt := 32) f dX8_probe_27 (by decide) (fun c3 => ?_) (fun c3 => ?_)
      · refine V_aload_n f dX8_probe_32 0 rfl ?_
        refine V_getR f dX8_probe_33 lf_8_11 rfl zb_0 rfl ?_
        refine V_iload_n f dX8_probe_36 1 rfl ?_
        refine V_aald (t0 := 3) f dX8_probe_37 zb_1 (by decide) rfl (isBay_in c1) (eBay (vlt (isBay_in c1))) ?_
        refine V_iload_n f dX8_probe_38 2 rfl ?_
        refine V_cVi (As := [.int e]) (rest := []) f dX8_probe_39 lk_X8_122 ml_X8_122 ins_X0_addProbe sel_X0_addProbe (zBay (vlt (isBay_in c1))) (by decide) rfl (c_X0_addProbe (kl K) (kD K) (ky K) (kX K) ad M (28 + Int32.toNatClampNeg b) e (zBay (vlt (isBay_in c1)))) rfl (Nat.le_of_ble_eq_true rfl) rfl ⟨by decide, by decide⟩ ⟨Nat.zero_le _, Nat.zero_le _⟩ rfl rfl ?_
        exact V_iret f q dX8_probe_42 rfl (Nat.zero_le _) (Nat.zero_le _) ⟨rfl, rfl, (by simp only [s3_X8_probe, if_neg c1, if_neg c2, if_neg c3]), (by simp only [s3_X8_probe, if_neg c1, if_neg c2, if_neg c3])⟩
      · refine V_iconst (v := (-1)) f dX8_probe_30 (by decide) ?_
        exact V_iret f q dX8_probe_31 rfl (Nat.zero_le _) (Nat.zero_le _) ⟨rfl, rfl, (by simp only [s3_X8_probe, if_neg c1, if_neg c2, if_pos c3]), (by simp only [s3_X8_probe, if_neg c1, if_neg c2, if_pos c3])⟩
def s3_X8_stack (M : MT) : Int32 × MT := (if (M 0 8) < 10 then (((M 0 8) + 1) - 1, (up2 (up2 M (44 + Int32.toNatClampNeg (M 0 8)) 5 (M 0 10)) 0 8 ((M 0 8) + 1))) else ((-1), M))
set_option maxHeartbeats 4000000 in
set_option maxRecDepth 100000 in
theorem c3_X8_stack (l : Launch) (D : va_G) (cy : Nat → ClassId) (X : va_W) (ad : Nat → Nat) (M : MT) (hI : InvB M) : CtI l yX8_stack cX8_stack 1 .int (rK 0) D cy X ad ZB M [.ref (ad 0)] (s3_X8_stack M).1 (s3_X8_stack M).2 := by
  refine Ctr.of (by decide +kernel) (Nat.le_of_ble_eq_true rfl) ?_
  intro K f q hnm hl0 hD0 hy0 hX0
  show V K ad 0 0 ZB M 0 [(0, .ref (ad 0))] []
  refine V_aload_n f dX8_stack_0 0 rfl ?_
  refine V_getE (x := M 0 8) f dX8_stack_1 lf_8_62 rfl zb_0 rfl ?_
  refine V_bipush (v := 10) f dX8_stack_4 (by decide) ?_
  refine V_icmp_lt (tgt := 11) f dX8_stack_6 (by decide) (fun c1 => ?_) (fun c1 => ?_)
  · refine V_aload_n f dX8_stack_11 0 rfl ?_
    refine V_getR f dX8_stack_12 lf_8_17 rfl zb_0 rfl ?_
    refine V_aload_n f dX8_stack_15 0 rfl ?_
    refine V_getE (x := M 0 8) f dX8_stack_16 lf_8_62 rfl zb_0 rfl ?_
    refine V_aald (t0 := 5) f dX8_stack_19 zb_2 (by decide) rfl (vin10 hI.1.1 c1) (eStk (vlt (vin10 hI.1.1 c1))) ?_
    refine V_aload_n f dX8_stack_20 0 rfl ?_
    refine V_getE (x := M 0 10) f dX8_stack_21 lf_8_69 rfl zb_0 rfl ?_
    refine V_putI f dX8_stack_24 lf_8_126 lp_5_5 rfl rfl rfl rfl (zStk (vlt (vin10 hI.1.1 c1))) ?_
    refine V_aload_n f dX8_stack_27 0 rfl ?_
    refine V_dup f dX8_stack_28 rfl ?_
    refine V_getE (x := M 0 8) f dX8_stack_29 lf_8_62 rfl zb_0 (up_c (ci_ne zb_0 (zStk (vlt (vin10 hI.1.1 c1))) (by decide)) rfl) ?_
    refine V_iconst (v := 1) f dX8_stack_32 (by decide) ?_
    refine V_iadd f dX8_stack_33 ?_
    refine V_putI f dX8_stack_34 lf_8_62 lp_8_8 rfl rfl rfl rfl zb_0 ?_
    refine V_aload_n f dX8_stack_37 0 rfl ?_
    refine V_getE (x := (M 0 8) + 1) f dX8_stack_38 lf_8_62 rfl zb_0 up_s ?_
    refine V_iconst (v := 1) f dX8_stack_41 (by decide) ?_
    refine V_isub f dX8_stack_42 ?_
    exact V_iret f q dX8_stack_43 rfl (Nat.zero_le _) (Nat.zero_le _) ⟨rfl, rfl, (by simp only [s3_X8_stack, if_pos c1]), (by simp only [s3_X8_stack, if_pos c1])⟩
  · refine V_iconst (v := (-1)) f dX8_stack_9 (by decide) ?_
    exact V_iret f q dX8_stack_10 rfl (Nat.zero_le _) (Nat.zero_le _) ⟨rfl, rfl, (by simp only [s3_X8_stack, if_neg c1]), (by simp only [s3_X8_stack, if_neg c1])⟩
def s3_X8_track (M : MT) (b : Int32) : Int32 × MT := (if (s_X8_isBay M b) = 0 then ((-1), M) else (if 0 ≤ (b - (M 0 11)) then (b - (M 0 11)) else 0 - (b - (M 0 11)), (up2 (up2 M 0 11 b) 0 12 ((M 0 12) + (if 0 ≤ (b - (M 0 11)) then (b - (M 0 11)) else 0 - (b - (M 0 11)))))))
set_option maxHeartbeats 4000000 in
set_option maxRecDepth 100000 in
theorem c3_X8_track (l : Launch) (D : va_G) (cy : Nat → ClassId) (X : va_W) (ad : Nat → Nat) (M : MT) (b : Int32) (hI : InvB M) : CtI l yX8_track cX8_track 3 .int (rK 2) D cy X ad ZB M [.ref (ad 0), .int b] (s3_X8_track M b).1 (s3_X8_track M b).2 := by
  refine Ctr.of (by decide +kernel) (Nat.le_of_ble_eq_true rfl) ?_
  intro K f q hnm hl0 hD0 hy0 hX0
  show V K ad 0 0 ZB M 0 [(0, .ref (ad 0)), (1, .int b)] []
  refine V_iload_n f dX8_track_0 1 rfl ?_
  refine V_cSi (As := [.int b]) (rest := []) f dX8_track_1 lk_X8_86 ml_X8_86 sta_X8_isBay (c_X8_isBay (kl K) (kD K) (ky K) (kX K) ad M b) rfl (Nat.le_of_ble_eq_true rfl) rfl ⟨by decide, by decide⟩ ⟨Nat.zero_le _, Nat.zero_le _⟩ rfl rfl ?_
  refine V_if_ne (tgt := 9) f dX8_track_4 (by decide) (fun c1 => ?_) (fun c1 => ?_)
  · refine V_iload_n f dX8_track_9 1 rfl ?_
    refine V_aload_n f dX8_track_10 0 rfl ?_
    refine V_getE (x := M 0 11) f dX8_track_11 lf_8_72 rfl zb_0 rfl ?_
    refine V_isub f dX8_track_14 ?_
    refine V_mabs f dX8_track_15 ml_X8_129 ma_abs ma_ini mc_abs (by decide) (Nat.le_of_ble_eq_true rfl) (Nat.zero_le _) (Nat.zero_le _) ?_
    refine V_istore_n f dX8_track_18 rfl (by decide) rfl ?_
    refine V_aload_n f dX8_track_19 1 rfl ?_
    refine V_iload_n f dX8_track_20 2 rfl ?_
    refine V_putI f dX8_track_21 lf_8_72 lp_8_11 rfl rfl rfl rfl zb_0 ?_
    refine V_aload_n f dX8_track_24 1 rfl ?_
    refine V_dup f dX8_track_25 rfl ?_
    refine V_getE (x := M 0 12) f dX8_track_26 lf_8_75 rfl zb_0 (up_k (by decide) rfl) ?_
    refine V_iload_n f dX8_track_29 0 rfl ?_
    refine V_iadd f dX8_track_30 ?_
    refine V_putI f dX8_track_31 lf_8_75 lp_8_12 rfl rfl rfl rfl zb_0 ?_
    refine V_iload_n f dX8_track_34 0 rfl ?_
    exact V_iret f q dX8_track_35 rfl (Nat.zero_le _) (Nat.zero_le _) ⟨rfl, rfl, (by simp only [s3_X8_track, if_neg c1]), (by simp only [s3_X8_track, if_neg c1])⟩
  · refine V_iconst (v := (-1)) f dX8_track_7 (by decide) ?_
    exact V_iret f q dX8_track_8 rfl (Nat.zero_le _) (Nat.zero_le _) ⟨rfl, rfl, (by simp only [s3_X8_track, if_pos c1]), (by simp only [s3_X8_track, if_pos c1])⟩
def s3_X8_want (M : MT) (a : Int32) : Int32 × MT := (if (s_X8_within M a 0 1000) = 0 then (0, M) else (1, (up2 M 14 0 a)))
set_option maxHeartbeats 4000000 in
set_option maxRecDepth 100000 in
theorem c3_X8_want (l : Launch) (D : va_G) (cy : Nat → ClassId) (X : va_W) (ad : Nat → Nat) (M : MT) (a : Int32) (hI : InvB M) : CtI l yX8_want cX8_want 2 .boolean (rK 1) D cy X ad ZB M [.ref (ad 0), .int a] (s3_X8_want M a).1 (s3_X8_want M a).2 := by
  refine Ctr.of (by decide +kernel) (Nat.le_of_ble_eq_true rfl) ?_
  intro K f q hnm hl0 hD0 hy0 hX0
  show V K ad 0 0 ZB M 0 [(0, .ref (ad 0)), (1, .int a)] []
  refine V_iload_n f dX8_want_0 1 rfl ?_
  refine V_iconst (v := 0) f dX8_want_1 (by decide) ?_
  refine V_sipush (v := 1000) f dX8_want_2 (by decide) ?_
  refine V_cSi (As := [.int a, .int 0, .int 1000]) (rest := []) f dX8_want_5 lk_X8_90 ml_X8_90 sta_X8_within (c_X8_within (kl K) (kD K) (ky K) (kX K) ad M a 0 1000) rfl (Nat.le_of_ble_eq_true rfl) rfl ⟨by decide, by decide⟩ ⟨Nat.zero_le _, Nat.zero_le _⟩ rfl rfl ?_
  refine V_if_ne (tgt := 13) f dX8_want_8 (by decide) (fun c1 => ?_) (fun c1 => ?_)
  · refine V_aload_n f dX8_want_13 0 rfl ?_
    refine V_getR f dX8_want_14 lf_8_35 rfl zb_0 rfl ?_
    refine V_iload_n f dX8_want_17 1 rfl ?_
    refine V_putI f dX8_want_18 lf_8_165 lp_4_0 rfl rfl rfl rfl zb_14 ?_
    refine V_iconst (v := 1) f dX8_want_21 (by decide) ?_
    exact V_iret f q dX8_want_22 rfl (Nat.zero_le _) (Nat.zero_le _) ⟨rfl, rfl, (by simp only [s3_X8_want, if_neg c1]), (by simp only [s3_X8_want, if_neg c1])⟩
  · refine V_iconst (v := 0) f dX8_want_11 (by decide) ?_
    exact V_iret f q dX8_want_12 rfl (Nat.zero_le _) (Nat.zero_le _) ⟨rfl, rfl, (by simp only [s3_X8_want, if_pos c1]), (by simp only [s3_X8_want, if_pos c1])⟩
def s3_X8_read (M : MT) (a : Int32) (e : Int32) : Int32 × MT := (if (s_X8_isStack M a) = 0 then (0, M) else (if (s_X8_within M e 0 100) = 0 then (0, M) else (1, (up2 M (44 + Int32.toNatClampNeg a) 3 e))))
set_option maxHeartbeats 4000000 in
set_option maxRecDepth 100000 in
theorem c3_X8_read (l : Launch) (D : va_G) (cy : Nat → ClassId) (X : va_W) (ad : Nat → Nat) (M : MT) (a : Int32) (e : Int32) (hI : InvB M) : CtI l yX8_read cX8_read 3 .boolean (rK 2) D cy X ad ZB M [.ref (ad 0), .int a, .int e] (s3_X8_read M a e).1 (s3_X8_read M a e).2 := by
  refine Ctr.of (by decide +kernel) (Nat.le_of_ble_eq_true rfl) ?_
  intro K f q hnm hl0 hD0 hy0 hX0
  show V K ad 0 0 ZB M 0 [(0, .ref (ad 0)), (1, .int a), (2, .int e)] []
  refine V_aload_n f dX8_read_0 0 rfl ?_
  refine V_iload_n f dX8_read_1 1 rfl ?_
  refine V_cVi (As := [.int a]) (rest := []) f dX8_read_2 lk_X8_146 ml_X8_146 ins_X8_isStack sel_X8_isStack zb_0 (by decide) rfl (c_X8_isStack (kl K) (kD K) (ky K) (kX K) ad M a) rfl (Nat.le_of_ble_eq_true rfl) rfl ⟨by decide, by decide⟩ ⟨Nat.zero_le _, Nat.zero_le _⟩ rfl rfl ?_
  refine V_if_eq (tgt := 18) f dX8_read_5 (by decide) (fun c1 => ?_) (fun c1 => ?_)
  · refine V_iconst (v := 0) f dX8_read_18 (by decide) ?_
    exact V_iret f q dX8_read_19 rfl (Nat.zero_le _) (Nat.zero_le _) ⟨rfl, rfl, (by simp only [s3_X8_read, if_pos c1]), (by simp only [s3_X8_read, if_pos c1])⟩
  · refine V_iload_n f dX8_read_8 2 rfl ?_
    refine V_iconst (v := 0) f dX8_read_9 (by decide) ?_
    refine V_bipush (v := 100) f dX8_read_10 (by decide) ?_
    refine V_cSi (As := [.int e, .int 0, .int 100]) (rest := []) f dX8_read_12 lk_X8_90 ml_X8_90 sta_X8_within (c_X8_within (kl K) (kD K) (ky K) (kX K) ad M e 0 100) rfl (Nat.le_of_ble_eq_true rfl) rfl ⟨by decide, by decide⟩ ⟨Nat.zero_le _, Nat.zero_le _⟩ rfl rfl ?_
    refine V_if_ne (tgt := 20) f dX8_read_15 (by decide) (fun c2 => ?_) (fun c2 => ?_)
    · refine V_aload_n f dX8_read_20 0 rfl ?_
      refine V_getR f dX8_read_21 lf_8_17 rfl zb_0 rfl ?_
      refine V_iload_n f dX8_read_24 1 rfl ?_
      refine V_aald (t0 := 5) f dX8_read_25 zb_2 (by decide) rfl (isStack_in hI c1) (eStk (vlt (isStack_in hI c1))) ?_
      refine V_iload_n f dX8_read_26 2 rfl ?_
      refine V_putI f dX8_read_27 lf_8_168 lp_5_3 rfl rfl rfl rfl (zStk (vlt (isStack_in hI c1))) ?_
      refine V_iconst (v := 1) f dX8_read_30 (by decide) ?_
      exact V_iret f q dX8_read_31 rfl (Nat.zero_le _) (Nat.zero_le _) ⟨rfl, rfl, (by simp only [s3_X8_read, if_neg c1, if_neg c2]), (by simp only [s3_X8_read, if_neg c1, if_neg c2])⟩
    · refine V_iconst (v := 0) f dX8_read_18 (by decide) ?_
      exact V_iret f q dX8_read_19 rfl (Nat.zero_le _) (Nat.zero_le _) ⟨rfl, rfl, (by simp only [s3_X8_read, if_neg c1, if_pos c2]), (by simp only [s3_X8_read, if_neg c1, if_pos c2])⟩
def s3_X8_fault (M : MT) : Int32 := (M 0 14)
set_option maxHeartbeats 4000000 in
set_option maxRecDepth 100000 in
theorem c3_X8_fault (l : Launch) (D : va_G) (cy : Nat → ClassId) (X : va_W) (ad : Nat → Nat) (M : MT) (hI : InvB M) : CtI l yX8_fault cX8_fault 1 .int (rK 0) D cy X ad ZB M [.ref (ad 0)] (s3_X8_fault M) M := by
  refine Ctr.of (by decide +kernel) (Nat.le_of_ble_eq_true rfl) ?_
  intro K f q hnm hl0 hD0 hy0 hX0
  show V K ad 0 0 ZB M 0 [(0, .ref (ad 0))] []
  refine V_aload_n f dX8_fault_0 0 rfl ?_
  refine V_getE (x := M 0 14) f dX8_fault_1 lf_8_81 rfl zb_0 rfl ?_
  exact V_iret f q dX8_fault_4 rfl (Nat.zero_le _) (Nat.zero_le _) ⟨rfl, rfl, (by simp only [s3_X8_fault]), rfl⟩
def s3_X8_bay (M : MT) (b : Int32) (e : Int32) : Int32 := (if (s_X8_isBay M b) = 0 then (-1) else (s_X0_tellOf M (28 + Int32.toNatClampNeg b) e))
set_option maxHeartbeats 4000000 in
set_option maxRecDepth 100000 in
theorem c3_X8_bay (l : Launch) (D : va_G) (cy : Nat → ClassId) (X : va_W) (ad : Nat → Nat) (M : MT) (b : Int32) (e : Int32) (hI : InvB M) : CtI l yX8_bay cX8_bay 3 .int (rK 2) D cy X ad ZB M [.ref (ad 0), .int b, .int e] (s3_X8_bay M b e) M := by
  refine Ctr.of (by decide +kernel) (Nat.le_of_ble_eq_true rfl) ?_
  intro K f q hnm hl0 hD0 hy0 hX0
  show V K ad 0 0 ZB M 0 [(0, .ref (ad 0)), (1, .int b), (2, .int e)] []
  refine V_iload_n f dX8_bay_0 1 rfl ?_
  refine V_cSi (As := [.int b]) (rest := []) f dX8_bay_1 lk_X8_86 ml_X8_86 sta_X8_isBay (c_X8_isBay (kl K) (kD K) (ky K) (kX K) ad M b) rfl (Nat.le_of_ble_eq_true rfl) rfl ⟨by decide, by decide⟩ ⟨Nat.zero_le _, Nat.zero_le _⟩ rfl rfl ?_
  refine V_if_eq (tgt := 20) f dX8_bay_4 (by decide) (fun c1 => ?_) (fun c1 => ?_)
  · refine V_iconst (v := (-1)) f dX8_bay_20 (by decide) ?_
    exact V_iret f q dX8_bay_21 rfl (Nat.zero_le _) (Nat.zero_le _) ⟨rfl, rfl, (by simp only [s3_X8_bay, if_pos c1]), rfl⟩
  · refine V_aload_n f dX8_bay_7 0 rfl ?_
    refine V_getR f dX8_bay_8 lf_8_11 rfl zb_0 rfl ?_
    refine V_iload_n f dX8_bay_11 1 rfl ?_
    refine V_aald (t0 := 3) f dX8_bay_12 zb_1 (by decide) rfl (isBay_in c1) (eBay (vlt (isBay_in c1))) ?_
    refine V_iload_n f dX8_bay_13 2 rfl ?_
    refine V_cVi (As := [.int e]) (rest := []) f dX8_bay_14 lk_X8_205 ml_X8_205 ins_X0_tellOf sel_X0_tellOf (zBay (vlt (isBay_in c1))) (by decide) rfl (c_X0_tellOf (kl K) (kD K) (ky K) (kX K) ad M (28 + Int32.toNatClampNeg b) e (zBay (vlt (isBay_in c1)))) rfl (Nat.le_of_ble_eq_true rfl) rfl ⟨by decide, by decide⟩ ⟨Nat.zero_le _, Nat.zero_le _⟩ rfl rfl ?_
    refine V_goto (tgt := 21) f dX8_bay_17 (by decide) ?_
    exact V_iret f q dX8_bay_21 rfl (Nat.zero_le _) (Nat.zero_le _) ⟨rfl, rfl, (by simp only [s3_X8_bay, if_neg c1]), rfl⟩
def s3_X8_stackOf (M : MT) (a : Int32) (e : Int32) : Int32 := (if (s_X8_isStack M a) = 0 then (-1) else (s_X5_tellOf M (44 + Int32.toNatClampNeg a) e))
set_option maxHeartbeats 4000000 in
set_option maxRecDepth 100000 in
theorem c3_X8_stackOf (l : Launch) (D : va_G) (cy : Nat → ClassId) (X : va_W) (ad : Nat → Nat) (M : MT) (a : Int32) (e : Int32) (hI : InvB M) : CtI l yX8_stackOf cX8_stackOf 3 .int (rK 2) D cy X ad ZB M [.ref (ad 0), .int a, .int e] (s3_X8_stackOf M a e) M := by
  refine Ctr.of (by decide +kernel) (Nat.le_of_ble_eq_true rfl) ?_
  intro K f q hnm hl0 hD0 hy0 hX0
  show V K ad 0 0 ZB M 0 [(0, .ref (ad 0)), (1, .int a), (2, .int e)] []
  refine V_aload_n f dX8_stackOf_0 0 rfl ?_
  refine V_iload_n f dX8_stackOf_1 1 rfl ?_
  refine V_cVi (As := [.int a]) (rest := []) f dX8_stackOf_2 lk_X8_146 ml_X8_146 ins_X8_isStack sel_X8_isStack zb_0 (by decide) rfl (c_X8_isStack (kl K) (kD K) (ky K) (kX K) ad M a) rfl (Nat.le_of_ble_eq_true rfl) rfl ⟨by decide, by decide⟩ ⟨Nat.zero_le _, Nat.zero_le _⟩ rfl rfl ?_
  refine V_if_eq (tgt := 21) f dX8_stackOf_5 (by decide) (fun c1 => ?_) (fun c1 => ?_)
  · refine V_iconst (v := (-1)) f dX8_stackOf_21 (by decide) ?_
    exact V_iret f q dX8_stackOf_22 rfl (Nat.zero_le _) (Nat.zero_le _) ⟨rfl, rfl, (by simp only [s3_X8_stackOf, if_pos c1]), rfl⟩
  · refine V_aload_n f dX8_stackOf_8 0 rfl ?_
    refine V_getR f dX8_stackOf_9 lf_8_17 rfl zb_0 rfl ?_
    refine V_iload_n f dX8_stackOf_12 1 rfl ?_
    refine V_aald (t0 := 5) f dX8_stackOf_13 zb_2 (by decide) rfl (isStack_in hI c1) (eStk (vlt (isStack_in hI c1))) ?_
    refine V_iload_n f dX8_stackOf_14 2 rfl ?_
    refine V_cVi (As := [.int e]) (rest := []) f dX8_stackOf_15 lk_X8_208 ml_X8_208 ins_X5_tellOf sel_X5_tellOf (zStk (vlt (isStack_in hI c1))) (by decide) rfl (c_X5_tellOf (kl K) (kD K) (ky K) (kX K) ad M (44 + Int32.toNatClampNeg a) e (zStk (vlt (isStack_in hI c1)))) rfl (Nat.le_of_ble_eq_true rfl) rfl ⟨by decide, by decide⟩ ⟨Nat.zero_le _, Nat.zero_le _⟩ rfl rfl ?_
    refine V_goto (tgt := 22) f dX8_stackOf_18 (by decide) ?_
    exact V_iret f q dX8_stackOf_22 rfl (Nat.zero_le _) (Nat.zero_le _) ⟨rfl, rfl, (by simp only [s3_X8_stackOf, if_neg c1]), rfl⟩

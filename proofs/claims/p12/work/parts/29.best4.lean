def s_X3_bestBay (M : MT) (a : Int32) : Int32 := (if (s_X8_within M a 0 ((M 22 5) - 1)) = 0 then (-1) else (s_X3_bayIn M (M 22 6) a))
set_option maxHeartbeats 4000000 in
set_option maxRecDepth 100000 in
theorem c_X3_bestBay (l : Launch) (D : va_G) (cy : Nat → ClassId) (X : va_W) (ad : Nat → Nat) (M : MT) (a : Int32) : CtI l yX3_bestBay cX3_bestBay 2 .int (rK 1) D cy X ad ZB M [.ref (ad 22), .int a] (s_X3_bestBay M a) M := by
  refine Ctr.of (by decide +kernel) (Nat.le_of_ble_eq_true rfl) ?_
  intro K f q hnm hl0 hD0 hy0 hX0
  show V K ad 0 0 ZB M 0 [(0, .ref (ad 22)), (1, .int a)] []
  refine V_iload_n f dX3_bestBay_0 1 rfl ?_
  refine V_iconst (v := 0) f dX3_bestBay_1 (by decide) ?_
  refine V_aload_n f dX3_bestBay_2 0 rfl ?_
  refine V_getE (x := M 22 5) f dX3_bestBay_3 lf_3_27 rfl zb_22 rfl ?_
  refine V_iconst (v := 1) f dX3_bestBay_6 (by decide) ?_
  refine V_isub f dX3_bestBay_7 ?_
  refine V_cNi (As := [.int a, .int 0, .int ((M 22 5) - 1)]) (rest := []) f dX3_bestBay_8 lk_X3_37 nl_X3_37 sta_X8_within (c_X8_within (kl K) (kD K) (ky K) (kX K) ad M a 0 ((M 22 5) - 1)) rfl (Nat.le_of_ble_eq_true rfl) rfl ⟨by decide, by decide⟩ ⟨Nat.zero_le _, Nat.zero_le _⟩ rfl rfl ?_
  refine V_if_eq (tgt := 26) f dX3_bestBay_11 (by decide) (fun c1 => ?_) (fun c1 => ?_)
  · refine V_iconst (v := (-1)) f dX3_bestBay_26 (by decide) ?_
    exact V_iret f q dX3_bestBay_27 rfl (Nat.zero_le _) (Nat.zero_le _) ⟨rfl, rfl, (by simp only [s_X3_bestBay, if_pos c1]), rfl⟩
  · refine V_aload_n f dX3_bestBay_14 0 rfl ?_
    refine V_aload_n f dX3_bestBay_15 0 rfl ?_
    refine V_getE (x := M 22 6) f dX3_bestBay_16 lf_3_31 rfl zb_22 rfl ?_
    refine V_iload_n f dX3_bestBay_19 1 rfl ?_
    refine V_cVi (As := [.int (M 22 6), .int a]) (rest := []) f dX3_bestBay_20 lk_X3_49 ml_X3_49 ins_X3_bayIn sel_X3_bayIn zb_22 (by decide) rfl (c_X3_bayIn (kl K) (kD K) (ky K) (kX K) ad M (M 22 6) a) rfl (Nat.le_of_ble_eq_true rfl) rfl ⟨by decide, by decide⟩ ⟨Nat.zero_le _, Nat.zero_le _⟩ rfl rfl ?_
    refine V_goto (tgt := 27) f dX3_bestBay_23 (by decide) ?_
    exact V_iret f q dX3_bestBay_27 rfl (Nat.zero_le _) (Nat.zero_le _) ⟨rfl, rfl, (by simp only [s_X3_bestBay, if_neg c1]), rfl⟩
theorem within_to {M : MT} {a b e : Int32} (h : ¬ s_X8_within M a b e = 0) : b.toInt ≤ a.toInt ∧ a.toInt ≤ e.toInt := by
  have := within_of h
  rw [Int32.le_iff_toInt_le, Int32.le_iff_toInt_le] at this
  exact this
theorem d13 {M : MT} {a : Int32} (h : ¬ s_X8_within M a 1 3 = 0) : 1 ≤ a.toInt ∧ a.toInt ≤ 3 := by
  have := within_to h
  have e1 : (1 : Int32).toInt = 1 := by decide
  have e3 : (3 : Int32).toInt = 3 := by decide
  omega
theorem kd {M : MT} {a b : Int32} (h : ¬ s_X8_within M b (-1) (a - 1) = 0) (hd : 1 ≤ a.toInt ∧ a.toInt ≤ 3) (hb : ¬ b = -1) : 0 ≤ b.toInt ∧ b.toInt < a.toInt := by
  have h1 := within_to h
  have h2 := fcd hd
  have e1 : (-1 : Int32).toInt = -1 := by decide
  have h3 : ¬ b.toInt = -1 := fun e => hb (Int32.toInt_inj.mp (by rw [e, e1]))
  omega
theorem bb0 {M1 : MT} {a b : Int32} (g5 : M1 22 5 = a) (g6 : M1 22 6 = 0) (hd : 1 ≤ a.toInt ∧ a.toInt ≤ 3) (hb : 0 ≤ b.toInt ∧ b.toInt < a.toInt) : s_X3_bestBay M1 b = 0 := by
  have h2 := fcd hd
  have e0 : (0 : Int32).toInt = 0 := by decide
  have h3 : ¬ s_X8_within M1 b 0 (a - 1) = 0 := by
    have n1 : ¬ b < 0 := by rw [Int32.lt_iff_toInt_lt]; omega
    have n2 : ¬ a - 1 < b := by rw [Int32.lt_iff_toInt_lt]; omega
    unfold s_X8_within
    rw [if_neg n1, if_neg n2]
    decide
  unfold s_X3_bestBay
  rw [g5, g6, if_neg h3]
  exact bayIn_0 g5 hd hb
set_option maxHeartbeats 4000000 in
set_option maxRecDepth 100000 in
theorem c1_X8_best (l : Launch) (D : va_G) (cy : Nat → ClassId) (X : va_W) (ad : Nat → Nat) (M : MT) (a : Int32) (b : Int32) (fr : FrB M) (f5 : M 25 = fun _ => 0) (f7 : M 27 = fun _ => 0) : CtP l yX8_best cX8_best 3 (some .int) (rK 4) D cy X ad ZB M [.ref (ad 0), .int a, .int b] (fun v _ => v = some (.int (if (s_X8_within M a 1 3) = 0 then -1 else if (s_X8_within M b (-1) (a - 1)) = 0 then -1 else 0))) := by
  refine Ctr.of (by decide +kernel) (Nat.le_of_ble_eq_true rfl) ?_
  intro K f q hnm hl0 hD0 hy0 hX0
  show V K ad 0 0 ZB M 0 [(0, .ref (ad 0)), (1, .int a), (2, .int b)] []
  refine V_iload_n f dX8_best_0 1 rfl ?_
  refine V_iconst (v := 1) f dX8_best_1 (by decide) ?_
  refine V_iconst (v := 3) f dX8_best_2 (by decide) ?_
  refine V_cSi (As := [.int a, .int 1, .int 3]) (rest := []) f dX8_best_3 lk_X8_90 ml_X8_90 sta_X8_within (c_X8_within (kl K) (kD K) (ky K) (kX K) ad M a 1 3) rfl (Nat.le_of_ble_eq_true rfl) rfl ⟨by decide, by decide⟩ ⟨Nat.zero_le _, Nat.zero_le _⟩ rfl rfl ?_
  refine V_if_eq (tgt := 20) f dX8_best_6 (by decide) (fun c1 => ?_) (fun c1 => ?_)
  · refine V_iconst (v := (-1)) f dX8_best_20 (by decide) ?_
    exact V_iret f q dX8_best_21 rfl (Nat.zero_le _) (Nat.zero_le _) ⟨rfl, rfl, (by simp only [if_pos c1])⟩
  · refine V_iload_n f dX8_best_9 2 rfl ?_
    refine V_iconst (v := (-1)) f dX8_best_10 (by decide) ?_
    refine V_iload_n f dX8_best_11 1 rfl ?_
    refine V_iconst (v := 1) f dX8_best_12 (by decide) ?_
    refine V_isub f dX8_best_13 ?_
    refine V_cSi (As := [.int b, .int (-1), .int (a - 1)]) (rest := []) f dX8_best_14 lk_X8_90 ml_X8_90 sta_X8_within (c_X8_within (kl K) (kD K) (ky K) (kX K) ad M b (-1) (a - 1)) rfl (Nat.le_of_ble_eq_true rfl) rfl ⟨by decide, by decide⟩ ⟨Nat.zero_le _, Nat.zero_le _⟩ rfl rfl ?_
    refine V_if_ne (tgt := 22) f dX8_best_17 (by decide) (fun c2 => ?_) (fun c2 => ?_)
    · refine V_aload_n f dX8_best_22 0 rfl ?_
      refine V_getR f dX8_best_23 lf_8_58 rfl zb_0 rfl ?_
      refine V_aload_n f dX8_best_26 0 rfl ?_
      refine V_getR f dX8_best_27 lf_8_11 rfl zb_0 rfl ?_
      refine V_aload_n f dX8_best_30 0 rfl ?_
      refine V_getE (x := 0) f dX8_best_31 lf_8_72 rfl zb_0 (fr_0_11 fr) ?_
      refine V_iload_n f dX8_best_34 1 rfl ?_
      refine V_cVp (As := [.ref (ad 1), .int 0, .int a]) (rest := []) f dX8_best_35 lk_X8_209 ml_X8_209 ins_X3_search sel_X3_search zb_22 (by decide) rfl (c1_X3_search _ _ _ _ ad M a fr f5 f7 (d13 c1)) rfl (Nat.le_of_ble_eq_true rfl) rfl ⟨by decide, by decide⟩ ⟨Nat.zero_le _, Nat.zero_le _⟩ rfl rfl (fun v1 M1 hp => ?_)
      obtain ⟨rfl, g5, g6, g7⟩ := hp
      show V K ad 0 0 ZB M1 38 [(0, .ref (ad 0)), (1, .int a), (2, .int b)] []
      refine V_iload_n f dX8_best_38 2 rfl ?_
      refine V_iconst (v := (-1)) f dX8_best_39 (by decide) ?_
      refine V_icmp_ne (tgt := 53) f dX8_best_40 (by decide) (fun c3 => ?_) (fun c3 => ?_)
      · refine V_aload_n f dX8_best_53 0 rfl ?_
        refine V_getR f dX8_best_54 lf_8_58 rfl zb_0 rfl ?_
        refine V_iload_n f dX8_best_57 2 rfl ?_
        refine V_cVi (As := [.int b]) (rest := []) f dX8_best_58 lk_X8_216 ml_X8_216 ins_X3_bestBay sel_X3_bestBay zb_22 (by decide) rfl (c_X3_bestBay (kl K) (kD K) (ky K) (kX K) ad M1 b) rfl (Nat.le_of_ble_eq_true rfl) rfl ⟨by decide, by decide⟩ ⟨Nat.zero_le _, Nat.zero_le _⟩ rfl rfl ?_
        exact V_iret f q dX8_best_61 rfl (Nat.zero_le _) (Nat.zero_le _) ⟨rfl, rfl, (by rw [if_neg c1, if_neg c2, bb0 g5 g6 (d13 c1) (kd c2 (d13 c1) c3)])⟩
      · refine V_aload_n f dX8_best_43 0 rfl ?_
        refine V_getR f dX8_best_44 lf_8_58 rfl zb_0 rfl ?_
        refine V_getE (x := 0) f dX8_best_47 lf_8_213 rfl zb_22 g7 ?_
        refine V_goto (tgt := 61) f dX8_best_50 (by decide) ?_
        exact V_iret f q dX8_best_61 rfl (Nat.zero_le _) (Nat.zero_le _) ⟨rfl, rfl, (by simp only [if_neg c1, if_neg c2])⟩
    · refine V_iconst (v := (-1)) f dX8_best_20 (by decide) ?_
      exact V_iret f q dX8_best_21 rfl (Nat.zero_le _) (Nat.zero_le _) ⟨rfl, rfl, (by simp only [if_neg c1, if_pos c2])⟩

theorem nr17 : nrB 17 := by unfold nrB; omega
theorem Kp_17 {M0 M : MT} (h : Kp rP M0 M) (k : Nat) (v : Int32) : Kp rP M0 (up2 M 17 k v) := ⟨InvB_nr h.1 nr17 k v, up_c (by decide) h.2.1, up_c (by decide) h.2.2.1, up_c (by decide) h.2.2.2.1, up_c (by decide) h.2.2.2.2.1, up_c (by decide) h.2.2.2.2.2.1, fun j hj => (upo (by unfold rP at hj; omega)).trans (h.2.2.2.2.2.2 j hj)⟩
theorem Kp_take {M0 M : MT} {a : Int32} (h : Kp rP M0 M) : Kp rP M0 (s_X2_take M a).2 := by
  unfold s_X2_take
  by_cases q : (s_X7_codeAt M (M 17 1)) = a
  · rw [if_pos q]; exact Kp_17 h _ _
  · rw [if_neg q]; exact h
theorem Kp_takeNumber {M0 M : MT} (h : Kp rP M0 M) : Kp rP M0 (s_X2_takeNumber M).2 := by
  unfold s_X2_takeNumber
  by_cases q : (s_X7_codeAt M (M 17 1)) = 15
  · rw [if_pos q]; exact Kp_17 h _ _
  · rw [if_neg q]; exact h
theorem Kp_takeOneOf {M0 M : MT} {a b e : Int32} (h : Kp rP M0 M) : Kp rP M0 (s_X2_takeOneOf M a b e).2 := by
  unfold s_X2_takeOneOf
  by_cases q1 : (s_X7_codeAt M (M 17 1)) = a
  · rw [if_pos q1]; exact Kp_17 h _ _
  · rw [if_neg q1]
    by_cases q2 : (s_X7_codeAt M (M 17 1)) = b
    · rw [if_pos q2]; exact Kp_17 h _ _
    · rw [if_neg q2]
      by_cases q3 : (s_X7_codeAt M (M 17 1)) = e
      · rw [if_pos q3]; exact Kp_17 h _ _
      · rw [if_neg q3]; exact h
theorem Kp_putTest {M0 M : MT} (h : Kp rP M0 M) {i : Nat} (hz : LawZ i) (a b e g : Int32) : Kp rP M0 (s_X1_putTest M i a b e g) := by
  have hl := h.1.2.2.2.2 i hz
  unfold s_X1_putTest
  by_cases q : 16 ≤ (M i 9)
  · rw [if_pos q]; exact h
  · rw [if_neg q]
    by_cases q2 : (s_X8_within M a 0 2) = 0
    · rw [if_pos q2]; exact h
    · rw [if_neg q2]
      refine Kp_law h hz (fun j hj => by rw [upo (by omega), upo (by omega), upo (by omega)]) ?_
      unfold LwOk
      rw [upo (show ¬ i = i + 9 by omega), upo (show ¬ i = i + 8 by omega), upo (show ¬ i = i + 7 by omega), upo (show ¬ i + 5 = i + 9 by omega), upo (show ¬ i + 5 = i + 8 by omega), upo (show ¬ i + 5 = i + 7 by omega)]
      exact hl
theorem Kp_addRule {M0 M : MT} (h : Kp rP M0 M) {i : Nat} (hz : LawZ i) (a b : Int32) : Kp rP M0 (s_X1_addRule M i a b) := by
  have hl := h.1.2.2.2.2 i hz
  unfold s_X1_addRule
  by_cases q : 16 ≤ (M i 9)
  · rw [if_pos q]; exact h
  · rw [if_neg q]
    by_cases q2 : (s_X8_within M a 1 3) = 0
    · rw [if_pos q2]; exact h
    · rw [if_neg q2]
      refine Kp_law h hz (fun j hj => by rw [upo (by omega), upo (by omega), upo (by omega)]) ?_
      have e16 : (16 : Int32).toInt = 16 := by decide
      have e1 : (1 : Int32).toInt = 1 := by decide
      have e3 : (3 : Int32).toInt = 3 := by decide
      rw [Int32.le_iff_toInt_le] at q
      have w := within_of q2
      rw [Int32.le_iff_toInt_le, Int32.le_iff_toInt_le] at w
      have h2 := hl.2.1
      have a1 := i32_add (x := M i 9) h2.1 (by omega) (k := 1) (by decide) (by decide)
      unfold LwOk
      rw [up_k (show 4 ≠ 9 by decide) rfl, up_s, upo (show ¬ i = i + 6 by omega), upo (show ¬ i = i + 5 by omega), upo (show ¬ i + 5 = i by omega), upo (show ¬ i + 5 = i + 6 by omega)]
      refine ⟨hl.1, by omega, fun r hr => ?_⟩
      by_cases e : r = Int32.toNatClampNeg (M i 9)
      · subst e; rw [up_s]; omega
      · rw [up_k e rfl]; exact hl.2.2 r hr
set_option maxHeartbeats 4000000 in
set_option maxRecDepth 100000 in
theorem c3_X2_readTest (l : Launch) (D : va_G) (cy : Nat → ClassId) (X : va_W) (ad : Nat → Nat) (M : MT) (i : Nat) (a : Int32) (hz : LawZ i) (hI : InvB M) : CtP l yX2_readTest cX2_readTest 6 (some .boolean) (rK 2) D cy X ad ZB M [.ref (ad 17), .ref (ad i), .int a] (fun v M1 => (∃ r : Int32, v = some (.int r) ∧ (r = 0 ∨ r = 1)) ∧ Kp rP M M1) := by
  refine Ctr.of (by decide +kernel) (Nat.le_of_ble_eq_true rfl) ?_
  intro K f q hnm hl0 hD0 hy0 hX0
  show V K ad 0 0 ZB M 0 [(0, .ref (ad 17)), (1, .ref (ad i)), (2, .int a)] []
  refine V_aload_n f dX2_readTest_0 0 rfl ?_
  refine V_bipush (v := 12) f dX2_readTest_1 (by decide) ?_
  refine V_bipush (v := 13) f dX2_readTest_3 (by decide) ?_
  refine V_bipush (v := 14) f dX2_readTest_5 (by decide) ?_
  refine V_cVi (As := [.int 12, .int 13, .int 14]) (rest := []) f dX2_readTest_7 lk_X2_69 ml_X2_69 ins_X2_takeOneOf sel_X2_takeOneOf zb_17 (by decide) rfl (c_X2_takeOneOf (kl K) (kD K) (ky K) (kX K) ad M 12 13 14 ((Kp_refl (P := rP) hI).1.2.2.2.1.2)) rfl (Nat.le_of_ble_eq_true rfl) rfl ⟨by decide, by decide⟩ ⟨Nat.zero_le _, Nat.zero_le _⟩ rfl rfl ?_
  refine V_istore_n f dX2_readTest_10 rfl (by decide) rfl ?_
  refine V_iload_n f dX2_readTest_11 0 rfl ?_
  refine V_iconst (v := (-1)) f dX2_readTest_12 (by decide) ?_
  refine V_icmp_ne (tgt := 18) f dX2_readTest_13 (by decide) (fun c1 => ?_) (fun c1 => ?_)
  · refine V_aload_n f dX2_readTest_18 1 rfl ?_
    refine V_bipush (v := 60) f dX2_readTest_19 (by decide) ?_
    refine V_bipush (v := 62) f dX2_readTest_21 (by decide) ?_
    refine V_bipush (v := 61) f dX2_readTest_23 (by decide) ?_
    refine V_cVi (As := [.int 60, .int 62, .int 61]) (rest := []) f dX2_readTest_25 lk_X2_69 ml_X2_69 ins_X2_takeOneOf sel_X2_takeOneOf zb_17 (by decide) rfl (c_X2_takeOneOf (kl K) (kD K) (ky K) (kX K) ad ((s_X2_takeOneOf M 12 13 14).2) 60 62 61 ((Kp_takeOneOf (Kp_refl (P := rP) hI)).1.2.2.2.1.2)) rfl (Nat.le_of_ble_eq_true rfl) rfl ⟨by decide, by decide⟩ ⟨Nat.zero_le _, Nat.zero_le _⟩ rfl rfl ?_
    refine V_istore f dX2_readTest_28 (by decide) rfl ?_
    refine V_iload f dX2_readTest_30 0 rfl ?_
    refine V_iconst (v := (-1)) f dX2_readTest_32 (by decide) ?_
    refine V_icmp_ne (tgt := 38) f dX2_readTest_33 (by decide) (fun c2 => ?_) (fun c2 => ?_)
    · refine V_aload_n f dX2_readTest_38 2 rfl ?_
      refine V_cVi (As := []) (rest := []) f dX2_readTest_39 lk_X2_45 ml_X2_45 ins_X2_takeNumber sel_X2_takeNumber zb_17 (by decide) rfl (c_X2_takeNumber (kl K) (kD K) (ky K) (kX K) ad ((s_X2_takeOneOf ((s_X2_takeOneOf M 12 13 14).2) 60 62 61).2) ((Kp_takeOneOf (Kp_takeOneOf (Kp_refl (P := rP) hI))).1.2.2.2.1.2)) rfl (Nat.le_of_ble_eq_true rfl) rfl ⟨by decide, by decide⟩ ⟨Nat.zero_le _, Nat.zero_le _⟩ rfl rfl ?_
      refine V_istore f dX2_readTest_42 (by decide) rfl ?_
      refine V_iload f dX2_readTest_44 0 rfl ?_
      refine V_iconst (v := (-1)) f dX2_readTest_46 (by decide) ?_
      refine V_icmp_ne (tgt := 52) f dX2_readTest_47 (by decide) (fun c3 => ?_) (fun c3 => ?_)
      · refine V_aload_n f dX2_readTest_52 4 rfl ?_
        refine V_iload_n f dX2_readTest_53 5 rfl ?_
        refine V_iload_n f dX2_readTest_54 2 rfl ?_
        refine V_iload f dX2_readTest_55 1 rfl ?_
        refine V_iload f dX2_readTest_57 0 rfl ?_
        refine V_cVv (As := [.int a, .int ((s_X2_takeOneOf M 12 13 14).1), .int ((s_X2_takeOneOf ((s_X2_takeOneOf M 12 13 14).2) 60 62 61).1), .int ((s_X2_takeNumber ((s_X2_takeOneOf ((s_X2_takeOneOf M 12 13 14).2) 60 62 61).2)).1)]) (rest := []) f dX2_readTest_59 lk_X2_77 ml_X2_77 ins_X1_putTest sel_X1_putTest (zL hz) (by decide) rfl (c_X1_putTest (kl K) (kD K) (ky K) (kX K) ad ((s_X2_takeNumber ((s_X2_takeOneOf ((s_X2_takeOneOf M 12 13 14).2) 60 62 61).2)).2) i a ((s_X2_takeOneOf M 12 13 14).1) ((s_X2_takeOneOf ((s_X2_takeOneOf M 12 13 14).2) 60 62 61).1) ((s_X2_takeNumber ((s_X2_takeOneOf ((s_X2_takeOneOf M 12 13 14).2) 60 62 61).2)).1) hz ((Kp_takeNumber (Kp_takeOneOf (Kp_takeOneOf (Kp_refl (P := rP) hI)))).1.2.2.2.2 _ hz)) rfl (Nat.le_of_ble_eq_true rfl) rfl ⟨by decide, by decide⟩ ⟨Nat.zero_le _, Nat.zero_le _⟩ rfl rfl ?_
        refine V_iconst (v := 1) f dX2_readTest_62 (by decide) ?_
        exact V_iret f q dX2_readTest_63 rfl (Nat.zero_le _) (Nat.zero_le _) ⟨rfl, rfl, ⟨1, rfl, Or.inr rfl⟩, (Kp_putTest (Kp_takeNumber (Kp_takeOneOf (Kp_takeOneOf (Kp_refl (P := rP) hI)))) hz _ _ _ _)⟩
      · refine V_iconst (v := 0) f dX2_readTest_50 (by decide) ?_
        exact V_iret f q dX2_readTest_51 rfl (Nat.zero_le _) (Nat.zero_le _) ⟨rfl, rfl, ⟨0, rfl, Or.inl rfl⟩, (Kp_takeNumber (Kp_takeOneOf (Kp_takeOneOf (Kp_refl (P := rP) hI))))⟩
    · refine V_iconst (v := 0) f dX2_readTest_36 (by decide) ?_
      exact V_iret f q dX2_readTest_37 rfl (Nat.zero_le _) (Nat.zero_le _) ⟨rfl, rfl, ⟨0, rfl, Or.inl rfl⟩, (Kp_takeOneOf (Kp_takeOneOf (Kp_refl (P := rP) hI)))⟩
  · refine V_iconst (v := 0) f dX2_readTest_16 (by decide) ?_
    exact V_iret f q dX2_readTest_17 rfl (Nat.zero_le _) (Nat.zero_le _) ⟨rfl, rfl, ⟨0, rfl, Or.inl rfl⟩, (Kp_takeOneOf (Kp_refl (P := rP) hI))⟩
set_option maxHeartbeats 4000000 in
set_option maxRecDepth 100000 in
theorem c3_X2_readClosing (l : Launch) (D : va_G) (cy : Nat → ClassId) (X : va_W) (ad : Nat → Nat) (M : MT) (i : Nat) (hz : LawZ i) (hI : InvB M) : CtP l yX2_readClosing cX2_readClosing 6 (some .boolean) (rK 2) D cy X ad ZB M [.ref (ad 17), .ref (ad i)] (fun v M1 => (∃ r : Int32, v = some (.int r) ∧ (r = 0 ∨ r = 1)) ∧ Kp rP M M1) := by
  refine Ctr.of (by decide +kernel) (Nat.le_of_ble_eq_true rfl) ?_
  intro K f q hnm hl0 hD0 hy0 hX0
  show V K ad 0 0 ZB M 0 [(0, .ref (ad 17)), (1, .ref (ad i))] []
  refine V_aload_n f dX2_readClosing_0 0 rfl ?_
  refine V_cVi (As := []) (rest := []) f dX2_readClosing_1 lk_X2_45 ml_X2_45 ins_X2_takeNumber sel_X2_takeNumber zb_17 (by decide) rfl (c_X2_takeNumber (kl K) (kD K) (ky K) (kX K) ad M ((Kp_refl (P := rP) hI).1.2.2.2.1.2)) rfl (Nat.le_of_ble_eq_true rfl) rfl ⟨by decide, by decide⟩ ⟨Nat.zero_le _, Nat.zero_le _⟩ rfl rfl ?_
  refine V_istore_n f dX2_readClosing_4 rfl (by decide) rfl ?_
  refine V_iload_n f dX2_readClosing_5 0 rfl ?_
  refine V_iconst (v := (-1)) f dX2_readClosing_6 (by decide) ?_
  refine V_icmp_eq (tgt := 18) f dX2_readClosing_7 (by decide) (fun c1 => ?_) (fun c1 => ?_)
  · refine V_iconst (v := 0) f dX2_readClosing_18 (by decide) ?_
    exact V_iret f q dX2_readClosing_19 rfl (Nat.zero_le _) (Nat.zero_le _) ⟨rfl, rfl, ⟨0, rfl, Or.inl rfl⟩, (Kp_takeNumber (Kp_refl (P := rP) hI))⟩
  · refine V_aload_n f dX2_readClosing_10 1 rfl ?_
    refine V_iconst (v := 4) f dX2_readClosing_11 (by decide) ?_
    refine V_cVi (As := [.int 4]) (rest := []) f dX2_readClosing_12 lk_X2_41 ml_X2_41 ins_X2_take sel_X2_take zb_17 (by decide) rfl (c_X2_take (kl K) (kD K) (ky K) (kX K) ad ((s_X2_takeNumber M).2) 4 ((Kp_takeNumber (Kp_refl (P := rP) hI)).1.2.2.2.1.2)) rfl (Nat.le_of_ble_eq_true rfl) rfl ⟨by decide, by decide⟩ ⟨Nat.zero_le _, Nat.zero_le _⟩ rfl rfl ?_
    refine V_if_ne (tgt := 20) f dX2_readClosing_15 (by decide) (fun c2 => ?_) (fun c2 => ?_)
    · refine V_aload_n f dX2_readClosing_20 1 rfl ?_
      refine V_cVi (As := []) (rest := []) f dX2_readClosing_21 lk_X2_45 ml_X2_45 ins_X2_takeNumber sel_X2_takeNumber zb_17 (by decide) rfl (c_X2_takeNumber (kl K) (kD K) (ky K) (kX K) ad ((s_X2_take ((s_X2_takeNumber M).2) 4).2) ((Kp_take (Kp_takeNumber (Kp_refl (P := rP) hI))).1.2.2.2.1.2)) rfl (Nat.le_of_ble_eq_true rfl) rfl ⟨by decide, by decide⟩ ⟨Nat.zero_le _, Nat.zero_le _⟩ rfl rfl ?_
      refine V_istore_n f dX2_readClosing_24 rfl (by decide) rfl ?_
      refine V_iload_n f dX2_readClosing_25 0 rfl ?_
      refine V_iconst (v := (-1)) f dX2_readClosing_26 (by decide) ?_
      refine V_icmp_eq (tgt := 38) f dX2_readClosing_27 (by decide) (fun c3 => ?_) (fun c3 => ?_)
      · refine V_iconst (v := 0) f dX2_readClosing_38 (by decide) ?_
        exact V_iret f q dX2_readClosing_39 rfl (Nat.zero_le _) (Nat.zero_le _) ⟨rfl, rfl, ⟨0, rfl, Or.inl rfl⟩, (Kp_takeNumber (Kp_take (Kp_takeNumber (Kp_refl (P := rP) hI))))⟩
      · refine V_aload_n f dX2_readClosing_30 2 rfl ?_
        refine V_iconst (v := 5) f dX2_readClosing_31 (by decide) ?_
        refine V_cVi (As := [.int 5]) (rest := []) f dX2_readClosing_32 lk_X2_41 ml_X2_41 ins_X2_take sel_X2_take zb_17 (by decide) rfl (c_X2_take (kl K) (kD K) (ky K) (kX K) ad ((s_X2_takeNumber ((s_X2_take ((s_X2_takeNumber M).2) 4).2)).2) 5 ((Kp_takeNumber (Kp_take (Kp_takeNumber (Kp_refl (P := rP) hI)))).1.2.2.2.1.2)) rfl (Nat.le_of_ble_eq_true rfl) rfl ⟨by decide, by decide⟩ ⟨Nat.zero_le _, Nat.zero_le _⟩ rfl rfl ?_
        refine V_if_ne (tgt := 40) f dX2_readClosing_35 (by decide) (fun c4 => ?_) (fun c4 => ?_)
        · refine V_aload_n f dX2_readClosing_40 2 rfl ?_
          refine V_cVi (As := []) (rest := []) f dX2_readClosing_41 lk_X2_45 ml_X2_45 ins_X2_takeNumber sel_X2_takeNumber zb_17 (by decide) rfl (c_X2_takeNumber (kl K) (kD K) (ky K) (kX K) ad ((s_X2_take ((s_X2_takeNumber ((s_X2_take ((s_X2_takeNumber M).2) 4).2)).2) 5).2) ((Kp_take (Kp_takeNumber (Kp_take (Kp_takeNumber (Kp_refl (P := rP) hI))))).1.2.2.2.1.2)) rfl (Nat.le_of_ble_eq_true rfl) rfl ⟨by decide, by decide⟩ ⟨Nat.zero_le _, Nat.zero_le _⟩ rfl rfl ?_
          refine V_istore f dX2_readClosing_44 (by decide) rfl ?_
          refine V_iload f dX2_readClosing_46 0 rfl ?_
          refine V_iconst (v := (-1)) f dX2_readClosing_48 (by decide) ?_
          refine V_icmp_eq (tgt := 60) f dX2_readClosing_49 (by decide) (fun c5 => ?_) (fun c5 => ?_)
          · refine V_iconst (v := 0) f dX2_readClosing_60 (by decide) ?_
            exact V_iret f q dX2_readClosing_61 rfl (Nat.zero_le _) (Nat.zero_le _) ⟨rfl, rfl, ⟨0, rfl, Or.inl rfl⟩, (Kp_takeNumber (Kp_take (Kp_takeNumber (Kp_take (Kp_takeNumber (Kp_refl (P := rP) hI))))))⟩
          · refine V_aload_n f dX2_readClosing_52 3 rfl ?_
            refine V_iconst (v := 4) f dX2_readClosing_53 (by decide) ?_
            refine V_cVi (As := [.int 4]) (rest := []) f dX2_readClosing_54 lk_X2_41 ml_X2_41 ins_X2_take sel_X2_take zb_17 (by decide) rfl (c_X2_take (kl K) (kD K) (ky K) (kX K) ad ((s_X2_takeNumber ((s_X2_take ((s_X2_takeNumber ((s_X2_take ((s_X2_takeNumber M).2) 4).2)).2) 5).2)).2) 4 ((Kp_takeNumber (Kp_take (Kp_takeNumber (Kp_take (Kp_takeNumber (Kp_refl (P := rP) hI)))))).1.2.2.2.1.2)) rfl (Nat.le_of_ble_eq_true rfl) rfl ⟨by decide, by decide⟩ ⟨Nat.zero_le _, Nat.zero_le _⟩ rfl rfl ?_
            refine V_if_ne (tgt := 62) f dX2_readClosing_57 (by decide) (fun c6 => ?_) (fun c6 => ?_)
            · refine V_aload_n f dX2_readClosing_62 3 rfl ?_
              refine V_cVi (As := []) (rest := []) f dX2_readClosing_63 lk_X2_45 ml_X2_45 ins_X2_takeNumber sel_X2_takeNumber zb_17 (by decide) rfl (c_X2_takeNumber (kl K) (kD K) (ky K) (kX K) ad ((s_X2_take ((s_X2_takeNumber ((s_X2_take ((s_X2_takeNumber ((s_X2_take ((s_X2_takeNumber M).2) 4).2)).2) 5).2)).2) 4).2) ((Kp_take (Kp_takeNumber (Kp_take (Kp_takeNumber (Kp_take (Kp_takeNumber (Kp_refl (P := rP) hI))))))).1.2.2.2.1.2)) rfl (Nat.le_of_ble_eq_true rfl) rfl ⟨by decide, by decide⟩ ⟨Nat.zero_le _, Nat.zero_le _⟩ rfl rfl ?_
              refine V_istore f dX2_readClosing_66 (by decide) rfl ?_
              refine V_iload f dX2_readClosing_68 0 rfl ?_
              refine V_iconst (v := (-1)) f dX2_readClosing_70 (by decide) ?_
              refine V_icmp_eq (tgt := 83) f dX2_readClosing_71 (by decide) (fun c7 => ?_) (fun c7 => ?_)
              · refine V_iconst (v := 0) f dX2_readClosing_83 (by decide) ?_
                exact V_iret f q dX2_readClosing_84 rfl (Nat.zero_le _) (Nat.zero_le _) ⟨rfl, rfl, ⟨0, rfl, Or.inl rfl⟩, (Kp_takeNumber (Kp_take (Kp_takeNumber (Kp_take (Kp_takeNumber (Kp_take (Kp_takeNumber (Kp_refl (P := rP) hI))))))))⟩
              · refine V_aload_n f dX2_readClosing_74 4 rfl ?_
                refine V_bipush (v := 59) f dX2_readClosing_75 (by decide) ?_
                refine V_cVi (As := [.int 59]) (rest := []) f dX2_readClosing_77 lk_X2_41 ml_X2_41 ins_X2_take sel_X2_take zb_17 (by decide) rfl (c_X2_take (kl K) (kD K) (ky K) (kX K) ad ((s_X2_takeNumber ((s_X2_take ((s_X2_takeNumber ((s_X2_take ((s_X2_takeNumber ((s_X2_take ((s_X2_takeNumber M).2) 4).2)).2) 5).2)).2) 4).2)).2) 59 ((Kp_takeNumber (Kp_take (Kp_takeNumber (Kp_take (Kp_takeNumber (Kp_take (Kp_takeNumber (Kp_refl (P := rP) hI)))))))).1.2.2.2.1.2)) rfl (Nat.le_of_ble_eq_true rfl) rfl ⟨by decide, by decide⟩ ⟨Nat.zero_le _, Nat.zero_le _⟩ rfl rfl ?_
                refine V_if_ne (tgt := 85) f dX2_readClosing_80 (by decide) (fun c8 => ?_) (fun c8 => ?_)
                · refine V_aload_n f dX2_readClosing_85 5 rfl ?_
                  refine V_iload_n f dX2_readClosing_86 3 rfl ?_
                  refine V_iload_n f dX2_readClosing_87 2 rfl ?_
                  refine V_iload f dX2_readClosing_88 1 rfl ?_
                  refine V_iload f dX2_readClosing_90 0 rfl ?_
                  refine V_cVv (As := [.int ((s_X2_takeNumber M).1), .int ((s_X2_takeNumber ((s_X2_take ((s_X2_takeNumber M).2) 4).2)).1), .int ((s_X2_takeNumber ((s_X2_take ((s_X2_takeNumber ((s_X2_take ((s_X2_takeNumber M).2) 4).2)).2) 5).2)).1), .int ((s_X2_takeNumber ((s_X2_take ((s_X2_takeNumber ((s_X2_take ((s_X2_takeNumber ((s_X2_take ((s_X2_takeNumber M).2) 4).2)).2) 5).2)).2) 4).2)).1)]) (rest := []) f dX2_readClosing_92 lk_X2_61 ml_X2_61 ins_X1_addClosing sel_X1_addClosing (zL hz) (by decide) rfl (c_X1_addClosing (kl K) (kD K) (ky K) (kX K) ad ((s_X2_take ((s_X2_takeNumber ((s_X2_take ((s_X2_takeNumber ((s_X2_take ((s_X2_takeNumber ((s_X2_take ((s_X2_takeNumber M).2) 4).2)).2) 5).2)).2) 4).2)).2) 59).2) i ((s_X2_takeNumber M).1) ((s_X2_takeNumber ((s_X2_take ((s_X2_takeNumber M).2) 4).2)).1) ((s_X2_takeNumber ((s_X2_take ((s_X2_takeNumber ((s_X2_take ((s_X2_takeNumber M).2) 4).2)).2) 5).2)).1) ((s_X2_takeNumber ((s_X2_take ((s_X2_takeNumber ((s_X2_take ((s_X2_takeNumber ((s_X2_take ((s_X2_takeNumber M).2) 4).2)).2) 5).2)).2) 4).2)).1) hz ((Kp_take (Kp_takeNumber (Kp_take (Kp_takeNumber (Kp_take (Kp_takeNumber (Kp_take (Kp_takeNumber (Kp_refl (P := rP) hI))))))))).1.2.2.2.2 _ hz)) rfl (Nat.le_of_ble_eq_true rfl) rfl ⟨by decide, by decide⟩ ⟨Nat.zero_le _, Nat.zero_le _⟩ rfl rfl ?_
                  refine V_iconst (v := 1) f dX2_readClosing_95 (by decide) ?_
                  exact V_iret f q dX2_readClosing_96 rfl (Nat.zero_le _) (Nat.zero_le _) ⟨rfl, rfl, ⟨1, rfl, Or.inr rfl⟩, (Kp_addClosing (Kp_take (Kp_takeNumber (Kp_take (Kp_takeNumber (Kp_take (Kp_takeNumber (Kp_take (Kp_takeNumber (Kp_refl (P := rP) hI))))))))) hz _ _ _ _)⟩
                · refine V_iconst (v := 0) f dX2_readClosing_83 (by decide) ?_
                  exact V_iret f q dX2_readClosing_84 rfl (Nat.zero_le _) (Nat.zero_le _) ⟨rfl, rfl, ⟨0, rfl, Or.inl rfl⟩, (Kp_take (Kp_takeNumber (Kp_take (Kp_takeNumber (Kp_take (Kp_takeNumber (Kp_take (Kp_takeNumber (Kp_refl (P := rP) hI)))))))))⟩
            · refine V_iconst (v := 0) f dX2_readClosing_60 (by decide) ?_
              exact V_iret f q dX2_readClosing_61 rfl (Nat.zero_le _) (Nat.zero_le _) ⟨rfl, rfl, ⟨0, rfl, Or.inl rfl⟩, (Kp_take (Kp_takeNumber (Kp_take (Kp_takeNumber (Kp_take (Kp_takeNumber (Kp_refl (P := rP) hI)))))))⟩
        · refine V_iconst (v := 0) f dX2_readClosing_38 (by decide) ?_
          exact V_iret f q dX2_readClosing_39 rfl (Nat.zero_le _) (Nat.zero_le _) ⟨rfl, rfl, ⟨0, rfl, Or.inl rfl⟩, (Kp_take (Kp_takeNumber (Kp_take (Kp_takeNumber (Kp_refl (P := rP) hI)))))⟩
    · refine V_iconst (v := 0) f dX2_readClosing_18 (by decide) ?_
      exact V_iret f q dX2_readClosing_19 rfl (Nat.zero_le _) (Nat.zero_le _) ⟨rfl, rfl, ⟨0, rfl, Or.inl rfl⟩, (Kp_take (Kp_takeNumber (Kp_refl (P := rP) hI)))⟩

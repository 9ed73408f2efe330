set_option maxHeartbeats 4000000 in
theorem Kp_addProbe {M0 M : MT} (h : Kp dP M0 M) (i : Nat) (a : Int32) (hi : nrD i) : Kp dP M0 (s_X0_addProbe M i a).2 := by
  unfold s_X0_addProbe
  exact Kp_nr (Kp_nr (h) hi _ _) hi _ _
theorem Kd_depth {M : MT} (hI : InvB M) (b : Int32) (e : Int32) : Kp dP M (s3_X8_depth M b e).2 := by
  unfold s3_X8_depth
  by_cases q1 : (s_X8_isBay M b) = 0
  · rw [if_pos q1]
    exact Kp_refl hI
  · rw [if_neg q1]
    by_cases q2 : (s_X8_within M e 0 3000) = 0
    · rw [if_pos q2]
      exact Kp_refl hI
    · rw [if_neg q2]
      by_cases q3 : (s_X0_lies M (28 + Int32.toNatClampNeg b)) = 0
      · rw [if_pos q3]
        exact Kp_nr (Kp_refl hI) (nr28 (vlt (isBay_in q1))) _ _
      · rw [if_neg q3]
        exact Kp_refl hI
theorem Kd_ridge {M : MT} (hI : InvB M) (b : Int32) : Kp dP M (s3_X8_ridge M b).2 := by
  unfold s3_X8_ridge
  by_cases q1 : (s_X8_isBay M b) = 0
  · rw [if_pos q1]
    exact Kp_refl hI
  · rw [if_neg q1]
    by_cases q2 : (M (28 + Int32.toNatClampNeg b) 1) = 1
    · rw [if_pos q2]
      exact Kp_nr (Kp_refl hI) (nr28 (vlt (isBay_in q1))) _ _
    · rw [if_neg q2]
      exact Kp_refl hI
theorem Kd_probe {M : MT} (hI : InvB M) (b : Int32) (e : Int32) : Kp dP M (s3_X8_probe M b e).2 := by
  unfold s3_X8_probe
  by_cases q1 : (s_X8_isBay M b) = 0
  · rw [if_pos q1]
    exact Kp_refl hI
  · rw [if_neg q1]
    by_cases q2 : (s_X8_within M e 0 900) = 0
    · rw [if_pos q2]
      exact Kp_refl hI
    · rw [if_neg q2]
      by_cases q3 : (s_X0_takesProbe M (28 + Int32.toNatClampNeg b)) = 0
      · rw [if_pos q3]
        exact Kp_refl hI
      · rw [if_neg q3]
        exact Kp_addProbe (Kp_refl hI) _ _ (nr28 (vlt (isBay_in q1)))
theorem Kd_want {M : MT} (hI : InvB M) (a : Int32) : Kp dP M (s3_X8_want M a).2 := by
  unfold s3_X8_want
  by_cases q1 : (s_X8_within M a 0 1000) = 0
  · rw [if_pos q1]
    exact Kp_refl hI
  · rw [if_neg q1]
    exact Kp_nr (Kp_refl hI) (Or.inl rfl) _ _
theorem Kd_read {M : MT} (hI : InvB M) (a : Int32) (e : Int32) : Kp dP M (s3_X8_read M a e).2 := by
  unfold s3_X8_read
  by_cases q1 : (s_X8_isStack M a) = 0
  · rw [if_pos q1]
    exact Kp_refl hI
  · rw [if_neg q1]
    by_cases q2 : (s_X8_within M e 0 100) = 0
    · rw [if_pos q2]
      exact Kp_refl hI
    · rw [if_neg q2]
      exact Kp_nr (Kp_refl hI) (nr44 (vlt (isStack_in hI q1))) _ _
theorem Km_2 {wb sb : Int} {M M1 : MT} (h : Km wb sb M M1) {k : Nat} {v : Int32} (hk : ¬ M1 2 k = 0) : Km wb sb M (up2 M1 2 k v) := ⟨Kf_up h.1 (by decide) _ _, InvW_2 h.2 hk⟩
theorem Km_3 {wb sb : Int} {M M1 : MT} (h : Km wb sb M M1) {v : Int32} (hk : ¬ s_X9_isIn M v 0 1000 = 0) : Km wb sb M (up2 M1 0 3 v) := ⟨Kf_0 h.1 (by decide) _, InvW_3 h.2 (by
  have := within_to (M := M) hk
  have e0 : (0 : Int32).toInt = 0 := by decide
  have e1 : (1000 : Int32).toInt = 1000 := by decide
  omega)⟩
theorem Me_depth {wb sb : Int} {M : MT} (hS : InvS M) (hW : InvW wb sb M) (b : Int32) (e : Int32) : Km wb sb M (s3_X9_depth M b e).2 := by
  unfold s3_X9_depth
  by_cases q1 : (s_X9_isBay M b) = 0
  · rw [if_pos q1]
    exact Km_refl hS hW
  · rw [if_neg q1]
    by_cases q2 : (s_X9_isIn M e 0 3000) = 0
    · rw [if_pos q2]
      exact Km_refl hS hW
    · rw [if_neg q2]
      by_cases q3 : (M 2 (Int32.toNatClampNeg b)) = 0
      · rw [if_pos q3]
        exact (Km_nr (Km_refl hS hW) (by decide) _ _)
      · rw [if_neg q3]
        exact Km_refl hS hW
theorem Me_ridge {wb sb : Int} {M : MT} (hS : InvS M) (hW : InvW wb sb M) (b : Int32) : Km wb sb M (s3_X9_ridge M b).2 := by
  unfold s3_X9_ridge
  by_cases q1 : (s_X9_isBay M b) = 0
  · rw [if_pos q1]
    exact Km_refl hS hW
  · rw [if_neg q1]
    by_cases q2 : (M 2 (Int32.toNatClampNeg b)) = 1
    · rw [if_pos q2]
      exact (Km_2 (Km_refl hS hW) (by rw [q2]; decide))
    · rw [if_neg q2]
      exact Km_refl hS hW
theorem Me_probe {wb sb : Int} {M : MT} (hS : InvS M) (hW : InvW wb sb M) (b : Int32) (e : Int32) : Km wb sb M (s3_X9_probe M b e).2 := by
  unfold s3_X9_probe
  by_cases q1 : (s_X9_isBay M b) = 0
  · rw [if_pos q1]
    exact Km_refl hS hW
  · rw [if_neg q1]
    by_cases q2 : (M 2 (Int32.toNatClampNeg b)) = 0
    · rw [if_pos q2]
      exact Km_refl hS hW
    · rw [if_neg q2]
      by_cases q3 : (s_X9_isIn M e 0 900) = 0
      · rw [if_pos q3]
        exact Km_refl hS hW
      · rw [if_neg q3]
        by_cases q4 : (M 5 (Int32.toNatClampNeg b)) = 8
        · rw [if_pos q4]
          exact Km_refl hS hW
        · rw [if_neg q4]
          by_cases q5 : (M 5 (Int32.toNatClampNeg b)) = 0
          · rw [if_pos q5]
            exact (Km_nr (Km_nr (Km_refl hS hW) (by decide) _ _) (by decide) _ _)
          · rw [if_neg q5]
            exact (Km_nr (Km_nr (Km_refl hS hW) (by decide) _ _) (by decide) _ _)
theorem Me_want {wb sb : Int} {M : MT} (hS : InvS M) (hW : InvW wb sb M) (a : Int32) : Km wb sb M (s3_X9_want M a).2 := by
  unfold s3_X9_want
  by_cases q1 : (s_X9_isIn M a 0 1000) = 0
  · rw [if_pos q1]
    exact Km_refl hS hW
  · rw [if_neg q1]
    exact (Km_3 (Km_refl hS hW) q1)
theorem Me_read {wb sb : Int} {M : MT} (hS : InvS M) (hW : InvW wb sb M) (a : Int32) (e : Int32) : Km wb sb M (s3_X9_read M a e).2 := by
  unfold s3_X9_read
  by_cases q1 : (s_X9_isStack M a) = 0
  · rw [if_pos q1]
    exact Km_refl hS hW
  · rw [if_neg q1]
    by_cases q2 : (s_X9_isIn M e 0 100) = 0
    · rw [if_pos q2]
      exact Km_refl hS hW
    · rw [if_neg q2]
      exact (Km_nr (Km_refl hS hW) (by decide) _ _)

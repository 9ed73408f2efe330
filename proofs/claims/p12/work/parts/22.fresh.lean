/-- a PeatBog as it was made, as far as one call asks -/
def FrB (M : MT) : Prop := M 0 8 = 0 ∧ M 0 9 = 0 ∧ M 0 10 = 0 ∧ M 0 11 = 0 ∧ M 0 12 = 0 ∧ M 0 13 = 0 ∧ M 0 14 = (-1) ∧ M 4 0 = (-1) ∧ M 4 2 = 550 ∧ M 4 3 = 0 ∧ M 4 4 = 0 ∧ M 14 0 = 0 ∧ M 14 1 = 0 ∧ M 14 2 = 0 ∧ M 14 3 = 0 ∧ M 14 4 = 0 ∧ M 15 1 = 0 ∧ ∀ b, b < 16 → M (28 + b) 0 = 1000 ∧ M (28 + b) 1 = 0 ∧ M (28 + b) 2 = 0 ∧ M (28 + b) 3 = 0 ∧ M (28 + b) 4 = 0 ∧ M (28 + b) 5 = (-1) ∧ M (28 + b) 6 = 0
theorem fr_0_8 {M : MT} (h : FrB M) : M 0 8 = 0 := h.1
theorem fr_0_9 {M : MT} (h : FrB M) : M 0 9 = 0 := h.2.1
theorem fr_0_10 {M : MT} (h : FrB M) : M 0 10 = 0 := h.2.2.1
theorem fr_0_11 {M : MT} (h : FrB M) : M 0 11 = 0 := h.2.2.2.1
theorem fr_0_12 {M : MT} (h : FrB M) : M 0 12 = 0 := h.2.2.2.2.1
theorem fr_0_13 {M : MT} (h : FrB M) : M 0 13 = 0 := h.2.2.2.2.2.1
theorem fr_0_14 {M : MT} (h : FrB M) : M 0 14 = (-1) := h.2.2.2.2.2.2.1
theorem fr_4_0 {M : MT} (h : FrB M) : M 4 0 = (-1) := h.2.2.2.2.2.2.2.1
theorem fr_4_2 {M : MT} (h : FrB M) : M 4 2 = 550 := h.2.2.2.2.2.2.2.2.1
theorem fr_4_3 {M : MT} (h : FrB M) : M 4 3 = 0 := h.2.2.2.2.2.2.2.2.2.1
theorem fr_4_4 {M : MT} (h : FrB M) : M 4 4 = 0 := h.2.2.2.2.2.2.2.2.2.2.1
theorem fr_14_0 {M : MT} (h : FrB M) : M 14 0 = 0 := h.2.2.2.2.2.2.2.2.2.2.2.1
theorem fr_14_1 {M : MT} (h : FrB M) : M 14 1 = 0 := h.2.2.2.2.2.2.2.2.2.2.2.2.1
theorem fr_14_2 {M : MT} (h : FrB M) : M 14 2 = 0 := h.2.2.2.2.2.2.2.2.2.2.2.2.2.1
theorem fr_14_3 {M : MT} (h : FrB M) : M 14 3 = 0 := h.2.2.2.2.2.2.2.2.2.2.2.2.2.2.1
theorem fr_14_4 {M : MT} (h : FrB M) : M 14 4 = 0 := h.2.2.2.2.2.2.2.2.2.2.2.2.2.2.2.1
theorem fr_15_1 {M : MT} (h : FrB M) : M 15 1 = 0 := h.2.2.2.2.2.2.2.2.2.2.2.2.2.2.2.2.1
theorem frb_0 {M : MT} (h : FrB M) {b : Nat} (hb : b < 16) : M (28 + b) 0 = 1000 := (h.2.2.2.2.2.2.2.2.2.2.2.2.2.2.2.2.2 b hb).1
theorem frb_1 {M : MT} (h : FrB M) {b : Nat} (hb : b < 16) : M (28 + b) 1 = 0 := (h.2.2.2.2.2.2.2.2.2.2.2.2.2.2.2.2.2 b hb).2.1
theorem frb_2 {M : MT} (h : FrB M) {b : Nat} (hb : b < 16) : M (28 + b) 2 = 0 := (h.2.2.2.2.2.2.2.2.2.2.2.2.2.2.2.2.2 b hb).2.2.1
theorem frb_3 {M : MT} (h : FrB M) {b : Nat} (hb : b < 16) : M (28 + b) 3 = 0 := (h.2.2.2.2.2.2.2.2.2.2.2.2.2.2.2.2.2 b hb).2.2.2.1
theorem frb_4 {M : MT} (h : FrB M) {b : Nat} (hb : b < 16) : M (28 + b) 4 = 0 := (h.2.2.2.2.2.2.2.2.2.2.2.2.2.2.2.2.2 b hb).2.2.2.2.1
theorem frb_5 {M : MT} (h : FrB M) {b : Nat} (hb : b < 16) : M (28 + b) 5 = (-1) := (h.2.2.2.2.2.2.2.2.2.2.2.2.2.2.2.2.2 b hb).2.2.2.2.2.1
theorem frb_6 {M : MT} (h : FrB M) {b : Nat} (hb : b < 16) : M (28 + b) 6 = 0 := (h.2.2.2.2.2.2.2.2.2.2.2.2.2.2.2.2.2 b hb).2.2.2.2.2.2
def s1_X1_closes (M : MT) (i : Nat) (a : Int32) (b : Int32) : Int32 := 0
theorem b1_X1_closes (M : MT) (i : Nat) (a : Int32) (b : Int32) : s1_X1_closes M i a b = 0 ∨ s1_X1_closes M i a b = 1 := by unfold s1_X1_closes; first | (repeat' split) <;> simp | (repeat' split) <;> first | exact Or.inl rfl | exact Or.inr rfl | simp [*]
set_option maxHeartbeats 4000000 in
set_option maxRecDepth 100000 in
theorem c1_X1_closes (l : Launch) (D : va_G) (cy : Nat → ClassId) (X : va_W) (ad : Nat → Nat) (M : MT) (i : Nat) (a : Int32) (b : Int32) (hz : LawZ i) (h4 : M i 4 = 0) : CtI l yX1_closes cX1_closes 5 .boolean (rK 2) D cy X ad ZB M [.ref (ad i), .int a, .int b] 0 M := by
  refine Ctr.of (by decide +kernel) (Nat.le_of_ble_eq_true rfl) ?_
  intro K f q hnm hl0 hD0 hy0 hX0
  show V K ad 0 0 ZB M 0 [(0, .ref (ad i)), (1, .int a), (2, .int b)] []
  refine V_iload_n f dX1_closes_0 2 rfl ?_
  refine V_sipush (v := 365) f dX1_closes_1 (by decide) ?_
  refine V_irem f dX1_closes_4 (by decide) ?_
  refine V_istore_n f dX1_closes_5 rfl (by decide) rfl ?_
  refine V_iconst (v := 0) f dX1_closes_6 (by decide) ?_
  refine V_istore f dX1_closes_7 (by decide) rfl ?_
  refine V_iload f dX1_closes_9 0 rfl ?_
  refine V_aload_n f dX1_closes_11 2 rfl ?_
  refine V_getE (x := 0) f dX1_closes_12 lf_1_24 rfl (zL hz) h4 ?_
  refine V_icmp_ge (tgt := 57) f dX1_closes_15 (by decide) (fun _ => ?_) (fun h => absurd (by decide) h)
  refine V_iconst (v := 0) f dX1_closes_57 (by decide) ?_
  exact V_iret f q dX1_closes_58 rfl (Nat.zero_le _) (Nat.zero_le _) ⟨rfl, rfl, rfl, rfl⟩
def s_X6_holdsMore (M : MT) (a : Int32) : Int32 := (if 500 < ((M 15 1) + a) then 0 else 1)
theorem b_X6_holdsMore (M : MT) (a : Int32) : s_X6_holdsMore M a = 0 ∨ s_X6_holdsMore M a = 1 := by unfold s_X6_holdsMore; first | (repeat' split) <;> simp | (repeat' split) <;> first | exact Or.inl rfl | exact Or.inr rfl | simp [*]
set_option maxHeartbeats 4000000 in
set_option maxRecDepth 100000 in
theorem c_X6_holdsMore (l : Launch) (D : va_G) (cy : Nat → ClassId) (X : va_W) (ad : Nat → Nat) (M : MT) (a : Int32) : CtI l yX6_holdsMore cX6_holdsMore 2 .boolean (rK 0) D cy X ad ZB M [.ref (ad 15), .int a] (s_X6_holdsMore M a) M := by
  refine Ctr.of (by decide +kernel) (Nat.le_of_ble_eq_true rfl) ?_
  intro K f q hnm hl0 hD0 hy0 hX0
  show V K ad 0 0 ZB M 0 [(0, .ref (ad 15)), (1, .int a)] []
  refine V_aload_n f dX6_holdsMore_0 0 rfl ?_
  refine V_getE (x := M 15 1) f dX6_holdsMore_1 lf_6_13 rfl zb_15 rfl ?_
  refine V_iload_n f dX6_holdsMore_4 1 rfl ?_
  refine V_iadd f dX6_holdsMore_5 ?_
  refine V_sipush (v := 500) f dX6_holdsMore_6 (by decide) ?_
  refine V_icmp_gt (tgt := 16) f dX6_holdsMore_9 (by decide) (fun c1 => ?_) (fun c1 => ?_)
  · refine V_iconst (v := 0) f dX6_holdsMore_16 (by decide) ?_
    exact V_iret f q dX6_holdsMore_17 rfl (Nat.zero_le _) (Nat.zero_le _) ⟨rfl, rfl, (by simp only [s_X6_holdsMore, if_pos c1]), rfl⟩
  · refine V_iconst (v := 1) f dX6_holdsMore_12 (by decide) ?_
    refine V_goto (tgt := 17) f dX6_holdsMore_13 (by decide) ?_
    exact V_iret f q dX6_holdsMore_17 rfl (Nat.zero_le _) (Nat.zero_le _) ⟨rfl, rfl, (by simp only [s_X6_holdsMore, if_neg c1]), rfl⟩
theorem tp_0 {x : Int32} (h0 : 0 ≤ x.toInt) (h1 : x.toInt ≤ 496) : vp_in x 500 := by rw [vp_in_iff]; omega
theorem tp_1 {x : Int32} (h0 : 0 ≤ x.toInt) (h1 : x.toInt ≤ 496) : vp_in (x + 1) 500 := by
  have e1 : (1 : Int32).toInt = 1 := by decide
  have a1 := i32_add h0 (by omega) (k := 1) (by decide) (by decide)
  rw [vp_in_iff]; omega
theorem tp_2 {x : Int32} (h0 : 0 ≤ x.toInt) (h1 : x.toInt ≤ 496) : vp_in ((x + 1) + 1) 500 := by
  have e1 : (1 : Int32).toInt = 1 := by decide
  have a1 := i32_add h0 (by omega) (k := 1) (by decide) (by decide)
  have a2 := i32_add (x := (x + 1)) (by omega) (by omega) (k := 1) (by decide) (by decide)
  rw [vp_in_iff]; omega
theorem tp_3 {x : Int32} (h0 : 0 ≤ x.toInt) (h1 : x.toInt ≤ 496) : vp_in (((x + 1) + 1) + 1) 500 := by
  have e1 : (1 : Int32).toInt = 1 := by decide
  have a1 := i32_add h0 (by omega) (k := 1) (by decide) (by decide)
  have a2 := i32_add (x := (x + 1)) (by omega) (by omega) (k := 1) (by decide) (by decide)
  have a3 := i32_add (x := ((x + 1) + 1)) (by omega) (by omega) (k := 1) (by decide) (by decide)
  rw [vp_in_iff]; omega
def s_X6_add (M : MT) (a : Int32) : MT := (if (s_X6_holdsMore M 4) = 0 then M else (up2 (up2 (up2 (up2 (up2 (up2 (up2 (up2 M 16 (Int32.toNatClampNeg (M 15 1)) (vp_nar .byte ((a >>> (24 &&& 31)).toInt8.toInt32))) 15 1 ((M 15 1) + 1)) 16 (Int32.toNatClampNeg ((M 15 1) + 1)) (vp_nar .byte ((a >>> (16 &&& 31)).toInt8.toInt32))) 15 1 (((M 15 1) + 1) + 1)) 16 (Int32.toNatClampNeg (((M 15 1) + 1) + 1)) (vp_nar .byte ((a >>> (8 &&& 31)).toInt8.toInt32))) 15 1 ((((M 15 1) + 1) + 1) + 1)) 16 (Int32.toNatClampNeg ((((M 15 1) + 1) + 1) + 1)) (vp_nar .byte ((a >>> (0 &&& 31)).toInt8.toInt32))) 15 1 (((((M 15 1) + 1) + 1) + 1) + 1)))
set_option maxHeartbeats 4000000 in
set_option maxRecDepth 100000 in
theorem c_X6_add (l : Launch) (D : va_G) (cy : Nat → ClassId) (X : va_W) (ad : Nat → Nat) (M : MT) (a : Int32) (h0 : 0 ≤ (M 15 1).toInt) (h1 : (M 15 1).toInt ≤ 496) : CtV l yX6_add cX6_add 3 (rK 1) D cy X ad ZB M [.ref (ad 15), .int a] (s_X6_add M a) := by
  refine Ctr.of (by decide +kernel) (Nat.le_of_ble_eq_true rfl) ?_
  intro K f q hnm hl0 hD0 hy0 hX0
  show V K ad 0 0 ZB M 0 [(0, .ref (ad 15)), (1, .int a)] []
  refine V_aload_n f dX6_add_0 0 rfl ?_
  refine V_iconst (v := 4) f dX6_add_1 (by decide) ?_
  refine V_cVi (As := [.int 4]) (rest := []) f dX6_add_2 lk_X6_17 ml_X6_17 ins_X6_holdsMore sel_X6_holdsMore zb_15 (by decide) rfl (c_X6_holdsMore (kl K) (kD K) (ky K) (kX K) ad M 4) rfl (Nat.le_of_ble_eq_true rfl) rfl ⟨by decide, by decide⟩ ⟨Nat.zero_le _, Nat.zero_le _⟩ rfl rfl ?_
  refine V_if_ne (tgt := 9) f dX6_add_5 (by decide) (fun c1 => ?_) (fun c1 => ?_)
  · refine V_bipush (v := 24) f dX6_add_9 (by decide) ?_
    refine V_istore_n f dX6_add_11 rfl (by decide) rfl ?_
    refine V_iload_n f dX6_add_12 0 rfl ?_
    refine V_if_lt (tgt := 45) f dX6_add_13 (by decide) (fun h => absurd h (by decide)) (fun _ => ?_)
    refine V_aload_n f dX6_add_16 1 rfl ?_
    refine V_getR f dX6_add_17 lf_6_9 rfl zb_15 rfl ?_
    refine V_aload_n f dX6_add_20 1 rfl ?_
    refine V_getE (x := M 15 1) f dX6_add_21 lf_6_13 rfl zb_15 rfl ?_
    refine V_iload_n f dX6_add_24 2 rfl ?_
    refine V_iload_n f dX6_add_25 0 rfl ?_
    refine V_ishr f dX6_add_26 ?_
    refine V_i2b f dX6_add_27 ?_
    refine V_bast f dX6_add_28 zb_16 (tp_0 h0 h1) ?_
    refine V_aload_n f dX6_add_29 1 rfl ?_
    refine V_dup f dX6_add_30 rfl ?_
    refine V_getE (x := M 15 1) f dX6_add_31 lf_6_13 rfl zb_15 (up_c (by decide) rfl) ?_
    refine V_iconst (v := 1) f dX6_add_34 (by decide) ?_
    refine V_iadd f dX6_add_35 ?_
    refine V_putI f dX6_add_36 lf_6_13 lp_6_1 rfl rfl rfl rfl zb_15 ?_
    refine V_iinc (v := 16) f dX6_add_39 0 rfl (by decide) (by decide) rfl ?_
    refine V_goto (tgt := 12) f dX6_add_42 (by decide) ?_
    refine V_iload_n f dX6_add_12 0 rfl ?_
    refine V_if_lt (tgt := 45) f dX6_add_13 (by decide) (fun h => absurd h (by decide)) (fun _ => ?_)
    refine V_aload_n f dX6_add_16 1 rfl ?_
    refine V_getR f dX6_add_17 lf_6_9 rfl zb_15 rfl ?_
    refine V_aload_n f dX6_add_20 1 rfl ?_
    refine V_getE (x := (M 15 1) + 1) f dX6_add_21 lf_6_13 rfl zb_15 up_s ?_
    refine V_iload_n f dX6_add_24 2 rfl ?_
    refine V_iload_n f dX6_add_25 0 rfl ?_
    refine V_ishr f dX6_add_26 ?_
    refine V_i2b f dX6_add_27 ?_
    refine V_bast f dX6_add_28 zb_16 (tp_1 h0 h1) ?_
    refine V_aload_n f dX6_add_29 1 rfl ?_
    refine V_dup f dX6_add_30 rfl ?_
    refine V_getE (x := (M 15 1) + 1) f dX6_add_31 lf_6_13 rfl zb_15 (up_c (by decide) up_s) ?_
    refine V_iconst (v := 1) f dX6_add_34 (by decide) ?_
    refine V_iadd f dX6_add_35 ?_
    refine V_putI f dX6_add_36 lf_6_13 lp_6_1 rfl rfl rfl rfl zb_15 ?_
    refine V_iinc (v := 8) f dX6_add_39 0 rfl (by decide) (by decide) rfl ?_
    refine V_goto (tgt := 12) f dX6_add_42 (by decide) ?_
    refine V_iload_n f dX6_add_12 0 rfl ?_
    refine V_if_lt (tgt := 45) f dX6_add_13 (by decide) (fun h => absurd h (by decide)) (fun _ => ?_)
    refine V_aload_n f dX6_add_16 1 rfl ?_
    refine V_getR f dX6_add_17 lf_6_9 rfl zb_15 rfl ?_
    refine V_aload_n f dX6_add_20 1 rfl ?_
    refine V_getE (x := ((M 15 1) + 1) + 1) f dX6_add_21 lf_6_13 rfl zb_15 up_s ?_
    refine V_iload_n f dX6_add_24 2 rfl ?_
    refine V_iload_n f dX6_add_25 0 rfl ?_
    refine V_ishr f dX6_add_26 ?_
    refine V_i2b f dX6_add_27 ?_
    refine V_bast f dX6_add_28 zb_16 (tp_2 h0 h1) ?_
    refine V_aload_n f dX6_add_29 1 rfl ?_
    refine V_dup f dX6_add_30 rfl ?_
    refine V_getE (x := ((M 15 1) + 1) + 1) f dX6_add_31 lf_6_13 rfl zb_15 (up_c (by decide) up_s) ?_
    refine V_iconst (v := 1) f dX6_add_34 (by decide) ?_
    refine V_iadd f dX6_add_35 ?_
    refine V_putI f dX6_add_36 lf_6_13 lp_6_1 rfl rfl rfl rfl zb_15 ?_
    refine V_iinc (v := 0) f dX6_add_39 0 rfl (by decide) (by decide) rfl ?_
    refine V_goto (tgt := 12) f dX6_add_42 (by decide) ?_
    refine V_iload_n f dX6_add_12 0 rfl ?_
    refine V_if_lt (tgt := 45) f dX6_add_13 (by decide) (fun h => absurd h (by decide)) (fun _ => ?_)
    refine V_aload_n f dX6_add_16 1 rfl ?_
    refine V_getR f dX6_add_17 lf_6_9 rfl zb_15 rfl ?_
    refine V_aload_n f dX6_add_20 1 rfl ?_
    refine V_getE (x := (((M 15 1) + 1) + 1) + 1) f dX6_add_21 lf_6_13 rfl zb_15 up_s ?_
    refine V_iload_n f dX6_add_24 2 rfl ?_
    refine V_iload_n f dX6_add_25 0 rfl ?_
    refine V_ishr f dX6_add_26 ?_
    refine V_i2b f dX6_add_27 ?_
    refine V_bast f dX6_add_28 zb_16 (tp_3 h0 h1) ?_
    refine V_aload_n f dX6_add_29 1 rfl ?_
    refine V_dup f dX6_add_30 rfl ?_
    refine V_getE (x := (((M 15 1) + 1) + 1) + 1) f dX6_add_31 lf_6_13 rfl zb_15 (up_c (by decide) up_s) ?_
    refine V_iconst (v := 1) f dX6_add_34 (by decide) ?_
    refine V_iadd f dX6_add_35 ?_
    refine V_putI f dX6_add_36 lf_6_13 lp_6_1 rfl rfl rfl rfl zb_15 ?_
    refine V_iinc (v := (-8)) f dX6_add_39 0 rfl (by decide) (by decide) rfl ?_
    refine V_goto (tgt := 12) f dX6_add_42 (by decide) ?_
    refine V_iload_n f dX6_add_12 0 rfl ?_
    refine V_if_lt (tgt := 45) f dX6_add_13 (by decide) (fun _ => ?_) (fun h => absurd (by decide) h)
    exact V_vret f q dX6_add_45 (Nat.zero_le _) (Nat.zero_le _) ⟨rfl, rfl, rfl, (by simp only [s_X6_add, if_neg c1])⟩
  · exact V_vret f q dX6_add_8 (Nat.zero_le _) (Nat.zero_le _) ⟨rfl, rfl, rfl, (by simp only [s_X6_add, if_pos c1])⟩
def s1_X7_cut (M : MT) : MT := (up2 (up2 M 18 1 0) 18 5 0)
set_option maxHeartbeats 4000000 in
set_option maxRecDepth 100000 in
theorem c1_X7_cut (l : Launch) (D : va_G) (cy : Nat → ClassId) (X : va_W) (ad : Nat → Nat) (M : MT) : CtV l yX7_cut cX7_cut 4 (rK 6) D cy X ad ZB M [.ref (ad 18), .int 0] (s1_X7_cut M) := by
  refine Ctr.of (by decide +kernel) (Nat.le_of_ble_eq_true rfl) ?_
  intro K f q hnm hl0 hD0 hy0 hX0
  show V K ad 0 0 ZB M 0 [(0, .ref (ad 18)), (1, .int 0)] []
  refine V_aload_n f dX7_cut_0 0 rfl ?_
  refine V_iconst (v := 0) f dX7_cut_1 (by decide) ?_
  refine V_putI f dX7_cut_2 lf_7_7 lp_7_1 rfl rfl rfl rfl zb_18 ?_
  refine V_aload_n f dX7_cut_5 0 rfl ?_
  refine V_iload_n f dX7_cut_6 1 rfl ?_
  refine V_putI f dX7_cut_7 lf_7_25 lp_7_5 rfl rfl rfl rfl zb_18 ?_
  refine V_iconst (v := 0) f dX7_cut_10 (by decide) ?_
  refine V_istore_n f dX7_cut_11 rfl (by decide) rfl ?_
  refine V_iload_n f dX7_cut_12 0 rfl ?_
  refine V_iload_n f dX7_cut_13 2 rfl ?_
  refine V_icmp_ge (tgt := 159) f dX7_cut_14 (by decide) (fun _ => ?_) (fun h => absurd (by decide) h)
  exact V_vret f q dX7_cut_159 (Nat.zero_le _) (Nat.zero_le _) ⟨rfl, rfl, rfl, (by simp only [s1_X7_cut])⟩
def s_X7_codeAt (M : MT) (a : Int32) : Int32 := (if a < 0 then 0 else (if (M 18 1) ≤ a then 0 else (M 19 (Int32.toNatClampNeg a))))
set_option maxHeartbeats 4000000 in
set_option maxRecDepth 100000 in
theorem c_X7_codeAt (l : Launch) (D : va_G) (cy : Nat → ClassId) (X : va_W) (ad : Nat → Nat) (M : MT) (a : Int32) (hc : (M 18 1).toInt ≤ 500) : CtI l yX7_codeAt cX7_codeAt 2 .int (rK 0) D cy X ad ZB M [.ref (ad 18), .int a] (s_X7_codeAt M a) M := by
  refine Ctr.of (by decide +kernel) (Nat.le_of_ble_eq_true rfl) ?_
  intro K f q hnm hl0 hD0 hy0 hX0
  show V K ad 0 0 ZB M 0 [(0, .ref (ad 18)), (1, .int a)] []
  refine V_iload_n f dX7_codeAt_0 1 rfl ?_
  refine V_if_lt (tgt := 21) f dX7_codeAt_1 (by decide) (fun c1 => ?_) (fun c1 => ?_)
  · refine V_iconst (v := 0) f dX7_codeAt_21 (by decide) ?_
    exact V_iret f q dX7_codeAt_22 rfl (Nat.zero_le _) (Nat.zero_le _) ⟨rfl, rfl, (by simp only [s_X7_codeAt, if_pos c1]), rfl⟩
  · refine V_iload_n f dX7_codeAt_4 1 rfl ?_
    refine V_aload_n f dX7_codeAt_5 0 rfl ?_
    refine V_getE (x := M 18 1) f dX7_codeAt_6 lf_7_7 rfl zb_18 rfl ?_
    refine V_icmp_ge (tgt := 21) f dX7_codeAt_9 (by decide) (fun c2 => ?_) (fun c2 => ?_)
    · refine V_iconst (v := 0) f dX7_codeAt_21 (by decide) ?_
      exact V_iret f q dX7_codeAt_22 rfl (Nat.zero_le _) (Nat.zero_le _) ⟨rfl, rfl, (by simp only [s_X7_codeAt, if_neg c1, if_pos c2]), rfl⟩
    · refine V_aload_n f dX7_codeAt_12 0 rfl ?_
      refine V_getR f dX7_codeAt_13 lf_7_15 rfl zb_18 rfl ?_
      refine V_iload_n f dX7_codeAt_16 1 rfl ?_
      refine V_ialdE (x := M 19 (Int32.toNatClampNeg a)) f dX7_codeAt_17 zb_19 (vin_of' c1 c2 hc) rfl ?_
      refine V_goto (tgt := 22) f dX7_codeAt_18 (by decide) ?_
      exact V_iret f q dX7_codeAt_22 rfl (Nat.zero_le _) (Nat.zero_le _) ⟨rfl, rfl, (by simp only [s_X7_codeAt, if_neg c1, if_neg c2]), rfl⟩
def s_X7_placeAt (M : MT) (a : Int32) : Int32 := (if a < 0 then (M 18 5) else (if (M 18 1) ≤ a then (M 18 5) else (M 20 (Int32.toNatClampNeg a))))
set_option maxHeartbeats 4000000 in
set_option maxRecDepth 100000 in
theorem c_X7_placeAt (l : Launch) (D : va_G) (cy : Nat → ClassId) (X : va_W) (ad : Nat → Nat) (M : MT) (a : Int32) (hc : (M 18 1).toInt ≤ 500) : CtI l yX7_placeAt cX7_placeAt 2 .int (rK 0) D cy X ad ZB M [.ref (ad 18), .int a] (s_X7_placeAt M a) M := by
  refine Ctr.of (by decide +kernel) (Nat.le_of_ble_eq_true rfl) ?_
  intro K f q hnm hl0 hD0 hy0 hX0
  show V K ad 0 0 ZB M 0 [(0, .ref (ad 18)), (1, .int a)] []
  refine V_iload_n f dX7_placeAt_0 1 rfl ?_
  refine V_if_lt (tgt := 21) f dX7_placeAt_1 (by decide) (fun c1 => ?_) (fun c1 => ?_)
  · refine V_aload_n f dX7_placeAt_21 0 rfl ?_
    refine V_getE (x := M 18 5) f dX7_placeAt_22 lf_7_25 rfl zb_18 rfl ?_
    exact V_iret f q dX7_placeAt_25 rfl (Nat.zero_le _) (Nat.zero_le _) ⟨rfl, rfl, (by simp only [s_X7_placeAt, if_pos c1]), rfl⟩
  · refine V_iload_n f dX7_placeAt_4 1 rfl ?_
    refine V_aload_n f dX7_placeAt_5 0 rfl ?_
    refine V_getE (x := M 18 1) f dX7_placeAt_6 lf_7_7 rfl zb_18 rfl ?_
    refine V_icmp_ge (tgt := 21) f dX7_placeAt_9 (by decide) (fun c2 => ?_) (fun c2 => ?_)
    · refine V_aload_n f dX7_placeAt_21 0 rfl ?_
      refine V_getE (x := M 18 5) f dX7_placeAt_22 lf_7_25 rfl zb_18 rfl ?_
      exact V_iret f q dX7_placeAt_25 rfl (Nat.zero_le _) (Nat.zero_le _) ⟨rfl, rfl, (by simp only [s_X7_placeAt, if_neg c1, if_pos c2]), rfl⟩
    · refine V_aload_n f dX7_placeAt_12 0 rfl ?_
      refine V_getR f dX7_placeAt_13 lf_7_19 rfl zb_18 rfl ?_
      refine V_iload_n f dX7_placeAt_16 1 rfl ?_
      refine V_ialdE (x := M 20 (Int32.toNatClampNeg a)) f dX7_placeAt_17 zb_20 (vin_of' c1 c2 hc) rfl ?_
      refine V_goto (tgt := 25) f dX7_placeAt_18 (by decide) ?_
      exact V_iret f q dX7_placeAt_25 rfl (Nat.zero_le _) (Nat.zero_le _) ⟨rfl, rfl, (by simp only [s_X7_placeAt, if_neg c1, if_neg c2]), rfl⟩
def s_X7_valueAt (M : MT) (a : Int32) : Int32 := (if a < 0 then 0 else (if (M 18 1) ≤ a then 0 else (M 21 (Int32.toNatClampNeg a))))
set_option maxHeartbeats 4000000 in
set_option maxRecDepth 100000 in
theorem c_X7_valueAt (l : Launch) (D : va_G) (cy : Nat → ClassId) (X : va_W) (ad : Nat → Nat) (M : MT) (a : Int32) (hc : (M 18 1).toInt ≤ 500) : CtI l yX7_valueAt cX7_valueAt 2 .int (rK 0) D cy X ad ZB M [.ref (ad 18), .int a] (s_X7_valueAt M a) M := by
  refine Ctr.of (by decide +kernel) (Nat.le_of_ble_eq_true rfl) ?_
  intro K f q hnm hl0 hD0 hy0 hX0
  show V K ad 0 0 ZB M 0 [(0, .ref (ad 18)), (1, .int a)] []
  refine V_iload_n f dX7_valueAt_0 1 rfl ?_
  refine V_if_lt (tgt := 21) f dX7_valueAt_1 (by decide) (fun c1 => ?_) (fun c1 => ?_)
  · refine V_iconst (v := 0) f dX7_valueAt_21 (by decide) ?_
    exact V_iret f q dX7_valueAt_22 rfl (Nat.zero_le _) (Nat.zero_le _) ⟨rfl, rfl, (by simp only [s_X7_valueAt, if_pos c1]), rfl⟩
  · refine V_iload_n f dX7_valueAt_4 1 rfl ?_
    refine V_aload_n f dX7_valueAt_5 0 rfl ?_
    refine V_getE (x := M 18 1) f dX7_valueAt_6 lf_7_7 rfl zb_18 rfl ?_
    refine V_icmp_ge (tgt := 21) f dX7_valueAt_9 (by decide) (fun c2 => ?_) (fun c2 => ?_)
    · refine V_iconst (v := 0) f dX7_valueAt_21 (by decide) ?_
      exact V_iret f q dX7_valueAt_22 rfl (Nat.zero_le _) (Nat.zero_le _) ⟨rfl, rfl, (by simp only [s_X7_valueAt, if_neg c1, if_pos c2]), rfl⟩
    · refine V_aload_n f dX7_valueAt_12 0 rfl ?_
      refine V_getR f dX7_valueAt_13 lf_7_22 rfl zb_18 rfl ?_
      refine V_iload_n f dX7_valueAt_16 1 rfl ?_
      refine V_ialdE (x := M 21 (Int32.toNatClampNeg a)) f dX7_valueAt_17 zb_21 (vin_of' c1 c2 hc) rfl ?_
      refine V_goto (tgt := 22) f dX7_valueAt_18 (by decide) ?_
      exact V_iret f q dX7_valueAt_22 rfl (Nat.zero_le _) (Nat.zero_le _) ⟨rfl, rfl, (by simp only [s_X7_valueAt, if_neg c1, if_neg c2]), rfl⟩
theorem codeAt_0 {M : MT} (h : M 18 1 = 0) : s_X7_codeAt M 0 = 0 := by simp [s_X7_codeAt, h]
theorem rt_h (M : MT) : up2 (s1_X7_cut M) 17 1 0 18 1 = 0 := by simp [s1_X7_cut, up2, va_up]
def s1_X2_readText (M : MT) (i : Nat) : Int32 × MT := ((-1), (up2 (s1_X7_cut M) 17 1 0))
set_option maxHeartbeats 4000000 in
set_option maxRecDepth 100000 in
theorem c1_X2_readText (l : Launch) (D : va_G) (cy : Nat → ClassId) (X : va_W) (ad : Nat → Nat) (M : MT) (i : Nat) (hz : LawZ i) : CtI l yX2_readText cX2_readText 4 .int (rK 7) D cy X ad ZB M [.ref (ad 17), .int 0, .ref (ad i)] (-1) (s1_X2_readText M i).2 := by
  refine Ctr.of (by decide +kernel) (Nat.le_of_ble_eq_true rfl) ?_
  intro K f q hnm hl0 hD0 hy0 hX0
  show V K ad 0 0 ZB M 0 [(0, .ref (ad 17)), (1, .int 0), (2, .ref (ad i))] []
  refine V_aload_n f dX2_readText_0 0 rfl ?_
  refine V_getR f dX2_readText_1 lf_2_20 rfl zb_17 rfl ?_
  refine V_iload_n f dX2_readText_4 1 rfl ?_
  refine V_cVv (As := [.int 0]) (rest := []) f dX2_readText_5 lk_X2_24 ml_X2_24 ins_X7_cut sel_X7_cut zb_18 (by decide) rfl (c1_X7_cut (kl K) (kD K) (ky K) (kX K) ad M ) rfl (Nat.le_of_ble_eq_true rfl) rfl ⟨by decide, by decide⟩ ⟨Nat.zero_le _, Nat.zero_le _⟩ rfl rfl ?_
  refine V_aload_n f dX2_readText_8 0 rfl ?_
  refine V_iconst (v := 0) f dX2_readText_9 (by decide) ?_
  refine V_putI f dX2_readText_10 lf_2_9 lp_2_1 rfl rfl rfl rfl zb_17 ?_
  refine V_iconst (v := 0) f dX2_readText_13 (by decide) ?_
  refine V_istore_n f dX2_readText_14 rfl (by decide) rfl ?_
  refine V_iload_n f dX2_readText_15 0 rfl ?_
  refine V_bipush (v := 16) f dX2_readText_16 (by decide) ?_
  refine V_icmp_ge (tgt := 63) f dX2_readText_18 (by decide) (fun h => absurd h (by decide)) (fun _ => ?_)
  refine V_aload_n f dX2_readText_21 1 rfl ?_
  refine V_getR f dX2_readText_22 lf_2_20 rfl zb_17 rfl ?_
  refine V_aload_n f dX2_readText_25 1 rfl ?_
  refine V_getE (x := 0) f dX2_readText_26 lf_2_9 rfl zb_17 up_s ?_
  refine V_cVi (As := [.int 0]) (rest := []) f dX2_readText_29 lk_X2_30 ml_X2_30 ins_X7_codeAt sel_X7_codeAt zb_18 (by decide) rfl (c_X7_codeAt (kl K) (kD K) (ky K) (kX K) ad (up2 (s1_X7_cut M) 17 1 0) 0 (by rw [rt_h M]; decide)) rfl (Nat.le_of_ble_eq_true rfl) rfl ⟨by decide, by decide⟩ ⟨Nat.zero_le _, Nat.zero_le _⟩ rfl rfl ?_
  refine V_if_ne (tgt := 37) f dX2_readText_32 (by decide) (fun c1 => ?_) (fun c1 => ?_)
  · exact absurd (codeAt_0 (rt_h M)) c1
  · refine V_iconst (v := (-1)) f dX2_readText_35 (by decide) ?_
    exact V_iret f q dX2_readText_36 rfl (Nat.zero_le _) (Nat.zero_le _) ⟨rfl, rfl, rfl, (by simp only [s1_X2_readText, if_pos c1])⟩
def s1_X4_takeWanted (M : MT) : MT := (up2 (up2 (up2 (up2 M 14 1 ((M 14 1) - (if (M 14 1) < (M 14 0) then (M 14 1) else (M 14 0)))) 14 2 ((M 14 2) + ((M 14 0) - ((M 14 0) - (if (M 14 1) < (M 14 0) then (M 14 1) else (M 14 0)))))) 14 3 ((M 14 3) + ((M 14 0) - (if (M 14 1) < (M 14 0) then (M 14 1) else (M 14 0))))) 14 4 ((M 14 0) - (if (M 14 1) < (M 14 0) then (M 14 1) else (M 14 0))))
set_option maxHeartbeats 4000000 in
set_option maxRecDepth 100000 in
theorem c1_X4_takeWanted (l : Launch) (D : va_G) (cy : Nat → ClassId) (X : va_W) (ad : Nat → Nat) (M : MT) : CtV l yX4_takeWanted cX4_takeWanted 6 (rK 1) D cy X ad ZB M [.ref (ad 14), .ref (ad 2), .int 0] (s1_X4_takeWanted M) := by
  refine Ctr.of (by decide +kernel) (Nat.le_of_ble_eq_true rfl) ?_
  intro K f q hnm hl0 hD0 hy0 hX0
  show V K ad 0 0 ZB M 0 [(0, .ref (ad 14)), (1, .ref (ad 2)), (2, .int 0)] []
  refine V_aload_n f dX4_takeWanted_0 0 rfl ?_
  refine V_getE (x := M 14 0) f dX4_takeWanted_1 lf_4_7 rfl zb_14 rfl ?_
  refine V_istore_n f dX4_takeWanted_4 rfl (by decide) rfl ?_
  refine V_iload_n f dX4_takeWanted_5 0 rfl ?_
  refine V_aload_n f dX4_takeWanted_6 1 rfl ?_
  refine V_getE (x := M 14 1) f dX4_takeWanted_7 lf_4_13 rfl zb_14 rfl ?_
  refine V_mmin f dX4_takeWanted_10 ml_X4_25 ma_min ma_ini mc_min (by decide) (Nat.le_of_ble_eq_true rfl) (Nat.zero_le _) (Nat.zero_le _) ?_
  refine V_istore f dX4_takeWanted_13 (by decide) rfl ?_
  refine V_aload_n f dX4_takeWanted_15 2 rfl ?_
  refine V_dup f dX4_takeWanted_16 rfl ?_
  refine V_getE (x := M 14 1) f dX4_takeWanted_17 lf_4_13 rfl zb_14 rfl ?_
  refine V_iload f dX4_takeWanted_20 0 rfl ?_
  refine V_isub f dX4_takeWanted_22 ?_
  refine V_putI f dX4_takeWanted_23 lf_4_13 lp_4_1 rfl rfl rfl rfl zb_14 ?_
  refine V_iload_n f dX4_takeWanted_26 1 rfl ?_
  refine V_iload f dX4_takeWanted_27 0 rfl ?_
  refine V_isub f dX4_takeWanted_29 ?_
  refine V_istore_n f dX4_takeWanted_30 rfl (by decide) rfl ?_
  refine V_iconst (v := 0) f dX4_takeWanted_31 (by decide) ?_
  refine V_istore f dX4_takeWanted_32 (by decide) rfl ?_
  refine V_iload f dX4_takeWanted_34 0 rfl ?_
  refine V_iload_n f dX4_takeWanted_36 5 rfl ?_
  refine V_icmp_ge (tgt := 95) f dX4_takeWanted_37 (by decide) (fun _ => ?_) (fun h => absurd (by decide) h)
  refine V_aload_n f dX4_takeWanted_95 3 rfl ?_
  refine V_dup f dX4_takeWanted_96 rfl ?_
  refine V_getE (x := M 14 2) f dX4_takeWanted_97 lf_4_16 rfl zb_14 (up_k (by decide) rfl) ?_
  refine V_aload_n f dX4_takeWanted_100 3 rfl ?_
  refine V_getE (x := M 14 0) f dX4_takeWanted_101 lf_4_7 rfl zb_14 (up_k (by decide) rfl) ?_
  refine V_iload_n f dX4_takeWanted_104 1 rfl ?_
  refine V_isub f dX4_takeWanted_105 ?_
  refine V_iadd f dX4_takeWanted_106 ?_
  refine V_putI f dX4_takeWanted_107 lf_4_16 lp_4_2 rfl rfl rfl rfl zb_14 ?_
  refine V_aload_n f dX4_takeWanted_110 3 rfl ?_
  refine V_dup f dX4_takeWanted_111 rfl ?_
  refine V_getE (x := M 14 3) f dX4_takeWanted_112 lf_4_19 rfl zb_14 (up_k (by decide) (up_k (by decide) rfl)) ?_
  refine V_iload_n f dX4_takeWanted_115 1 rfl ?_
  refine V_iadd f dX4_takeWanted_116 ?_
  refine V_putI f dX4_takeWanted_117 lf_4_19 lp_4_3 rfl rfl rfl rfl zb_14 ?_
  refine V_aload_n f dX4_takeWanted_120 3 rfl ?_
  refine V_iload_n f dX4_takeWanted_121 1 rfl ?_
  refine V_putI f dX4_takeWanted_122 lf_4_22 lp_4_4 rfl rfl rfl rfl zb_14 ?_
  exact V_vret f q dX4_takeWanted_125 (Nat.zero_le _) (Nat.zero_le _) ⟨rfl, rfl, rfl, (by simp only [s1_X4_takeWanted])⟩

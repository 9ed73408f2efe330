/-- what every run keeps of a PeatBog: counts in their rows -/
def LwOk (M : MT) (i : Nat) : Prop := (0 ≤ (M i 4).toInt ∧ (M i 4).toInt ≤ 16) ∧ (0 ≤ (M i 9).toInt ∧ (M i 9).toInt ≤ 16) ∧ ∀ r, r < 16 → 0 ≤ (M (i + 5) r).toInt ∧ (M (i + 5) r).toInt ≤ 3
def InvB (M : MT) : Prop := (0 ≤ (M 0 8).toInt ∧ (M 0 8).toInt ≤ 10) ∧ (0 ≤ (M 0 9).toInt ∧ (M 0 9).toInt ≤ 8) ∧ (0 ≤ (M 15 1).toInt ∧ (M 15 1).toInt ≤ 500) ∧ (0 ≤ (M 18 1).toInt ∧ (M 18 1).toInt ≤ 500) ∧ ∀ i, LawZ i → LwOk M i
/-- cells whose ints InvB doesn't ask -/
def nrB (i : Nat) : Prop := i = 14 ∨ i = 16 ∨ i = 17 ∨ (19 ≤ i ∧ i ≤ 53)
theorem InvB_nr {M : MT} (h : InvB M) {i : Nat} (hi : nrB i) (k : Nat) (v : Int32) : InvB (up2 M i k v) := by
  obtain ⟨h1, h2, h3, h4, h5⟩ := h
  have e : ∀ j, ¬ j = i → up2 M i k v j = M j := fun j hj => by simp only [up2, va_up]; rw [if_neg hj]
  unfold nrB at hi
  refine ⟨by rw [e 0 (by omega)]; exact h1, by rw [e 0 (by omega)]; exact h2, by rw [e 15 (by omega)]; exact h3, by rw [e 18 (by omega)]; exact h4, fun j hj => ?_⟩
  have hl := h5 j hj
  unfold LwOk at hl ⊢
  rcases hj with rfl | ⟨b, hb, rfl⟩
  · rw [e 4 (by omega), e (4 + 5) (by omega)]; exact hl
  · rw [e (54 + 10 * b) (by omega), e (54 + 10 * b + 5) (by omega)]; exact hl
/-- another int of the PeatBog itself -/
theorem InvB_0 {M : MT} (h : InvB M) {k : Nat} (hk : ¬ k = 8 ∧ ¬ k = 9) (v : Int32) : InvB (up2 M 0 k v) := by
  obtain ⟨h1, h2, h3, h4, h5⟩ := h
  have e : ∀ j, ¬ j = 0 → up2 M 0 k v j = M j := fun j hj => by simp only [up2, va_up]; rw [if_neg hj]
  refine ⟨by rw [up_k (fun q => hk.1 q.symm) rfl]; exact h1, by rw [up_k (fun q => hk.2 q.symm) rfl]; exact h2, by rw [e 15 (by omega)]; exact h3, by rw [e 18 (by omega)]; exact h4, fun j hj => ?_⟩
  have hl := h5 j hj
  unfold LwOk at hl ⊢
  rcases hj with rfl | ⟨b, hb, rfl⟩
  · rw [e 4 (by omega), e (4 + 5) (by omega)]; exact hl
  · rw [e (54 + 10 * b) (by omega), e (54 + 10 * b + 5) (by omega)]; exact hl
theorem vin16 {x c : Int32} (h0 : 0 ≤ x.toInt) (h : ¬ c ≤ x) (hc : c.toInt ≤ 16) : vp_in x 16 := by
  rw [Int32.le_iff_toInt_le] at h
  rw [vp_in_iff]; omega
theorem lo_inc {x c : Int32} {n : Nat} (h0 : 0 ≤ x.toInt) (hx : x.toInt + (n : Nat) = 1000) (h : ¬ c ≤ x) (hc : c.toInt ≤ 900) : ∃ m, n = m + 1 ∧ 0 ≤ (x + 1).toInt ∧ (x + 1).toInt + (m : Nat) = 1000 := by
  rw [Int32.le_iff_toInt_le] at h
  have := i32_add (x := x) h0 (by omega) (k := 1) (by decide) (by decide)
  have e1 : (1 : Int32).toInt = 1 := by decide
  exact ⟨n - 1, by omega, by omega, by omega⟩
def s_X1_runsOn (M : MT) (i : Nat) (a : Int32) (b : Int32) : Int32 := (if (M (i + 3) (Int32.toNatClampNeg a)) ≤ (M (i + 4) (Int32.toNatClampNeg a)) then (s_X8_within M b (M (i + 3) (Int32.toNatClampNeg a)) (M (i + 4) (Int32.toNatClampNeg a))) else (if (M (i + 3) (Int32.toNatClampNeg a)) ≤ b then 1 else (if (M (i + 4) (Int32.toNatClampNeg a)) < b then 0 else 1)))
theorem b_X1_runsOn (M : MT) (i : Nat) (a : Int32) (b : Int32) : s_X1_runsOn M i a b = 0 ∨ s_X1_runsOn M i a b = 1 := by unfold s_X1_runsOn; (repeat' split) <;> first | exact Or.inl rfl | exact Or.inr rfl | exact b_X8_within M _ _ _
set_option maxHeartbeats 4000000 in
set_option maxRecDepth 100000 in
theorem c_X1_runsOn (l : Launch) (D : va_G) (cy : Nat → ClassId) (X : va_W) (ad : Nat → Nat) (M : MT) (i : Nat) (a : Int32) (b : Int32) (hz : LawZ i) (ha : vp_in a 16) : CtI l yX1_runsOn cX1_runsOn 3 .boolean (rK 1) D cy X ad ZB M [.ref (ad i), .int a, .int b] (s_X1_runsOn M i a b) M := by
  refine Ctr.of (by decide +kernel) (Nat.le_of_ble_eq_true rfl) ?_
  intro K f q hnm hl0 hD0 hy0 hX0
  show V K ad 0 0 ZB M 0 [(0, .ref (ad i)), (1, .int a), (2, .int b)] []
  refine V_aload_n f dX1_runsOn_0 0 rfl ?_
  refine V_getR f dX1_runsOn_1 lf_1_37 rfl (zL hz) rfl ?_
  refine V_iload_n f dX1_runsOn_4 1 rfl ?_
  refine V_ialdE (x := M (i + 4) (Int32.toNatClampNeg a)) f dX1_runsOn_5 (zLa_4 hz) ha rfl ?_
  refine V_aload_n f dX1_runsOn_6 0 rfl ?_
  refine V_getR f dX1_runsOn_7 lf_1_34 rfl (zL hz) rfl ?_
  refine V_iload_n f dX1_runsOn_10 1 rfl ?_
  refine V_ialdE (x := M (i + 3) (Int32.toNatClampNeg a)) f dX1_runsOn_11 (zLa_3 hz) ha rfl ?_
  refine V_icmp_ge (tgt := 41) f dX1_runsOn_12 (by decide) (fun c1 => ?_) (fun c1 => ?_)
  · refine V_iload_n f dX1_runsOn_41 2 rfl ?_
    refine V_aload_n f dX1_runsOn_42 0 rfl ?_
    refine V_getR f dX1_runsOn_43 lf_1_34 rfl (zL hz) rfl ?_
    refine V_iload_n f dX1_runsOn_46 1 rfl ?_
    refine V_ialdE (x := M (i + 3) (Int32.toNatClampNeg a)) f dX1_runsOn_47 (zLa_3 hz) ha rfl ?_
    refine V_aload_n f dX1_runsOn_48 0 rfl ?_
    refine V_getR f dX1_runsOn_49 lf_1_37 rfl (zL hz) rfl ?_
    refine V_iload_n f dX1_runsOn_52 1 rfl ?_
    refine V_ialdE (x := M (i + 4) (Int32.toNatClampNeg a)) f dX1_runsOn_53 (zLa_4 hz) ha rfl ?_
    refine V_cNi (As := [.int b, .int (M (i + 3) (Int32.toNatClampNeg a)), .int (M (i + 4) (Int32.toNatClampNeg a))]) (rest := []) f dX1_runsOn_54 lk_X1_58 nl_X1_58 sta_X8_within (c_X8_within (kl K) (kD K) (ky K) (kX K) ad M b (M (i + 3) (Int32.toNatClampNeg a)) (M (i + 4) (Int32.toNatClampNeg a))) rfl (Nat.le_of_ble_eq_true rfl) rfl ⟨by decide, by decide⟩ ⟨Nat.zero_le _, Nat.zero_le _⟩ rfl rfl ?_
    exact V_iret f q dX1_runsOn_57 (nbz (b_X8_within M b (M (i + 3) (Int32.toNatClampNeg a)) (M (i + 4) (Int32.toNatClampNeg a)))) (Nat.zero_le _) (Nat.zero_le _) ⟨rfl, rfl, (by simp only [s_X1_runsOn, if_pos c1]), rfl⟩
  · refine V_iload_n f dX1_runsOn_15 2 rfl ?_
    refine V_aload_n f dX1_runsOn_16 0 rfl ?_
    refine V_getR f dX1_runsOn_17 lf_1_34 rfl (zL hz) rfl ?_
    refine V_iload_n f dX1_runsOn_20 1 rfl ?_
    refine V_ialdE (x := M (i + 3) (Int32.toNatClampNeg a)) f dX1_runsOn_21 (zLa_3 hz) ha rfl ?_
    refine V_icmp_ge (tgt := 35) f dX1_runsOn_22 (by decide) (fun c2 => ?_) (fun c2 => ?_)
    · refine V_iconst (v := 1) f dX1_runsOn_35 (by decide) ?_
      refine V_goto (tgt := 40) f dX1_runsOn_36 (by decide) ?_
      exact V_iret f q dX1_runsOn_40 rfl (Nat.zero_le _) (Nat.zero_le _) ⟨rfl, rfl, (by simp only [s_X1_runsOn, if_neg c1, if_pos c2]), rfl⟩
    · refine V_iload_n f dX1_runsOn_25 2 rfl ?_
      refine V_aload_n f dX1_runsOn_26 0 rfl ?_
      refine V_getR f dX1_runsOn_27 lf_1_37 rfl (zL hz) rfl ?_
      refine V_iload_n f dX1_runsOn_30 1 rfl ?_
      refine V_ialdE (x := M (i + 4) (Int32.toNatClampNeg a)) f dX1_runsOn_31 (zLa_4 hz) ha rfl ?_
      refine V_icmp_gt (tgt := 39) f dX1_runsOn_32 (by decide) (fun c3 => ?_) (fun c3 => ?_)
      · refine V_iconst (v := 0) f dX1_runsOn_39 (by decide) ?_
        exact V_iret f q dX1_runsOn_40 rfl (Nat.zero_le _) (Nat.zero_le _) ⟨rfl, rfl, (by simp only [s_X1_runsOn, if_neg c1, if_neg c2, if_pos c3]), rfl⟩
      · refine V_iconst (v := 1) f dX1_runsOn_35 (by decide) ?_
        refine V_goto (tgt := 40) f dX1_runsOn_36 (by decide) ?_
        exact V_iret f q dX1_runsOn_40 rfl (Nat.zero_le _) (Nat.zero_le _) ⟨rfl, rfl, (by simp only [s_X1_runsOn, if_neg c1, if_neg c2, if_neg c3]), rfl⟩
set_option maxHeartbeats 4000000 in
set_option maxRecDepth 100000 in
theorem c3_X1_closes (l : Launch) (D : va_G) (cy : Nat → ClassId) (X : va_W) (ad : Nat → Nat) (M : MT) (i : Nat) (a : Int32) (b : Int32) (hz : LawZ i) (hL : LwOk M i) : CtP l yX1_closes cX1_closes 5 (some .boolean) (rK 2) D cy X ad ZB M [.ref (ad i), .int a, .int b] (fun v M1 => ∃ r : Int32, v = some (.int r) ∧ (r = 0 ∨ r = 1) ∧ M1 = M) := by
  refine Ctr.of (by decide +kernel) (Nat.le_of_ble_eq_true rfl) ?_
  intro K f q hnm hl0 hD0 hy0 hX0
  show V K ad 0 0 ZB M 0 [(0, .ref (ad i)), (1, .int a), (2, .int b)] []
  have loop : ∀ (n : Nat) (x : Int32), 0 ≤ x.toInt → x.toInt + (n : Nat) = 1000 → V K ad 0 0 ZB M 9 [(4, .int x), (3, .int (b - b / 365 * 365)), (0, .ref (ad i)), (1, .int a), (2, .int b)] [] := by
    intro n
    induction n using Nat.strongRecOn with
    | ind n ih =>
      intro x x0 hx
      refine V_iload f dX1_closes_9 0 rfl ?_
      refine V_aload_n f dX1_closes_11 2 rfl ?_
      refine V_getE (x := M i 4) f dX1_closes_12 lf_1_24 rfl (zL hz) rfl ?_
      refine V_icmp_ge (tgt := 57) f dX1_closes_15 (by decide) (fun c1 => ?_) (fun c1 => ?_)
      · refine V_iconst (v := 0) f dX1_closes_57 (by decide) ?_
        exact V_iret f q dX1_closes_58 rfl (Nat.zero_le _) (Nat.zero_le _) ⟨rfl, rfl, 0, rfl, Or.inl rfl, rfl⟩
      · refine V_iload_n f dX1_closes_18 3 rfl ?_
        refine V_aload_n f dX1_closes_19 2 rfl ?_
        refine V_getR f dX1_closes_20 lf_1_27 rfl (zL hz) rfl ?_
        refine V_iload f dX1_closes_23 0 rfl ?_
        refine V_ialdE (x := M (i + 1) (Int32.toNatClampNeg x)) f dX1_closes_25 (zLa_1 hz) (vin16 x0 c1 hL.1.2) rfl ?_
        refine V_aload_n f dX1_closes_26 2 rfl ?_
        refine V_getR f dX1_closes_27 lf_1_31 rfl (zL hz) rfl ?_
        refine V_iload f dX1_closes_30 0 rfl ?_
        refine V_ialdE (x := M (i + 2) (Int32.toNatClampNeg x)) f dX1_closes_32 (zLa_2 hz) (vin16 x0 c1 hL.1.2) rfl ?_
        refine V_cNi (As := [.int a, .int (M (i + 1) (Int32.toNatClampNeg x)), .int (M (i + 2) (Int32.toNatClampNeg x))]) (rest := []) f dX1_closes_33 lk_X1_58 nl_X1_58 sta_X8_within (c_X8_within (kl K) (kD K) (ky K) (kX K) ad M a (M (i + 1) (Int32.toNatClampNeg x)) (M (i + 2) (Int32.toNatClampNeg x))) rfl (Nat.le_of_ble_eq_true rfl) rfl ⟨by decide, by decide⟩ ⟨Nat.zero_le _, Nat.zero_le _⟩ rfl rfl ?_
        refine V_if_eq (tgt := 51) f dX1_closes_36 (by decide) (fun c2 => ?_) (fun c2 => ?_)
        · refine V_iinc (v := x + 1) f dX1_closes_51 0 rfl rfl (by decide) rfl ?_
          refine V_goto (tgt := 9) f dX1_closes_54 (by decide) ?_
          obtain ⟨k9, e9, y0, y1⟩ := lo_inc x0 hx c1 (by have := hL.1.2; omega)
          exact ih k9 (by omega) (x + 1) y0 y1
        · refine V_aload_n f dX1_closes_39 2 rfl ?_
          refine V_iload f dX1_closes_40 0 rfl ?_
          refine V_iload_n f dX1_closes_42 1 rfl ?_
          refine V_cVi (As := [.int x, .int (b - b / 365 * 365)]) (rest := []) f dX1_closes_43 lk_X1_62 ml_X1_62 ins_X1_runsOn sel_X1_runsOn (zL hz) (by decide) rfl (c_X1_runsOn (kl K) (kD K) (ky K) (kX K) ad M i x (b - b / 365 * 365) hz (vin16 x0 c1 hL.1.2)) rfl (Nat.le_of_ble_eq_true rfl) rfl ⟨by decide, by decide⟩ ⟨Nat.zero_le _, Nat.zero_le _⟩ rfl rfl ?_
          refine V_if_eq (tgt := 51) f dX1_closes_46 (by decide) (fun c3 => ?_) (fun c3 => ?_)
          · refine V_iinc (v := x + 1) f dX1_closes_51 0 rfl rfl (by decide) rfl ?_
            refine V_goto (tgt := 9) f dX1_closes_54 (by decide) ?_
            obtain ⟨k9, e9, y0, y1⟩ := lo_inc x0 hx c1 (by have := hL.1.2; omega)
            exact ih k9 (by omega) (x + 1) y0 y1
          · refine V_iconst (v := 1) f dX1_closes_49 (by decide) ?_
            exact V_iret f q dX1_closes_50 rfl (Nat.zero_le _) (Nat.zero_le _) ⟨rfl, rfl, 1, rfl, Or.inr rfl, rfl⟩
  refine V_iload_n f dX1_closes_0 2 rfl ?_
  refine V_sipush (v := 365) f dX1_closes_1 (by decide) ?_
  refine V_irem f dX1_closes_4 (by decide) ?_
  refine V_istore_n f dX1_closes_5 rfl (by decide) rfl ?_
  refine V_iconst (v := 0) f dX1_closes_6 (by decide) ?_
  refine V_istore f dX1_closes_7 (by decide) rfl ?_
  exact loop 1000 0 (by decide) (by decide)
theorem lv8 {x : Int32} {n : Nat} (h : ¬ x < 0) (hx : x.toInt + 1 = (n : Int) ∧ n ≤ 8) : vp_in x 8 := by
  have e0 : (0 : Int32).toInt = 0 := by decide
  rw [Int32.lt_iff_toInt_lt] at h
  rw [vp_in_iff]; omega
theorem lv8d {x : Int32} {n : Nat} (h : ¬ x < 0) (hx : x.toInt + 1 = (n : Int) ∧ n ≤ 8) : ∃ m, n = m + 1 ∧ ((x + (-1)).toInt + 1 = (m : Int) ∧ m ≤ 8) := by
  have e0 : (0 : Int32).toInt = 0 := by decide
  have e1 : (-1 : Int32).toInt = -1 := by decide
  rw [Int32.lt_iff_toInt_lt] at h
  have e2 : (x + (-1)).toInt = x.toInt - 1 := by rw [Int32.toInt_add, e1, Int.bmod_eq_of_le (by omega) (by omega)]; omega
  exact ⟨n - 1, by omega, by omega, by omega⟩
theorem lv8s {c : Int32} (h : 0 ≤ c.toInt ∧ c.toInt ≤ 8) : (c - 1).toInt + 1 = ((c.toInt.toNat : Nat) : Int) ∧ c.toInt.toNat ≤ 8 := by
  have e1 : (1 : Int32).toInt = 1 := by decide
  rw [Int32.toInt_sub, e1, Int.bmod_eq_of_le (by omega) (by omega)]
  omega
set_option maxHeartbeats 4000000 in
set_option maxRecDepth 100000 in
theorem c3_X8_lawOn (l : Launch) (D : va_G) (cy : Nat → ClassId) (X : va_W) (ad : Nat → Nat) (M : MT) (a : Int32) (hI : InvB M) : CtP l yX8_lawOn cX8_lawOn 3 (some (.object "PeatBog$Law")) (rK 0) D cy X ad ZB M [.ref (ad 0), .int a] (fun v M1 => ∃ j : Nat, v = some (.ref (ad j)) ∧ LawZ j ∧ M1 = M) := by
  refine Ctr.of (by decide +kernel) (Nat.le_of_ble_eq_true rfl) ?_
  intro K f q hnm hl0 hD0 hy0 hX0
  show V K ad 0 0 ZB M 0 [(0, .ref (ad 0)), (1, .int a)] []
  have loop : ∀ (n : Nat) (x : Int32), (x.toInt + 1 = (n : Int) ∧ n ≤ 8) → V K ad 0 0 ZB M 7 [(2, .int x), (0, .ref (ad 0)), (1, .int a)] [] := by
    intro n
    induction n using Nat.strongRecOn with
    | ind n ih =>
      intro x hx
      refine V_iload_n f dX8_lawOn_7 0 rfl ?_
      refine V_if_lt (tgt := 37) f dX8_lawOn_8 (by decide) (fun c1 => ?_) (fun c1 => ?_)
      · refine V_aload_n f dX8_lawOn_37 1 rfl ?_
        refine V_getR f dX8_lawOn_38 lf_8_28 rfl zb_0 rfl ?_
        exact V_aret f q dX8_lawOn_41 (Nat.zero_le _) (Nat.zero_le _) ⟨rfl, rfl, 4, rfl, zNo, rfl⟩
      · refine V_aload_n f dX8_lawOn_11 1 rfl ?_
        refine V_getR f dX8_lawOn_12 lf_8_23 rfl zb_0 rfl ?_
        refine V_iload_n f dX8_lawOn_15 0 rfl ?_
        refine V_aald (t0 := 4) f dX8_lawOn_16 zb_3 (by decide) rfl (lv8 c1 hx) (eLaw (vlt (lv8 c1 hx))) ?_
        refine V_getE (x := M (54 + 10 * Int32.toNatClampNeg x) 1) f dX8_lawOn_17 lf_8_240 rfl (zL (zLw (vlt (lv8 c1 hx)))) rfl ?_
        refine V_iload_n f dX8_lawOn_20 2 rfl ?_
        refine V_icmp_gt (tgt := 31) f dX8_lawOn_21 (by decide) (fun c2 => ?_) (fun c2 => ?_)
        · refine V_iinc (v := x + (-1)) f dX8_lawOn_31 0 rfl rfl (by decide) rfl ?_
          refine V_goto (tgt := 7) f dX8_lawOn_34 (by decide) ?_
          obtain ⟨k9, e9, y1⟩ := lv8d c1 hx
          exact ih k9 (by omega) (x + (-1)) y1
        · refine V_aload_n f dX8_lawOn_24 1 rfl ?_
          refine V_getR f dX8_lawOn_25 lf_8_23 rfl zb_0 rfl ?_
          refine V_iload_n f dX8_lawOn_28 0 rfl ?_
          refine V_aald (t0 := 4) f dX8_lawOn_29 zb_3 (by decide) rfl (lv8 c1 hx) (eLaw (vlt (lv8 c1 hx))) ?_
          exact V_aret f q dX8_lawOn_30 (Nat.zero_le _) (Nat.zero_le _) ⟨rfl, rfl, (54 + 10 * Int32.toNatClampNeg x), rfl, zLw (vlt (lv8 c1 hx)), rfl⟩
  refine V_aload_n f dX8_lawOn_0 0 rfl ?_
  refine V_getE (x := M 0 9) f dX8_lawOn_1 lf_8_66 rfl zb_0 rfl ?_
  refine V_iconst (v := 1) f dX8_lawOn_4 (by decide) ?_
  refine V_isub f dX8_lawOn_5 ?_
  refine V_istore_n f dX8_lawOn_6 rfl (by decide) rfl ?_
  exact loop _ _ (lv8s hI.2.1)

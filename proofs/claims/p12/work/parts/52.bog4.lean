/-- the cells that only feed and law change (noLaw, tape, reader, tokens, laws); those that the readers keep; those that the others may change -/
def dP (i : Nat) : Prop := (4 ≤ i ∧ i ≤ 13) ∨ (15 ≤ i ∧ i ≤ 21) ∨ 54 ≤ i
def rP (i : Nat) : Prop := i = 15 ∨ i = 16
def nrD (i : Nat) : Prop := i = 14 ∨ (22 ≤ i ∧ i ≤ 53)
/-- kept by most calls: InvB, the number of STACKS, TODAY, where the TRACK is, the number of LAWS, the fault, the cells of P -/
def Kp (P : Nat → Prop) (M M1 : MT) : Prop := InvB M1 ∧ M1 0 8 = M 0 8 ∧ M1 0 10 = M 0 10 ∧ M1 0 11 = M 0 11 ∧ M1 0 9 = M 0 9 ∧ M1 0 14 = M 0 14 ∧ ∀ i, P i → M1 i = M i
theorem Kp_refl {P : Nat → Prop} {M : MT} (h : InvB M) : Kp P M M := ⟨h, rfl, rfl, rfl, rfl, rfl, fun _ _ => rfl⟩
theorem upo {M : MT} {i j k : Nat} {v : Int32} (h : ¬ j = i) : up2 M i k v j = M j := by simp only [up2, va_up]; rw [if_neg h]
theorem nrDB {i : Nat} (h : nrD i) : nrB i := by unfold nrD at h; unfold nrB; omega
theorem Kp_nr {M M1 : MT} (h : Kp dP M M1) {i : Nat} (hi : nrD i) (k : Nat) (v : Int32) : Kp dP M (up2 M1 i k v) := by
  have h0 : ¬ 0 = i := by unfold nrD at hi; omega
  exact ⟨InvB_nr h.1 (nrDB hi) k v, up_c h0 h.2.1, up_c h0 h.2.2.1, up_c h0 h.2.2.2.1, up_c h0 h.2.2.2.2.1, up_c h0 h.2.2.2.2.2.1, fun j hj => (upo (by unfold nrD at hi; unfold dP at hj; omega)).trans (h.2.2.2.2.2.2 j hj)⟩
theorem nr28 {b : Nat} (h : b < 16) : nrD (28 + b) := by unfold nrD; omega
theorem nr44 {b : Nat} (h : b < 10) : nrD (44 + b) := by unfold nrD; omega
theorem Kp_loosen {M M1 : MT} (h : Kp dP M M1) {b : Nat} (hb : b < 16) (a : Int32) : Kp dP M (s_X0_loosen M1 (28 + b) a) := Kp_nr (Kp_nr (Kp_nr (Kp_nr h (nr28 hb) _ _) (nr28 hb) _ _) (nr28 hb) _ _) (nr28 hb) _ _
theorem Kp_clear {M M1 : MT} (h : Kp dP M M1) {b : Nat} (hb : b < 16) : Kp dP M (s_X0_clear M1 (28 + b)) := Kp_nr (Kp_nr (Kp_nr (Kp_nr h (nr28 hb) _ _) (nr28 hb) _ _) (nr28 hb) _ _) (nr28 hb) _ _

theorem Kp_sadd {M M1 : MT} (h : Kp dP M M1) {b : Nat} (hb : b < 10) (x y : Int32) : Kp dP M (s_X5_add M1 (44 + b) x y) := by
  unfold s_X5_add
  split
  · exact Kp_nr (h) (nr44 hb) _ _
  · exact Kp_nr (Kp_nr (h) (nr44 hb) _ _) (nr44 hb) _ _
theorem vinN {x c : Int32} {n : Nat} (h0 : 0 ≤ x.toInt) (h : ¬ c ≤ x) (hc : c.toInt ≤ n) : vp_in x n := by
  rw [Int32.le_iff_toInt_le] at h
  rw [vp_in_iff]; omega
theorem nz_pos {x : Int32} (h : 0 < x) : ¬ x = 0 := fun e => by rw [e] at h; exact absurd h (by decide)
set_option maxHeartbeats 4000000 in
set_option maxRecDepth 100000 in
theorem c3_X8_mill (l : Launch) (D : va_G) (cy : Nat → ClassId) (X : va_W) (ad : Nat → Nat) (M : MT) (b : Int32) (e : Int32) (hI : InvB M) : CtP l yX8_mill cX8_mill 4 (some .int) (rK 3) D cy X ad ZB M [.ref (ad 0), .int b, .int e] (fun v M1 => (∃ r : Int32, v = some (.int r)) ∧ Kp dP M M1) := by
  refine Ctr.of (by decide +kernel) (Nat.le_of_ble_eq_true rfl) ?_
  intro K f q hnm hl0 hD0 hy0 hX0
  show V K ad 0 0 ZB M 0 [(0, .ref (ad 0)), (1, .int b), (2, .int e)] []
  refine V_iload_n f dX8_mill_0 1 rfl ?_
  refine V_cSi (As := [.int b]) (rest := []) f dX8_mill_1 lk_X8_86 ml_X8_86 sta_X8_isBay (c_X8_isBay (kl K) (kD K) (ky K) (kX K) ad M b) rfl (Nat.le_of_ble_eq_true rfl) rfl ⟨by decide, by decide⟩ ⟨Nat.zero_le _, Nat.zero_le _⟩ rfl rfl ?_
  refine V_if_eq (tgt := 17) f dX8_mill_4 (by decide) (fun c1 => ?_) (fun c1 => ?_)
  · refine V_bipush (v := (-2)) f dX8_mill_17 (by decide) ?_
    exact V_iret f q dX8_mill_19 rfl (Nat.zero_le _) (Nat.zero_le _) ⟨rfl, rfl, ⟨(-2), rfl⟩, Kp_refl hI⟩
  · refine V_iload_n f dX8_mill_7 2 rfl ?_
    refine V_iconst (v := 1) f dX8_mill_8 (by decide) ?_
    refine V_bipush (v := 20) f dX8_mill_9 (by decide) ?_
    refine V_cSi (As := [.int e, .int 1, .int 20]) (rest := []) f dX8_mill_11 lk_X8_90 ml_X8_90 sta_X8_within (c_X8_within (kl K) (kD K) (ky K) (kX K) ad M e 1 20) rfl (Nat.le_of_ble_eq_true rfl) rfl ⟨by decide, by decide⟩ ⟨Nat.zero_le _, Nat.zero_le _⟩ rfl rfl ?_
    refine V_if_ne (tgt := 20) f dX8_mill_14 (by decide) (fun c2 => ?_) (fun c2 => ?_)
    · refine V_aload_n f dX8_mill_20 0 rfl ?_
      refine V_getR f dX8_mill_21 lf_8_11 rfl zb_0 rfl ?_
      refine V_iload_n f dX8_mill_24 1 rfl ?_
      refine V_aald (t0 := 3) f dX8_mill_25 zb_1 (by decide) rfl (isBay_in c1) (eBay (vlt (isBay_in c1))) ?_
      refine V_cVi (As := []) (rest := []) f dX8_mill_26 lk_X8_94 ml_X8_94 ins_X0_lies sel_X0_lies (zBay (vlt (isBay_in c1))) (by decide) rfl (c_X0_lies (kl K) (kD K) (ky K) (kX K) ad M (28 + Int32.toNatClampNeg b) (zBay (vlt (isBay_in c1)))) rfl (Nat.le_of_ble_eq_true rfl) rfl ⟨by decide, by decide⟩ ⟨Nat.zero_le _, Nat.zero_le _⟩ rfl rfl ?_
      refine V_if_eq (tgt := 35) f dX8_mill_29 (by decide) (fun c3 => ?_) (fun c3 => ?_)
      · refine V_aload_n f dX8_mill_35 0 rfl ?_
        refine V_aload_n f dX8_mill_36 0 rfl ?_
        refine V_getE (x := M 0 10) f dX8_mill_37 lf_8_69 rfl zb_0 rfl ?_
        refine V_cVp (As := [.int (M 0 10)]) (rest := []) f dX8_mill_40 lk_X8_101 ml_X8_101 ins_X8_lawOn sel_X8_lawOn zb_0 (by decide) rfl (c3_X8_lawOn _ _ _ _ ad M (M 0 10) hI) rfl (Nat.le_of_ble_eq_true rfl) rfl ⟨by decide, by decide⟩ ⟨Nat.zero_le _, Nat.zero_le _⟩ rfl rfl (fun v4 Mx4 hp4 => ?_)
        obtain ⟨j4, rfl, hj4, e4⟩ := hp4
        rw [e4]
        show V K ad 0 0 ZB M 43 [(0, .ref (ad 0)), (1, .int b), (2, .int e)] [.ref (ad j4)]
        refine V_astore_n f dX8_mill_43 rfl (by decide) rfl ?_
        refine V_aload_n f dX8_mill_44 0 rfl ?_
        refine V_iload_n f dX8_mill_45 2 rfl ?_
        refine V_aload_n f dX8_mill_46 1 rfl ?_
        refine V_getE (x := M 0 10) f dX8_mill_47 lf_8_69 rfl zb_0 rfl ?_
        refine V_cVp (As := [.int b, .int (M 0 10)]) (rest := []) f dX8_mill_50 lk_X8_105 ml_X8_105 ins_X1_closes sel_X1_closes (zL hj4) (by decide) rfl (c3_X1_closes _ _ _ _ ad M j4 b (M 0 10) hj4 (hI.2.2.2.2 _ hj4)) rfl (Nat.le_of_ble_eq_true rfl) rfl ⟨by decide, by decide⟩ ⟨Nat.zero_le _, Nat.zero_le _⟩ rfl rfl (fun v5 Mx5 hp5 => ?_)
        obtain ⟨r5, rfl, hr5, e5⟩ := hp5
        rw [e5]
        show V K ad 0 0 ZB M 53 [(3, .ref (ad j4)), (0, .ref (ad 0)), (1, .int b), (2, .int e)] [.int r5]
        refine V_if_eq (tgt := 59) f dX8_mill_53 (by decide) (fun c6 => ?_) (fun c6 => ?_)
        · refine V_aload_n f dX8_mill_59 1 rfl ?_
          refine V_getR f dX8_mill_60 lf_8_11 rfl zb_0 rfl ?_
          refine V_iload_n f dX8_mill_63 2 rfl ?_
          refine V_aald (t0 := 3) f dX8_mill_64 zb_1 (by decide) rfl (isBay_in c1) (eBay (vlt (isBay_in c1))) ?_
          refine V_getE (x := M (28 + Int32.toNatClampNeg b) 0) f dX8_mill_65 lf_8_98 rfl (zBay (vlt (isBay_in c1))) rfl ?_
          refine V_iload_n f dX8_mill_68 3 rfl ?_
          refine V_isub f dX8_mill_69 ?_
          refine V_aload_n f dX8_mill_70 0 rfl ?_
          refine V_getE (x := M j4 3) f dX8_mill_71 lf_8_109 rfl (zL hj4) rfl ?_
          refine V_icmp_ge (tgt := 80) f dX8_mill_74 (by decide) (fun c7 => ?_) (fun c7 => ?_)
          · refine V_aload_n f dX8_mill_80 1 rfl ?_
            refine V_getR f dX8_mill_81 lf_8_11 rfl zb_0 rfl ?_
            refine V_iload_n f dX8_mill_84 2 rfl ?_
            refine V_aald (t0 := 3) f dX8_mill_85 zb_1 (by decide) rfl (isBay_in c1) (eBay (vlt (isBay_in c1))) ?_
            refine V_iload_n f dX8_mill_86 3 rfl ?_
            refine V_cVv (As := [.int e]) (rest := []) f dX8_mill_87 lk_X8_112 ml_X8_112 ins_X0_loosen sel_X0_loosen (zBay (vlt (isBay_in c1))) (by decide) rfl (c_X0_loosen (kl K) (kD K) (ky K) (kX K) ad M (28 + Int32.toNatClampNeg b) e (zBay (vlt (isBay_in c1)))) rfl (Nat.le_of_ble_eq_true rfl) rfl ⟨by decide, by decide⟩ ⟨Nat.zero_le _, Nat.zero_le _⟩ rfl rfl ?_
            refine V_iconst (v := 0) f dX8_mill_90 (by decide) ?_
            exact V_iret f q dX8_mill_91 rfl (Nat.zero_le _) (Nat.zero_le _) ⟨rfl, rfl, ⟨0, rfl⟩, Kp_loosen (Kp_refl hI) (vlt (isBay_in c1)) _⟩
          · refine V_bipush (v := (-5)) f dX8_mill_77 (by decide) ?_
            exact V_iret f q dX8_mill_79 rfl (Nat.zero_le _) (Nat.zero_le _) ⟨rfl, rfl, ⟨(-5), rfl⟩, Kp_refl hI⟩
        · refine V_bipush (v := (-4)) f dX8_mill_56 (by decide) ?_
          exact V_iret f q dX8_mill_58 rfl (Nat.zero_le _) (Nat.zero_le _) ⟨rfl, rfl, ⟨(-4), rfl⟩, Kp_refl hI⟩
      · refine V_bipush (v := (-3)) f dX8_mill_32 (by decide) ?_
        exact V_iret f q dX8_mill_34 rfl (Nat.zero_le _) (Nat.zero_le _) ⟨rfl, rfl, ⟨(-3), rfl⟩, Kp_refl hI⟩
    · refine V_bipush (v := (-2)) f dX8_mill_17 (by decide) ?_
      exact V_iret f q dX8_mill_19 rfl (Nat.zero_le _) (Nat.zero_le _) ⟨rfl, rfl, ⟨(-2), rfl⟩, Kp_refl hI⟩
set_option maxHeartbeats 4000000 in
set_option maxRecDepth 100000 in
theorem c3_X8_bars (l : Launch) (D : va_G) (cy : Nat → ClassId) (X : va_W) (ad : Nat → Nat) (M : MT) (b : Int32) (hI : InvB M) : CtP l yX8_bars cX8_bars 3 (some .int) (rK 3) D cy X ad ZB M [.ref (ad 0), .int b] (fun v M1 => (∃ r : Int32, v = some (.int r)) ∧ M1 = M) := by
  refine Ctr.of (by decide +kernel) (Nat.le_of_ble_eq_true rfl) ?_
  intro K f q hnm hl0 hD0 hy0 hX0
  show V K ad 0 0 ZB M 0 [(0, .ref (ad 0)), (1, .int b)] []
  refine V_iload_n f dX8_bars_0 1 rfl ?_
  refine V_cSi (As := [.int b]) (rest := []) f dX8_bars_1 lk_X8_86 ml_X8_86 sta_X8_isBay (c_X8_isBay (kl K) (kD K) (ky K) (kX K) ad M b) rfl (Nat.le_of_ble_eq_true rfl) rfl ⟨by decide, by decide⟩ ⟨Nat.zero_le _, Nat.zero_le _⟩ rfl rfl ?_
  refine V_if_eq (tgt := 19) f dX8_bars_4 (by decide) (fun c1 => ?_) (fun c1 => ?_)
  · refine V_iconst (v := 1) f dX8_bars_19 (by decide) ?_
    exact V_iret f q dX8_bars_20 rfl (Nat.zero_le _) (Nat.zero_le _) ⟨rfl, rfl, ⟨1, rfl⟩, rfl⟩
  · refine V_aload_n f dX8_bars_7 0 rfl ?_
    refine V_getR f dX8_bars_8 lf_8_11 rfl zb_0 rfl ?_
    refine V_iload_n f dX8_bars_11 1 rfl ?_
    refine V_aald (t0 := 3) f dX8_bars_12 zb_1 (by decide) rfl (isBay_in c1) (eBay (vlt (isBay_in c1))) ?_
    refine V_cVi (As := []) (rest := []) f dX8_bars_13 lk_X8_94 ml_X8_94 ins_X0_lies sel_X0_lies (zBay (vlt (isBay_in c1))) (by decide) rfl (c_X0_lies (kl K) (kD K) (ky K) (kX K) ad M (28 + Int32.toNatClampNeg b) (zBay (vlt (isBay_in c1)))) rfl (Nat.le_of_ble_eq_true rfl) rfl ⟨by decide, by decide⟩ ⟨Nat.zero_le _, Nat.zero_le _⟩ rfl rfl ?_
    refine V_if_ne (tgt := 21) f dX8_bars_16 (by decide) (fun c2 => ?_) (fun c2 => ?_)
    · refine V_aload_n f dX8_bars_21 0 rfl ?_
      refine V_aload_n f dX8_bars_22 0 rfl ?_
      refine V_getE (x := M 0 10) f dX8_bars_23 lf_8_69 rfl zb_0 rfl ?_
      refine V_cVp (As := [.int (M 0 10)]) (rest := []) f dX8_bars_26 lk_X8_101 ml_X8_101 ins_X8_lawOn sel_X8_lawOn zb_0 (by decide) rfl (c3_X8_lawOn _ _ _ _ ad M (M 0 10) hI) rfl (Nat.le_of_ble_eq_true rfl) rfl ⟨by decide, by decide⟩ ⟨Nat.zero_le _, Nat.zero_le _⟩ rfl rfl (fun v3 Mx3 hp3 => ?_)
      obtain ⟨j3, rfl, hj3, e3⟩ := hp3
      rw [e3]
      show V K ad 0 0 ZB M 29 [(0, .ref (ad 0)), (1, .int b)] [.ref (ad j3)]
      refine V_astore_n f dX8_bars_29 rfl (by decide) rfl ?_
      refine V_aload_n f dX8_bars_30 0 rfl ?_
      refine V_iload_n f dX8_bars_31 2 rfl ?_
      refine V_aload_n f dX8_bars_32 1 rfl ?_
      refine V_getE (x := M 0 10) f dX8_bars_33 lf_8_69 rfl zb_0 rfl ?_
      refine V_cVp (As := [.int b, .int (M 0 10)]) (rest := []) f dX8_bars_36 lk_X8_105 ml_X8_105 ins_X1_closes sel_X1_closes (zL hj3) (by decide) rfl (c3_X1_closes _ _ _ _ ad M j3 b (M 0 10) hj3 (hI.2.2.2.2 _ hj3)) rfl (Nat.le_of_ble_eq_true rfl) rfl ⟨by decide, by decide⟩ ⟨Nat.zero_le _, Nat.zero_le _⟩ rfl rfl (fun v4 Mx4 hp4 => ?_)
      obtain ⟨r4, rfl, hr4, e4⟩ := hp4
      rw [e4]
      show V K ad 0 0 ZB M 39 [(2, .ref (ad j3)), (0, .ref (ad 0)), (1, .int b)] [.int r4]
      refine V_if_eq (tgt := 44) f dX8_bars_39 (by decide) (fun c5 => ?_) (fun c5 => ?_)
      · refine V_iload_n f dX8_bars_44 2 rfl ?_
        refine V_aload_n f dX8_bars_45 1 rfl ?_
        refine V_getE (x := M 0 11) f dX8_bars_46 lf_8_72 rfl zb_0 rfl ?_
        refine V_isub f dX8_bars_49 ?_
        refine V_mabs f dX8_bars_50 ml_X8_129 ma_abs ma_ini mc_abs (by decide) (Nat.le_of_ble_eq_true rfl) (Nat.zero_le _) (Nat.zero_le _) ?_
        refine V_iconst (v := 1) f dX8_bars_53 (by decide) ?_
        refine V_icmp_le (tgt := 59) f dX8_bars_54 (by decide) (fun c6 => ?_) (fun c6 => ?_)
        · refine V_aload_n f dX8_bars_59 1 rfl ?_
          refine V_getR f dX8_bars_60 lf_8_11 rfl zb_0 rfl ?_
          refine V_iload_n f dX8_bars_63 2 rfl ?_
          refine V_aald (t0 := 3) f dX8_bars_64 zb_1 (by decide) rfl (isBay_in c1) (eBay (vlt (isBay_in c1))) ?_
          refine V_getE (x := M (28 + Int32.toNatClampNeg b) 4) f dX8_bars_65 lf_8_134 rfl (zBay (vlt (isBay_in c1))) rfl ?_
          refine V_iconst (v := 3) f dX8_bars_68 (by decide) ?_
          refine V_icmp_ge (tgt := 74) f dX8_bars_69 (by decide) (fun c7 => ?_) (fun c7 => ?_)
          · refine V_aload_n f dX8_bars_74 1 rfl ?_
            refine V_getR f dX8_bars_75 lf_8_11 rfl zb_0 rfl ?_
            refine V_iload_n f dX8_bars_78 2 rfl ?_
            refine V_aald (t0 := 3) f dX8_bars_79 zb_1 (by decide) rfl (isBay_in c1) (eBay (vlt (isBay_in c1))) ?_
            refine V_getE (x := M (28 + Int32.toNatClampNeg b) 5) f dX8_bars_80 lf_8_137 rfl (zBay (vlt (isBay_in c1))) rfl ?_
            refine V_aload_n f dX8_bars_83 0 rfl ?_
            refine V_getE (x := M j3 2) f dX8_bars_84 lf_8_140 rfl (zL hj3) rfl ?_
            refine V_icmp_le (tgt := 94) f dX8_bars_87 (by decide) (fun c8 => ?_) (fun c8 => ?_)
            · refine V_iconst (v := 0) f dX8_bars_94 (by decide) ?_
              exact V_iret f q dX8_bars_95 rfl (Nat.zero_le _) (Nat.zero_le _) ⟨rfl, rfl, ⟨0, rfl⟩, rfl⟩
            · refine V_iconst (v := 5) f dX8_bars_90 (by decide) ?_
              refine V_goto (tgt := 95) f dX8_bars_91 (by decide) ?_
              exact V_iret f q dX8_bars_95 rfl (Nat.zero_le _) (Nat.zero_le _) ⟨rfl, rfl, ⟨5, rfl⟩, rfl⟩
          · refine V_iconst (v := 4) f dX8_bars_72 (by decide) ?_
            exact V_iret f q dX8_bars_73 rfl (Nat.zero_le _) (Nat.zero_le _) ⟨rfl, rfl, ⟨4, rfl⟩, rfl⟩
        · refine V_iconst (v := 3) f dX8_bars_57 (by decide) ?_
          exact V_iret f q dX8_bars_58 rfl (Nat.zero_le _) (Nat.zero_le _) ⟨rfl, rfl, ⟨3, rfl⟩, rfl⟩
      · refine V_iconst (v := 2) f dX8_bars_42 (by decide) ?_
        exact V_iret f q dX8_bars_43 rfl (Nat.zero_le _) (Nat.zero_le _) ⟨rfl, rfl, ⟨2, rfl⟩, rfl⟩
    · refine V_iconst (v := 1) f dX8_bars_19 (by decide) ?_
      exact V_iret f q dX8_bars_20 rfl (Nat.zero_le _) (Nat.zero_le _) ⟨rfl, rfl, ⟨1, rfl⟩, rfl⟩
set_option maxHeartbeats 4000000 in
set_option maxRecDepth 100000 in
theorem c3_X8_gather (l : Launch) (D : va_G) (cy : Nat → ClassId) (X : va_W) (ad : Nat → Nat) (M : MT) (b : Int32) (e : Int32) (hI : InvB M) : CtP l yX8_gather cX8_gather 4 (some .int) (rK 4) D cy X ad ZB M [.ref (ad 0), .int b, .int e] (fun v M1 => (∃ r : Int32, v = some (.int r)) ∧ Kp dP M M1) := by
  refine Ctr.of (by decide +kernel) (Nat.le_of_ble_eq_true rfl) ?_
  intro K f q hnm hl0 hD0 hy0 hX0
  show V K ad 0 0 ZB M 0 [(0, .ref (ad 0)), (1, .int b), (2, .int e)] []
  refine V_iload_n f dX8_gather_0 1 rfl ?_
  refine V_cSi (As := [.int b]) (rest := []) f dX8_gather_1 lk_X8_86 ml_X8_86 sta_X8_isBay (c_X8_isBay (kl K) (kD K) (ky K) (kX K) ad M b) rfl (Nat.le_of_ble_eq_true rfl) rfl ⟨by decide, by decide⟩ ⟨Nat.zero_le _, Nat.zero_le _⟩ rfl rfl ?_
  refine V_if_eq (tgt := 35) f dX8_gather_4 (by decide) (fun c1 => ?_) (fun c1 => ?_)
  · refine V_iconst (v := (-1)) f dX8_gather_35 (by decide) ?_
    exact V_iret f q dX8_gather_36 rfl (Nat.zero_le _) (Nat.zero_le _) ⟨rfl, rfl, ⟨(-1), rfl⟩, Kp_refl hI⟩
  · refine V_aload_n f dX8_gather_7 0 rfl ?_
    refine V_iload_n f dX8_gather_8 1 rfl ?_
    refine V_cVp (As := [.int b]) (rest := []) f dX8_gather_9 lk_X8_143 ml_X8_143 ins_X8_bars sel_X8_bars zb_0 (by decide) rfl (c3_X8_bars _ _ _ _ ad M b hI) rfl (Nat.le_of_ble_eq_true rfl) rfl ⟨by decide, by decide⟩ ⟨Nat.zero_le _, Nat.zero_le _⟩ rfl rfl (fun v2 Mx2 hp2 => ?_)
    obtain ⟨⟨r2, rfl⟩, e2⟩ := hp2
    rw [e2]
    show V K ad 0 0 ZB M 12 [(0, .ref (ad 0)), (1, .int b), (2, .int e)] [.int r2]
    refine V_if_ne (tgt := 35) f dX8_gather_12 (by decide) (fun c3 => ?_) (fun c3 => ?_)
    · refine V_iconst (v := (-1)) f dX8_gather_35 (by decide) ?_
      exact V_iret f q dX8_gather_36 rfl (Nat.zero_le _) (Nat.zero_le _) ⟨rfl, rfl, ⟨(-1), rfl⟩, Kp_refl hI⟩
    · refine V_aload_n f dX8_gather_15 0 rfl ?_
      refine V_iload_n f dX8_gather_16 2 rfl ?_
      refine V_cVi (As := [.int e]) (rest := []) f dX8_gather_17 lk_X8_146 ml_X8_146 ins_X8_isStack sel_X8_isStack zb_0 (by decide) rfl (c_X8_isStack (kl K) (kD K) (ky K) (kX K) ad M e) rfl (Nat.le_of_ble_eq_true rfl) rfl ⟨by decide, by decide⟩ ⟨Nat.zero_le _, Nat.zero_le _⟩ rfl rfl ?_
      refine V_if_eq (tgt := 35) f dX8_gather_20 (by decide) (fun c4 => ?_) (fun c4 => ?_)
      · refine V_iconst (v := (-1)) f dX8_gather_35 (by decide) ?_
        exact V_iret f q dX8_gather_36 rfl (Nat.zero_le _) (Nat.zero_le _) ⟨rfl, rfl, ⟨(-1), rfl⟩, Kp_refl hI⟩
      · refine V_aload_n f dX8_gather_23 0 rfl ?_
        refine V_getR f dX8_gather_24 lf_8_17 rfl zb_0 rfl ?_
        refine V_iload_n f dX8_gather_27 2 rfl ?_
        refine V_aald (t0 := 5) f dX8_gather_28 zb_2 (by decide) rfl (isStack_in hI c4) (eStk (vlt (isStack_in hI c4))) ?_
        refine V_cVi (As := []) (rest := []) f dX8_gather_29 lk_X8_149 ml_X8_149 ins_X5_takesPeat sel_X5_takesPeat (zStk (vlt (isStack_in hI c4))) (by decide) rfl (c_X5_takesPeat (kl K) (kD K) (ky K) (kX K) ad M (44 + Int32.toNatClampNeg e) (zStk (vlt (isStack_in hI c4)))) rfl (Nat.le_of_ble_eq_true rfl) rfl ⟨by decide, by decide⟩ ⟨Nat.zero_le _, Nat.zero_le _⟩ rfl rfl ?_
        refine V_if_ne (tgt := 37) f dX8_gather_32 (by decide) (fun c5 => ?_) (fun c5 => ?_)
        · refine V_aload_n f dX8_gather_37 0 rfl ?_
          refine V_getR f dX8_gather_38 lf_8_11 rfl zb_0 rfl ?_
          refine V_iload_n f dX8_gather_41 1 rfl ?_
          refine V_aald (t0 := 3) f dX8_gather_42 zb_1 (by decide) rfl (isBay_in c1) (eBay (vlt (isBay_in c1))) ?_
          refine V_getE (x := M (28 + Int32.toNatClampNeg b) 2) f dX8_gather_43 lf_8_152 rfl (zBay (vlt (isBay_in c1))) rfl ?_
          refine V_istore_n f dX8_gather_46 rfl (by decide) rfl ?_
          refine V_aload_n f dX8_gather_47 1 rfl ?_
          refine V_getR f dX8_gather_48 lf_8_17 rfl zb_0 rfl ?_
          refine V_iload_n f dX8_gather_51 3 rfl ?_
          refine V_aald (t0 := 5) f dX8_gather_52 zb_2 (by decide) rfl (isStack_in hI c4) (eStk (vlt (isStack_in hI c4))) ?_
          refine V_iload_n f dX8_gather_53 0 rfl ?_
          refine V_aload_n f dX8_gather_54 1 rfl ?_
          refine V_getR f dX8_gather_55 lf_8_11 rfl zb_0 rfl ?_
          refine V_iload_n f dX8_gather_58 2 rfl ?_
          refine V_aald (t0 := 3) f dX8_gather_59 zb_1 (by decide) rfl (isBay_in c1) (eBay (vlt (isBay_in c1))) ?_
          refine V_getE (x := M (28 + Int32.toNatClampNeg b) 3) f dX8_gather_60 lf_8_155 rfl (zBay (vlt (isBay_in c1))) rfl ?_
          refine V_cVv (As := [.int (M (28 + Int32.toNatClampNeg b) 2), .int (M (28 + Int32.toNatClampNeg b) 3)]) (rest := []) f dX8_gather_63 lk_X8_158 ml_X8_158 ins_X5_add sel_X5_add (zStk (vlt (isStack_in hI c4))) (by decide) rfl (c_X5_add (kl K) (kD K) (ky K) (kX K) ad M (44 + Int32.toNatClampNeg e) (M (28 + Int32.toNatClampNeg b) 2) (M (28 + Int32.toNatClampNeg b) 3) (zStk (vlt (isStack_in hI c4)))) rfl (Nat.le_of_ble_eq_true rfl) rfl ⟨by decide, by decide⟩ ⟨Nat.zero_le _, Nat.zero_le _⟩ rfl rfl ?_
          refine V_aload_n f dX8_gather_66 1 rfl ?_
          refine V_getR f dX8_gather_67 lf_8_11 rfl zb_0 rfl ?_
          refine V_iload_n f dX8_gather_70 2 rfl ?_
          refine V_aald (t0 := 3) f dX8_gather_71 zb_1 (by decide) rfl (isBay_in c1) (eBay (vlt (isBay_in c1))) ?_
          refine V_cVv (As := []) (rest := []) f dX8_gather_72 lk_X8_162 ml_X8_162 ins_X0_clear sel_X0_clear (zBay (vlt (isBay_in c1))) (by decide) rfl (c_X0_clear (kl K) (kD K) (ky K) (kX K) ad (s_X5_add M (44 + Int32.toNatClampNeg e) (M (28 + Int32.toNatClampNeg b) 2) (M (28 + Int32.toNatClampNeg b) 3)) (28 + Int32.toNatClampNeg b) (zBay (vlt (isBay_in c1)))) rfl (Nat.le_of_ble_eq_true rfl) rfl ⟨by decide, by decide⟩ ⟨Nat.zero_le _, Nat.zero_le _⟩ rfl rfl ?_
          refine V_iload_n f dX8_gather_75 0 rfl ?_
          exact V_iret f q dX8_gather_76 rfl (Nat.zero_le _) (Nat.zero_le _) ⟨rfl, rfl, ⟨M (28 + Int32.toNatClampNeg b) 2, rfl⟩, Kp_clear (Kp_sadd (Kp_refl hI) (vlt (isStack_in hI c4)) _ _) (vlt (isBay_in c1))⟩
        · refine V_iconst (v := (-1)) f dX8_gather_35 (by decide) ?_
          exact V_iret f q dX8_gather_36 rfl (Nat.zero_le _) (Nat.zero_le _) ⟨rfl, rfl, ⟨(-1), rfl⟩, Kp_refl hI⟩
set_option maxHeartbeats 4000000 in
set_option maxRecDepth 100000 in
theorem c3_X8_tells (l : Launch) (D : va_G) (cy : Nat → ClassId) (X : va_W) (ad : Nat → Nat) (M : MT) (a : Int32) (e : Int32) (hI : InvB M) : CtP l yX8_tells cX8_tells 4 (some .int) (rK 3) D cy X ad ZB M [.ref (ad 0), .int a, .int e] (fun v M1 => (∃ r : Int32, v = some (.int r)) ∧ M1 = M) := by
  refine Ctr.of (by decide +kernel) (Nat.le_of_ble_eq_true rfl) ?_
  intro K f q hnm hl0 hD0 hy0 hX0
  show V K ad 0 0 ZB M 0 [(0, .ref (ad 0)), (1, .int a), (2, .int e)] []
  refine V_iload_n f dX8_tells_0 1 rfl ?_
  refine V_iconst (v := 0) f dX8_tells_1 (by decide) ?_
  refine V_sipush (v := 1000) f dX8_tells_2 (by decide) ?_
  refine V_cSi (As := [.int a, .int 0, .int 1000]) (rest := []) f dX8_tells_5 lk_X8_90 ml_X8_90 sta_X8_within (c_X8_within (kl K) (kD K) (ky K) (kX K) ad M a 0 1000) rfl (Nat.le_of_ble_eq_true rfl) rfl ⟨by decide, by decide⟩ ⟨Nat.zero_le _, Nat.zero_le _⟩ rfl rfl ?_
  refine V_if_ne (tgt := 13) f dX8_tells_8 (by decide) (fun c1 => ?_) (fun c1 => ?_)
  · refine V_aload_n f dX8_tells_13 0 rfl ?_
    refine V_iload_n f dX8_tells_14 1 rfl ?_
    refine V_cVp (As := [.int a]) (rest := []) f dX8_tells_15 lk_X8_101 ml_X8_101 ins_X8_lawOn sel_X8_lawOn zb_0 (by decide) rfl (c3_X8_lawOn _ _ _ _ ad M a hI) rfl (Nat.le_of_ble_eq_true rfl) rfl ⟨by decide, by decide⟩ ⟨Nat.zero_le _, Nat.zero_le _⟩ rfl rfl (fun v2 Mx2 hp2 => ?_)
    obtain ⟨j2, rfl, hj2, e2⟩ := hp2
    rw [e2]
    show V K ad 0 0 ZB M 18 [(0, .ref (ad 0)), (1, .int a), (2, .int e)] [.ref (ad j2)]
    refine V_astore_n f dX8_tells_18 rfl (by decide) rfl ?_
    refine V_iload_n f dX8_tells_19 3 rfl ?_
    refine V_bipush (v := 10) f dX8_tells_20 (by decide) ?_
    refine V_bipush (v := 25) f dX8_tells_22 (by decide) ?_
    refine V_cSi (As := [.int e, .int 10, .int 25]) (rest := []) f dX8_tells_24 lk_X8_90 ml_X8_90 sta_X8_within (c_X8_within (kl K) (kD K) (ky K) (kX K) ad M e 10 25) rfl (Nat.le_of_ble_eq_true rfl) rfl ⟨by decide, by decide⟩ ⟨Nat.zero_le _, Nat.zero_le _⟩ rfl rfl ?_
    refine V_if_eq (tgt := 48) f dX8_tells_27 (by decide) (fun c3 => ?_) (fun c3 => ?_)
    · refine V_iload_n f dX8_tells_48 3 rfl ?_
      rcases Decidable.em (e = 0) with c4 | c4
      · refine V_tableIn (off := 27) (tgt := 76) f dX8_tells_49 (by rw [c4]; decide) (by rw [c4]; decide) (by rw [c4]; decide) (by decide) ?_
        refine V_aload_n f dX8_tells_76 0 rfl ?_
        refine V_getE (x := M j2 2) f dX8_tells_77 lf_8_140 rfl (zL hj2) rfl ?_
        exact V_iret f q dX8_tells_80 rfl (Nat.zero_le _) (Nat.zero_le _) ⟨rfl, rfl, ⟨(M j2 2), rfl⟩, rfl⟩
      rcases Decidable.em (e = 1) with c5 | c5
      · refine V_tableIn (off := 32) (tgt := 81) f dX8_tells_49 (by rw [c5]; decide) (by rw [c5]; decide) (by rw [c5]; decide) (by decide) ?_
        refine V_aload_n f dX8_tells_81 0 rfl ?_
        refine V_getE (x := M j2 3) f dX8_tells_82 lf_8_109 rfl (zL hj2) rfl ?_
        exact V_iret f q dX8_tells_85 rfl (Nat.zero_le _) (Nat.zero_le _) ⟨rfl, rfl, ⟨(M j2 3), rfl⟩, rfl⟩
      rcases Decidable.em (e = 2) with c6 | c6
      · refine V_tableIn (off := 37) (tgt := 86) f dX8_tells_49 (by rw [c6]; decide) (by rw [c6]; decide) (by rw [c6]; decide) (by decide) ?_
        refine V_aload_n f dX8_tells_86 0 rfl ?_
        refine V_getE (x := M j2 0) f dX8_tells_87 lf_8_202 rfl (zL hj2) rfl ?_
        exact V_iret f q dX8_tells_90 rfl (Nat.zero_le _) (Nat.zero_le _) ⟨rfl, rfl, ⟨(M j2 0), rfl⟩, rfl⟩
      refine V_tableOut (tgt := 91) f dX8_tells_49 (sw_out 0 2 3 [0, 1, 2] (by decide) (by decide) (List.forall_mem_cons.mpr ⟨c4, (List.forall_mem_cons.mpr ⟨c5, (List.forall_mem_cons.mpr ⟨c6, (fun _ h => absurd h List.not_mem_nil)⟩)⟩)⟩)) (by decide) ?_
      refine V_iconst (v := (-1)) f dX8_tells_91 (by decide) ?_
      exact V_iret f q dX8_tells_92 rfl (Nat.zero_le _) (Nat.zero_le _) ⟨rfl, rfl, ⟨(-1), rfl⟩, rfl⟩
    · refine V_aload_n f dX8_tells_30 0 rfl ?_
      refine V_iload_n f dX8_tells_31 3 rfl ?_
      refine V_bipush (v := 10) f dX8_tells_32 (by decide) ?_
      refine V_isub f dX8_tells_34 ?_
      refine V_iload_n f dX8_tells_35 2 rfl ?_
      refine V_cVp (As := [.int (e - 10), .int a]) (rest := []) f dX8_tells_36 lk_X8_105 ml_X8_105 ins_X1_closes sel_X1_closes (zL hj2) (by decide) rfl (c3_X1_closes _ _ _ _ ad M j2 (e - 10) a hj2 (hI.2.2.2.2 _ hj2)) rfl (Nat.le_of_ble_eq_true rfl) rfl ⟨by decide, by decide⟩ ⟨Nat.zero_le _, Nat.zero_le _⟩ rfl rfl (fun v7 Mx7 hp7 => ?_)
      obtain ⟨r7, rfl, hr7, e7⟩ := hp7
      rw [e7]
      show V K ad 0 0 ZB M 39 [(3, .ref (ad j2)), (0, .ref (ad 0)), (1, .int a), (2, .int e)] [.int r7]
      refine V_if_eq (tgt := 46) f dX8_tells_39 (by decide) (fun c8 => ?_) (fun c8 => ?_)
      · refine V_iconst (v := 0) f dX8_tells_46 (by decide) ?_
        exact V_iret f q dX8_tells_47 rfl (Nat.zero_le _) (Nat.zero_le _) ⟨rfl, rfl, ⟨0, rfl⟩, rfl⟩
      · refine V_iconst (v := 1) f dX8_tells_42 (by decide) ?_
        refine V_goto (tgt := 47) f dX8_tells_43 (by decide) ?_
        exact V_iret f q dX8_tells_47 rfl (Nat.zero_le _) (Nat.zero_le _) ⟨rfl, rfl, ⟨1, rfl⟩, rfl⟩
  · refine V_iconst (v := (-1)) f dX8_tells_11 (by decide) ?_
    exact V_iret f q dX8_tells_12 rfl (Nat.zero_le _) (Nat.zero_le _) ⟨rfl, rfl, ⟨(-1), rfl⟩, rfl⟩
set_option maxHeartbeats 4000000 in
set_option maxRecDepth 100000 in
theorem c3_X8_weightInStacks (l : Launch) (D : va_G) (cy : Nat → ClassId) (X : va_W) (ad : Nat → Nat) (M : MT) (hI : InvB M) : CtP l yX8_weightInStacks cX8_weightInStacks 3 (some .int) (rK 0) D cy X ad ZB M [.ref (ad 0)] (fun v M1 => (∃ r : Int32, v = some (.int r)) ∧ M1 = M) := by
  refine Ctr.of (by decide +kernel) (Nat.le_of_ble_eq_true rfl) ?_
  intro K f q hnm hl0 hD0 hy0 hX0
  show V K ad 0 0 ZB M 0 [(0, .ref (ad 0))] []
  have loop : ∀ (n : Nat) (x : Int32) (t1 : Int32), 0 ≤ x.toInt → x.toInt + (n : Nat) = 1000 → V K ad 0 0 ZB M 4 [(2, .int x), (1, .int t1), (0, .ref (ad 0))] [] := by
    intro  n
    induction n using Nat.strongRecOn with
    | ind n ih =>
      intro x t1 x0 hx
      refine V_iload_n f dX8_weightInStacks_4 0 rfl ?_
      refine V_aload_n f dX8_weightInStacks_5 2 rfl ?_
      refine V_getE (x := M 0 8) f dX8_weightInStacks_6 lf_8_62 rfl zb_0 rfl ?_
      refine V_icmp_ge (tgt := 30) f dX8_weightInStacks_9 (by decide) (fun c1 => ?_) (fun c1 => ?_)
      · refine V_iload_n f dX8_weightInStacks_30 1 rfl ?_
        exact V_iret f q dX8_weightInStacks_31 rfl (Nat.zero_le _) (Nat.zero_le _) ⟨rfl, rfl, ⟨t1, rfl⟩, rfl⟩
      · refine V_iload_n f dX8_weightInStacks_12 1 rfl ?_
        refine V_aload_n f dX8_weightInStacks_13 2 rfl ?_
        refine V_getR f dX8_weightInStacks_14 lf_8_17 rfl zb_0 rfl ?_
        refine V_iload_n f dX8_weightInStacks_17 0 rfl ?_
        refine V_aald (t0 := 5) f dX8_weightInStacks_18 zb_2 (by decide) rfl (vinN x0 c1 hI.1.2) (eStk (vlt (vinN x0 c1 hI.1.2))) ?_
        refine V_getE (x := M (44 + Int32.toNatClampNeg x) 0) f dX8_weightInStacks_19 lf_8_226 rfl (zStk (vlt (vinN x0 c1 hI.1.2))) rfl ?_
        refine V_iadd f dX8_weightInStacks_22 ?_
        refine V_istore_n f dX8_weightInStacks_23 rfl (by decide) rfl ?_
        refine V_iinc (v := x + 1) f dX8_weightInStacks_24 1 rfl rfl (by decide) rfl ?_
        refine V_goto (tgt := 4) f dX8_weightInStacks_27 (by decide) ?_
        obtain ⟨k9, e9, y0, y1⟩ := lo_inc x0 hx c1 (by have := hI.1.2; omega)
        exact ih k9 (by omega) (x + 1) _ y0 y1
  refine V_iconst (v := 0) f dX8_weightInStacks_0 (by decide) ?_
  refine V_istore_n f dX8_weightInStacks_1 rfl (by decide) rfl ?_
  refine V_iconst (v := 0) f dX8_weightInStacks_2 (by decide) ?_
  refine V_istore_n f dX8_weightInStacks_3 rfl (by decide) rfl ?_
  exact loop  1000 0 0 (by decide) (by decide)
set_option maxHeartbeats 4000000 in
set_option maxRecDepth 100000 in
theorem c3_X8_lasts (l : Launch) (D : va_G) (cy : Nat → ClassId) (X : va_W) (ad : Nat → Nat) (M : MT) (hI : InvB M) : CtP l yX8_lasts cX8_lasts 3 (some .int) (rK 0) D cy X ad ZB M [.ref (ad 0)] (fun v M1 => (∃ r : Int32, v = some (.int r)) ∧ M1 = M) := by
  refine Ctr.of (by decide +kernel) (Nat.le_of_ble_eq_true rfl) ?_
  intro K f q hnm hl0 hD0 hy0 hX0
  show V K ad 0 0 ZB M 0 [(0, .ref (ad 0))] []
  have loop : (0 < (M 14 0)) → ∀ (n : Nat) (x : Int32) (t1 : Int32), 0 ≤ x.toInt → x.toInt + (n : Nat) = 1000 → V K ad 0 0 ZB M 22 [(2, .int x), (1, .int t1), (0, .ref (ad 0))] [] := by
    intro c1 n
    induction n using Nat.strongRecOn with
    | ind n ih =>
      intro x t1 x0 hx
      refine V_iload_n f dX8_lasts_22 0 rfl ?_
      refine V_aload_n f dX8_lasts_23 2 rfl ?_
      refine V_getE (x := M 0 8) f dX8_lasts_24 lf_8_62 rfl zb_0 rfl ?_
      refine V_icmp_ge (tgt := 60) f dX8_lasts_27 (by decide) (fun c2 => ?_) (fun c2 => ?_)
      · refine V_iload_n f dX8_lasts_60 1 rfl ?_
        refine V_aload_n f dX8_lasts_61 2 rfl ?_
        refine V_getR f dX8_lasts_62 lf_8_35 rfl zb_0 rfl ?_
        refine V_getE (x := M 14 0) f dX8_lasts_65 lf_8_165 rfl zb_14 rfl ?_
        refine V_idiv f dX8_lasts_68 (nz_pos c1) ?_
        exact V_iret f q dX8_lasts_69 rfl (Nat.zero_le _) (Nat.zero_le _) ⟨rfl, rfl, ⟨(t1 / (M 14 0)), rfl⟩, rfl⟩
      · refine V_aload_n f dX8_lasts_30 2 rfl ?_
        refine V_getR f dX8_lasts_31 lf_8_17 rfl zb_0 rfl ?_
        refine V_iload_n f dX8_lasts_34 0 rfl ?_
        refine V_aald (t0 := 5) f dX8_lasts_35 zb_2 (by decide) rfl (vinN x0 c2 hI.1.2) (eStk (vlt (vinN x0 c2 hI.1.2))) ?_
        refine V_getE (x := M (44 + Int32.toNatClampNeg x) 4) f dX8_lasts_36 lf_8_222 rfl (zStk (vlt (vinN x0 c2 hI.1.2))) rfl ?_
        refine V_if_ne (tgt := 54) f dX8_lasts_39 (by decide) (fun c3 => ?_) (fun c3 => ?_)
        · refine V_iinc (v := x + 1) f dX8_lasts_54 0 rfl rfl (by decide) rfl ?_
          refine V_goto (tgt := 22) f dX8_lasts_57 (by decide) ?_
          obtain ⟨k9, e9, y0, y1⟩ := lo_inc x0 hx c2 (by have := hI.1.2; omega)
          exact ih k9 (by omega) (x + 1) _ y0 y1
        · refine V_iload_n f dX8_lasts_42 1 rfl ?_
          refine V_aload_n f dX8_lasts_43 2 rfl ?_
          refine V_getR f dX8_lasts_44 lf_8_17 rfl zb_0 rfl ?_
          refine V_iload_n f dX8_lasts_47 0 rfl ?_
          refine V_aald (t0 := 5) f dX8_lasts_48 zb_2 (by decide) rfl (vinN x0 c2 hI.1.2) (eStk (vlt (vinN x0 c2 hI.1.2))) ?_
          refine V_getE (x := M (44 + Int32.toNatClampNeg x) 0) f dX8_lasts_49 lf_8_226 rfl (zStk (vlt (vinN x0 c2 hI.1.2))) rfl ?_
          refine V_iadd f dX8_lasts_52 ?_
          refine V_istore_n f dX8_lasts_53 rfl (by decide) rfl ?_
          refine V_iinc (v := x + 1) f dX8_lasts_54 1 rfl rfl (by decide) rfl ?_
          refine V_goto (tgt := 22) f dX8_lasts_57 (by decide) ?_
          obtain ⟨k9, e9, y0, y1⟩ := lo_inc x0 hx c2 (by have := hI.1.2; omega)
          exact ih k9 (by omega) (x + 1) _ y0 y1
  refine V_aload_n f dX8_lasts_0 0 rfl ?_
  refine V_getR f dX8_lasts_1 lf_8_35 rfl zb_0 rfl ?_
  refine V_getE (x := M 14 0) f dX8_lasts_4 lf_8_165 rfl zb_14 rfl ?_
  refine V_if_gt (tgt := 12) f dX8_lasts_7 (by decide) (fun c1 => ?_) (fun c1 => ?_)
  · refine V_aload_n f dX8_lasts_12 0 rfl ?_
    refine V_getR f dX8_lasts_13 lf_8_35 rfl zb_0 rfl ?_
    refine V_getE (x := M 14 1) f dX8_lasts_16 lf_8_219 rfl zb_14 rfl ?_
    refine V_istore_n f dX8_lasts_19 rfl (by decide) rfl ?_
    refine V_iconst (v := 0) f dX8_lasts_20 (by decide) ?_
    refine V_istore_n f dX8_lasts_21 rfl (by decide) rfl ?_
    exact loop c1 1000 0 (M 14 1) (by decide) (by decide)
  · refine V_iconst (v := (-1)) f dX8_lasts_10 (by decide) ?_
    exact V_iret f q dX8_lasts_11 rfl (Nat.zero_le _) (Nat.zero_le _) ⟨rfl, rfl, ⟨(-1), rfl⟩, rfl⟩
set_option maxHeartbeats 4000000 in
set_option maxRecDepth 100000 in
theorem c3_X8_count (l : Launch) (D : va_G) (cy : Nat → ClassId) (X : va_W) (ad : Nat → Nat) (M : MT) (e : Int32) (hI : InvB M) : CtP l yX8_count cX8_count 2 (some .int) (rK 1) D cy X ad ZB M [.ref (ad 0), .int e] (fun v M1 => (∃ r : Int32, v = some (.int r)) ∧ M1 = M) := by
  refine Ctr.of (by decide +kernel) (Nat.le_of_ble_eq_true rfl) ?_
  intro K f q hnm hl0 hD0 hy0 hX0
  show V K ad 0 0 ZB M 0 [(0, .ref (ad 0)), (1, .int e)] []
  refine V_iload_n f dX8_count_0 1 rfl ?_
  rcases Decidable.em (e = 0) with c1 | c1
  · refine V_tableIn (off := 67) (tgt := 68) f dX8_count_1 (by rw [c1]; decide) (by rw [c1]; decide) (by rw [c1]; decide) (by decide) ?_
    refine V_aload_n f dX8_count_68 0 rfl ?_
    refine V_getE (x := M 0 10) f dX8_count_69 lf_8_69 rfl zb_0 rfl ?_
    exact V_iret f q dX8_count_72 rfl (Nat.zero_le _) (Nat.zero_le _) ⟨rfl, rfl, ⟨(M 0 10), rfl⟩, rfl⟩
  rcases Decidable.em (e = 1) with c2 | c2
  · refine V_tableIn (off := 72) (tgt := 73) f dX8_count_1 (by rw [c2]; decide) (by rw [c2]; decide) (by rw [c2]; decide) (by decide) ?_
    refine V_aload_n f dX8_count_73 0 rfl ?_
    refine V_getE (x := M 0 11) f dX8_count_74 lf_8_72 rfl zb_0 rfl ?_
    exact V_iret f q dX8_count_77 rfl (Nat.zero_le _) (Nat.zero_le _) ⟨rfl, rfl, ⟨(M 0 11), rfl⟩, rfl⟩
  rcases Decidable.em (e = 2) with c3 | c3
  · refine V_tableIn (off := 77) (tgt := 78) f dX8_count_1 (by rw [c3]; decide) (by rw [c3]; decide) (by rw [c3]; decide) (by decide) ?_
    refine V_aload_n f dX8_count_78 0 rfl ?_
    refine V_getE (x := M 0 12) f dX8_count_79 lf_8_75 rfl zb_0 rfl ?_
    exact V_iret f q dX8_count_82 rfl (Nat.zero_le _) (Nat.zero_le _) ⟨rfl, rfl, ⟨(M 0 12), rfl⟩, rfl⟩
  rcases Decidable.em (e = 3) with c4 | c4
  · refine V_tableIn (off := 82) (tgt := 83) f dX8_count_1 (by rw [c4]; decide) (by rw [c4]; decide) (by rw [c4]; decide) (by decide) ?_
    refine V_aload_n f dX8_count_83 0 rfl ?_
    refine V_getR f dX8_count_84 lf_8_35 rfl zb_0 rfl ?_
    refine V_getE (x := M 14 0) f dX8_count_87 lf_8_165 rfl zb_14 rfl ?_
    exact V_iret f q dX8_count_90 rfl (Nat.zero_le _) (Nat.zero_le _) ⟨rfl, rfl, ⟨(M 14 0), rfl⟩, rfl⟩
  rcases Decidable.em (e = 4) with c5 | c5
  · refine V_tableIn (off := 90) (tgt := 91) f dX8_count_1 (by rw [c5]; decide) (by rw [c5]; decide) (by rw [c5]; decide) (by decide) ?_
    refine V_aload_n f dX8_count_91 0 rfl ?_
    refine V_getR f dX8_count_92 lf_8_35 rfl zb_0 rfl ?_
    refine V_getE (x := M 14 1) f dX8_count_95 lf_8_219 rfl zb_14 rfl ?_
    exact V_iret f q dX8_count_98 rfl (Nat.zero_le _) (Nat.zero_le _) ⟨rfl, rfl, ⟨(M 14 1), rfl⟩, rfl⟩
  rcases Decidable.em (e = 5) with c6 | c6
  · refine V_tableIn (off := 98) (tgt := 99) f dX8_count_1 (by rw [c6]; decide) (by rw [c6]; decide) (by rw [c6]; decide) (by decide) ?_
    refine V_aload_n f dX8_count_99 0 rfl ?_
    refine V_getR f dX8_count_100 lf_8_35 rfl zb_0 rfl ?_
    refine V_getE (x := M 14 2) f dX8_count_103 lf_8_227 rfl zb_14 rfl ?_
    exact V_iret f q dX8_count_106 rfl (Nat.zero_le _) (Nat.zero_le _) ⟨rfl, rfl, ⟨(M 14 2), rfl⟩, rfl⟩
  rcases Decidable.em (e = 6) with c7 | c7
  · refine V_tableIn (off := 106) (tgt := 107) f dX8_count_1 (by rw [c7]; decide) (by rw [c7]; decide) (by rw [c7]; decide) (by decide) ?_
    refine V_aload_n f dX8_count_107 0 rfl ?_
    refine V_getR f dX8_count_108 lf_8_35 rfl zb_0 rfl ?_
    refine V_getE (x := M 14 3) f dX8_count_111 lf_8_230 rfl zb_14 rfl ?_
    exact V_iret f q dX8_count_114 rfl (Nat.zero_le _) (Nat.zero_le _) ⟨rfl, rfl, ⟨(M 14 3), rfl⟩, rfl⟩
  rcases Decidable.em (e = 7) with c8 | c8
  · refine V_tableIn (off := 114) (tgt := 115) f dX8_count_1 (by rw [c8]; decide) (by rw [c8]; decide) (by rw [c8]; decide) (by decide) ?_
    refine V_aload_n f dX8_count_115 0 rfl ?_
    refine V_getR f dX8_count_116 lf_8_35 rfl zb_0 rfl ?_
    refine V_getE (x := M 14 4) f dX8_count_119 lf_8_233 rfl zb_14 rfl ?_
    exact V_iret f q dX8_count_122 rfl (Nat.zero_le _) (Nat.zero_le _) ⟨rfl, rfl, ⟨(M 14 4), rfl⟩, rfl⟩
  rcases Decidable.em (e = 8) with c9 | c9
  · refine V_tableIn (off := 122) (tgt := 123) f dX8_count_1 (by rw [c9]; decide) (by rw [c9]; decide) (by rw [c9]; decide) (by decide) ?_
    refine V_aload_n f dX8_count_123 0 rfl ?_
    refine V_getE (x := M 0 13) f dX8_count_124 lf_8_78 rfl zb_0 rfl ?_
    exact V_iret f q dX8_count_127 rfl (Nat.zero_le _) (Nat.zero_le _) ⟨rfl, rfl, ⟨(M 0 13), rfl⟩, rfl⟩
  rcases Decidable.em (e = 9) with c10 | c10
  · refine V_tableIn (off := 127) (tgt := 128) f dX8_count_1 (by rw [c10]; decide) (by rw [c10]; decide) (by rw [c10]; decide) (by decide) ?_
    refine V_aload_n f dX8_count_128 0 rfl ?_
    refine V_cVp (As := []) (rest := []) f dX8_count_129 lk_X8_236 ml_X8_236 ins_X8_weightInStacks sel_X8_weightInStacks zb_0 (by decide) rfl (c3_X8_weightInStacks _ _ _ _ ad M hI) rfl (Nat.le_of_ble_eq_true rfl) rfl ⟨by decide, by decide⟩ ⟨Nat.zero_le _, Nat.zero_le _⟩ rfl rfl (fun v11 Mx11 hp11 => ?_)
    obtain ⟨⟨r11, rfl⟩, e11⟩ := hp11
    rw [e11]
    show V K ad 0 0 ZB M 132 [(0, .ref (ad 0)), (1, .int e)] [.int r11]
    exact V_iret f q dX8_count_132 rfl (Nat.zero_le _) (Nat.zero_le _) ⟨rfl, rfl, ⟨r11, rfl⟩, rfl⟩
  rcases Decidable.em (e = 10) with c12 | c12
  · refine V_tableIn (off := 132) (tgt := 133) f dX8_count_1 (by rw [c12]; decide) (by rw [c12]; decide) (by rw [c12]; decide) (by decide) ?_
    refine V_aload_n f dX8_count_133 0 rfl ?_
    refine V_getE (x := M 0 8) f dX8_count_134 lf_8_62 rfl zb_0 rfl ?_
    exact V_iret f q dX8_count_137 rfl (Nat.zero_le _) (Nat.zero_le _) ⟨rfl, rfl, ⟨(M 0 8), rfl⟩, rfl⟩
  rcases Decidable.em (e = 11) with c13 | c13
  · refine V_tableIn (off := 137) (tgt := 138) f dX8_count_1 (by rw [c13]; decide) (by rw [c13]; decide) (by rw [c13]; decide) (by decide) ?_
    refine V_aload_n f dX8_count_138 0 rfl ?_
    refine V_getE (x := M 0 9) f dX8_count_139 lf_8_66 rfl zb_0 rfl ?_
    exact V_iret f q dX8_count_142 rfl (Nat.zero_le _) (Nat.zero_le _) ⟨rfl, rfl, ⟨(M 0 9), rfl⟩, rfl⟩
  rcases Decidable.em (e = 12) with c14 | c14
  · refine V_tableIn (off := 142) (tgt := 143) f dX8_count_1 (by rw [c14]; decide) (by rw [c14]; decide) (by rw [c14]; decide) (by decide) ?_
    refine V_aload_n f dX8_count_143 0 rfl ?_
    refine V_getR f dX8_count_144 lf_8_42 rfl zb_0 rfl ?_
    refine V_getE (x := M 15 1) f dX8_count_147 lf_8_192 rfl zb_15 rfl ?_
    exact V_iret f q dX8_count_150 rfl (Nat.zero_le _) (Nat.zero_le _) ⟨rfl, rfl, ⟨(M 15 1), rfl⟩, rfl⟩
  refine V_tableOut (tgt := 151) f dX8_count_1 (sw_out 0 12 13 [0, 1, 2, 3, 4, 5, 6, 7, 8, 9, 10, 11, 12] (by decide) (by decide) (List.forall_mem_cons.mpr ⟨c1, (List.forall_mem_cons.mpr ⟨c2, (List.forall_mem_cons.mpr ⟨c3, (List.forall_mem_cons.mpr ⟨c4, (List.forall_mem_cons.mpr ⟨c5, (List.forall_mem_cons.mpr ⟨c6, (List.forall_mem_cons.mpr ⟨c7, (List.forall_mem_cons.mpr ⟨c8, (List.forall_mem_cons.mpr ⟨c9, (List.forall_mem_cons.mpr ⟨c10, (List.forall_mem_cons.mpr ⟨c12, (List.forall_mem_cons.mpr ⟨c13, (List.forall_mem_cons.mpr ⟨c14, (fun _ h => absurd h List.not_mem_nil)⟩)⟩)⟩)⟩)⟩)⟩)⟩)⟩)⟩)⟩)⟩)⟩)⟩)) (by decide) ?_
  refine V_iconst (v := (-1)) f dX8_count_151 (by decide) ?_
  exact V_iret f q dX8_count_152 rfl (Nat.zero_le _) (Nat.zero_le _) ⟨rfl, rfl, ⟨(-1), rfl⟩, rfl⟩

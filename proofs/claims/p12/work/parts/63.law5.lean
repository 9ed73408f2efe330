theorem InvB_18 {M : MT} (h : InvB M) {k : Nat} {v : Int32} (hv : ¬ 1 = k ∨ (0 ≤ v.toInt ∧ v.toInt ≤ 500)) : InvB (up2 M 18 k v) := by
  obtain ⟨h1, h2, h3, h4, h5⟩ := h
  have e : ∀ j, ¬ j = 18 → up2 M 18 k v j = M j := fun j hj => upo hj
  refine ⟨by rw [e 0 (by omega)]; exact h1, by rw [e 0 (by omega)]; exact h2, by rw [e 15 (by omega)]; exact h3, ?_, fun j hj => ?_⟩
  · by_cases q : 1 = k
    · subst q; rw [up_s]; exact hv.resolve_left (fun n => n rfl)
    · rw [up_k q rfl]; exact h4
  · have hl := h5 j hj
    unfold LwOk at hl ⊢
    rcases hj with rfl | ⟨b, hb, rfl⟩
    · rw [e 4 (by omega), e (4 + 5) (by omega)]; exact hl
    · rw [e (54 + 10 * b) (by omega), e (54 + 10 * b + 5) (by omega)]; exact hl
theorem Kp_18 {M0 M : MT} (h : Kp rP M0 M) {k : Nat} {v : Int32} (hv : ¬ 1 = k ∨ (0 ≤ v.toInt ∧ v.toInt ≤ 500)) : Kp rP M0 (up2 M 18 k v) := ⟨InvB_18 h.1 hv, up_c (by decide) h.2.1, up_c (by decide) h.2.2.1, up_c (by decide) h.2.2.2.1, up_c (by decide) h.2.2.2.2.1, up_c (by decide) h.2.2.2.2.2.1, fun j hj => (upo (by unfold rP at hj; omega)).trans (h.2.2.2.2.2.2 j hj)⟩
theorem Kp_tk {M0 M : MT} (h : Kp rP M0 M) {i : Nat} (hi : 19 ≤ i ∧ i ≤ 21) (k : Nat) (v : Int32) : Kp rP M0 (up2 M i k v) := by
  have h0 : ¬ 0 = i := by omega
  exact ⟨InvB_nr h.1 (by unfold nrB; omega) k v, up_c h0 h.2.1, up_c h0 h.2.2.1, up_c h0 h.2.2.2.1, up_c h0 h.2.2.2.2.1, up_c h0 h.2.2.2.2.2.1, fun j hj => (upo (by unfold rP at hj; omega)).trans (h.2.2.2.2.2.2 j hj)⟩
theorem Kp_keep {M0 M : MT} (h : Kp rP M0 M) (a b e : Int32) : Kp rP M0 (s_X7_keep M a b e) := by
  unfold s_X7_keep
  by_cases q : (M 18 1) < 500
  · rw [if_pos q]
    have e5 : (500 : Int32).toInt = 500 := by decide
    have e1 : (1 : Int32).toInt = 1 := by decide
    rw [Int32.lt_iff_toInt_lt] at q
    have h4 := h.1.2.2.2.1
    have a1 := i32_add (x := M 18 1) h4.1 (by omega) (k := 1) (by decide) (by decide)
    exact Kp_18 (Kp_tk (Kp_tk (Kp_tk h (by decide) _ _) (by decide) _ _) (by decide) _ _) (Or.inr ⟨by omega, by omega⟩)
  · rw [if_neg q]; exact h
theorem Kp_kn {M0 M : MT} (h : Kp rP M0 M) (a b : Nat) : Kp rP M0 (knF M a b) := by
  unfold knF
  by_cases q : b - a ≤ 4
  · rw [if_pos q]; exact Kp_keep h _ _ _
  · rw [if_neg q]; exact Kp_keep h _ _ _
theorem cutK (M0 : MT) (N : Nat) : CutR N (fun M _ => Kp rP M0 M) := ⟨fun M p h => ⟨h.1.2.2.2.1.1, h.1.2.2.1.2⟩, fun M p q c h _ _ _ => Kp_keep h _ _ _, fun M p q h _ _ _ => Kp_kn h _ _, fun M p h _ _ _ _ => h, fun M p h _ _ _ _ => Kp_keep h _ _ _⟩
set_option maxHeartbeats 4000000 in
set_option maxRecDepth 100000 in
theorem c3_X2_readText (cs cv : Nat → Nat) (z : Value) (l : Launch) (D : va_G) (cy : Nat → ClassId) (X : va_W) (ad : Nat → Nat) (M : MT) (n : Int32) (i : Nat) (hz : LawZ i) (hI : InvB M) (N : Nat) (hN : n.toInt = (N : Int) ∧ N ≤ 500) : CtS cs cv z l yX2_readText cX2_readText 4 (some .int) (rK 7) D cy X ad ZB M [.ref (ad 17), .int n, .ref (ad i)] (fun v M1 => (∃ r : Int32, v = some (.int r)) ∧ Kp rP M M1) := by
  refine CtS.of (by decide +kernel) (Nat.le_of_ble_eq_true rfl) ?_
  intro K hw f q hnm hl0 hD0 hy0 hX0
  show V K ad 0 0 ZB M 0 [(0, .ref (ad 17)), (1, .int n), (2, .ref (ad i))] []
  have loop : ∀ (q9 c : Nat) (x : Int32) (M1 : MT), c + q9 = 16 → x.toInt = c → Kp rP M M1 → V K ad 0 0 ZB M1 15 [(3, .int x), (0, .ref (ad 17)), (1, .int n), (2, .ref (ad i))] [] := by
    intro q9
    induction q9 with
    | zero =>
      intro c x M1 hb hx hK1
      obtain rfl : c = 16 := by omega
      refine V_iload_n f dX2_readText_15 0 rfl ?_
      refine V_bipush (v := 16) f dX2_readText_16 (by decide) ?_
      refine V_icmp_ge (tgt := 63) f dX2_readText_18 (by decide) (fun _ => ?_) (fun h => absurd (lq_ge hx (y := 16) (n := 16) (by decide) rfl) h)
      refine V_aload_n f dX2_readText_63 1 rfl ?_
      refine V_getR f dX2_readText_64 lf_2_20 rfl zb_17 rfl ?_
      refine V_aload_n f dX2_readText_67 1 rfl ?_
      refine V_getE (x := M1 17 1) f dX2_readText_68 lf_2_9 rfl zb_17 rfl ?_
      refine V_cVi (As := [.int (M1 17 1)]) (rest := []) f dX2_readText_71 lk_X2_30 ml_X2_30 ins_X7_codeAt sel_X7_codeAt zb_18 (by decide) rfl (c_X7_codeAt (kl K) (kD K) (ky K) (kX K) ad M1 (M1 17 1) (hK1.1.2.2.2.1.2)) rfl (Nat.le_of_ble_eq_true rfl) rfl ⟨by decide, by decide⟩ ⟨Nat.zero_le _, Nat.zero_le _⟩ rfl rfl ?_
      refine V_if_ne (tgt := 81) f dX2_readText_74 (by decide) (fun c2 => ?_) (fun c2 => ?_)
      · refine V_aload_n f dX2_readText_81 1 rfl ?_
        refine V_getR f dX2_readText_82 lf_2_20 rfl zb_17 rfl ?_
        refine V_aload_n f dX2_readText_85 1 rfl ?_
        refine V_getE (x := M1 17 1) f dX2_readText_86 lf_2_9 rfl zb_17 rfl ?_
        refine V_cVi (As := [.int (M1 17 1)]) (rest := []) f dX2_readText_89 lk_X2_38 ml_X2_38 ins_X7_placeAt sel_X7_placeAt zb_18 (by decide) rfl (c_X7_placeAt (kl K) (kD K) (ky K) (kX K) ad M1 (M1 17 1) (hK1.1.2.2.2.1.2)) rfl (Nat.le_of_ble_eq_true rfl) rfl ⟨by decide, by decide⟩ ⟨Nat.zero_le _, Nat.zero_le _⟩ rfl rfl ?_
        exact V_iret f q dX2_readText_92 rfl (Nat.zero_le _) (Nat.zero_le _) ⟨rfl, rfl, ⟨_, rfl⟩, hK1⟩
      · refine V_iconst (v := (-1)) f dX2_readText_77 (by decide) ?_
        refine V_goto (tgt := 92) f dX2_readText_78 (by decide) ?_
        exact V_iret f q dX2_readText_92 rfl (Nat.zero_le _) (Nat.zero_le _) ⟨rfl, rfl, ⟨_, rfl⟩, hK1⟩
    | succ q9 ih =>
      intro c x M1 hb hx hK1
      obtain ⟨hbl, hin, hnat, hx1⟩ := lq_lt hx hb (by decide)
      refine V_iload_n f dX2_readText_15 0 rfl ?_
      refine V_bipush (v := 16) f dX2_readText_16 (by decide) ?_
      refine V_icmp_ge (tgt := 63) f dX2_readText_18 (by decide) (fun h => absurd h (lq_nge hx (y := 16) (by decide) hb)) (fun _ => ?_)
      refine V_aload_n f dX2_readText_21 1 rfl ?_
      refine V_getR f dX2_readText_22 lf_2_20 rfl zb_17 rfl ?_
      refine V_aload_n f dX2_readText_25 1 rfl ?_
      refine V_getE (x := M1 17 1) f dX2_readText_26 lf_2_9 rfl zb_17 rfl ?_
      refine V_cVi (As := [.int (M1 17 1)]) (rest := []) f dX2_readText_29 lk_X2_30 ml_X2_30 ins_X7_codeAt sel_X7_codeAt zb_18 (by decide) rfl (c_X7_codeAt (kl K) (kD K) (ky K) (kX K) ad M1 (M1 17 1) (hK1.1.2.2.2.1.2)) rfl (Nat.le_of_ble_eq_true rfl) rfl ⟨by decide, by decide⟩ ⟨Nat.zero_le _, Nat.zero_le _⟩ rfl rfl ?_
      refine V_if_ne (tgt := 37) f dX2_readText_32 (by decide) (fun c3 => ?_) (fun c3 => ?_)
      · refine V_aload_n f dX2_readText_37 1 rfl ?_
        refine V_aload_n f dX2_readText_38 3 rfl ?_
        refine V_cVp (As := [.ref (ad i)]) (rest := []) f dX2_readText_39 lk_X2_34 ml_X2_34 ins_X2_readStatement sel_X2_readStatement zb_17 (by decide) rfl (c3_X2_readStatement _ _ _ _ ad M1 i hz hK1.1) rfl (Nat.le_of_ble_eq_true rfl) rfl ⟨by decide, by decide⟩ ⟨Nat.zero_le _, Nat.zero_le _⟩ rfl rfl (fun v4 Mx4 hp4 => ?_)
        obtain ⟨⟨r4, rfl, hr4⟩, hk4⟩ := hp4
        have hKs := Kp_trans hK1 hk4
        show V K ad 0 0 ZB Mx4 42 [(3, .int x), (0, .ref (ad 17)), (1, .int n), (2, .ref (ad i))] [.int r4]
        refine V_if_ne (tgt := 57) f dX2_readText_42 (by decide) (fun c5 => ?_) (fun c5 => ?_)
        · refine V_iinc (v := x + 1) f dX2_readText_57 0 rfl rfl (by decide) rfl ?_
          refine V_goto (tgt := 15) f dX2_readText_60 (by decide) ?_
          exact ih (c + 1) (x + 1) _ (by omega) hx1 hKs
        · refine V_aload_n f dX2_readText_45 1 rfl ?_
          refine V_getR f dX2_readText_46 lf_2_20 rfl zb_17 rfl ?_
          refine V_aload_n f dX2_readText_49 1 rfl ?_
          refine V_getE (x := Mx4 17 1) f dX2_readText_50 lf_2_9 rfl zb_17 rfl ?_
          refine V_cVi (As := [.int (Mx4 17 1)]) (rest := []) f dX2_readText_53 lk_X2_38 ml_X2_38 ins_X7_placeAt sel_X7_placeAt zb_18 (by decide) rfl (c_X7_placeAt (kl K) (kD K) (ky K) (kX K) ad Mx4 (Mx4 17 1) (hKs.1.2.2.2.1.2)) rfl (Nat.le_of_ble_eq_true rfl) rfl ⟨by decide, by decide⟩ ⟨Nat.zero_le _, Nat.zero_le _⟩ rfl rfl ?_
          exact V_iret f q dX2_readText_56 rfl (Nat.zero_le _) (Nat.zero_le _) ⟨rfl, rfl, ⟨_, rfl⟩, hKs⟩
      · refine V_iconst (v := (-1)) f dX2_readText_35 (by decide) ?_
        exact V_iret f q dX2_readText_36 rfl (Nat.zero_le _) (Nat.zero_le _) ⟨rfl, rfl, ⟨_, rfl⟩, hK1⟩
  refine V_aload_n f dX2_readText_0 0 rfl ?_
  refine V_getR f dX2_readText_1 lf_2_20 rfl zb_17 rfl ?_
  refine V_iload_n f dX2_readText_4 1 rfl ?_
  refine V_cVs (As := [.int n]) (rest := []) f hw dX2_readText_5 lk_X2_24 ml_X2_24 ins_X7_cut sel_X7_cut zb_18 (by decide) rfl (c3_X7_cut cs cv z _ _ _ _ ad M n N (fun M1 _ => Kp rP M M1) hN (cutK M N) (Kp_18 (Kp_18 (Kp_refl hI) (Or.inr (by decide))) (Or.inl (by decide)))) rfl (Nat.le_of_ble_eq_true rfl) rfl ⟨by decide, by decide⟩ ⟨Nat.zero_le _, Nat.zero_le _⟩ rfl rfl (fun v1 Mx1 hp1 => ?_)
  obtain ⟨rfl, hK1⟩ := hp1
  show V K ad 0 0 ZB Mx1 8 [(0, .ref (ad 17)), (1, .int n), (2, .ref (ad i))] []
  refine V_aload_n f dX2_readText_8 0 rfl ?_
  refine V_iconst (v := 0) f dX2_readText_9 (by decide) ?_
  refine V_putI f dX2_readText_10 lf_2_9 lp_2_1 rfl rfl rfl rfl zb_17 ?_
  refine V_iconst (v := 0) f dX2_readText_13 (by decide) ?_
  refine V_istore_n f dX2_readText_14 rfl (by decide) rfl ?_
  exact loop 16 0 0 _ rfl (by decide) (Kp_17 hK1 _ _)
/-- kept by law and feed -/
def KpL (M M1 : MT) : Prop := InvB M1 ∧ M1 0 8 = M 0 8 ∧ M1 0 10 = M 0 10 ∧ M1 0 11 = M 0 11
theorem v8l {x : Int32} (h : 0 ≤ x.toInt) (hx : x < 8) : vp_in x 8 := by
  have e : (8 : Int32).toInt = 8 := by decide
  rw [Int32.lt_iff_toInt_lt] at hx
  rw [vp_in_iff]; omega
theorem InvB_151 {M : MT} (h : InvB M) {v : Int32} (hv : 0 ≤ v.toInt ∧ v.toInt ≤ 500) : InvB (up2 M 15 1 v) := by
  obtain ⟨h1, h2, h3, h4, h5⟩ := h
  have e : ∀ j, ¬ j = 15 → up2 M 15 1 v j = M j := fun j hj => upo hj
  refine ⟨by rw [e 0 (by omega)]; exact h1, by rw [e 0 (by omega)]; exact h2, by rw [up_s]; exact hv, by rw [e 18 (by omega)]; exact h4, fun j hj => ?_⟩
  have hl := h5 j hj
  unfold LwOk at hl ⊢
  rcases hj with rfl | ⟨b, hb, rfl⟩
  · rw [e 4 (by omega), e (4 + 5) (by omega)]; exact hl
  · rw [e (54 + 10 * b) (by omega), e (54 + 10 * b + 5) (by omega)]; exact hl
theorem InvB_09 {M : MT} (h : InvB M) {v : Int32} (hv : 0 ≤ v.toInt ∧ v.toInt ≤ 8) : InvB (up2 M 0 9 v) := by
  obtain ⟨h1, h2, h3, h4, h5⟩ := h
  have e : ∀ j, ¬ j = 0 → up2 M 0 9 v j = M j := fun j hj => upo hj
  refine ⟨by rw [up_k (by decide) rfl]; exact h1, by rw [up_s]; exact hv, by rw [e 15 (by omega)]; exact h3, by rw [e 18 (by omega)]; exact h4, fun j hj => ?_⟩
  have hl := h5 j hj
  unfold LwOk at hl ⊢
  rcases hj with rfl | ⟨b, hb, rfl⟩
  · rw [e 4 (by omega), e (4 + 5) (by omega)]; exact hl
  · rw [e (54 + 10 * b) (by omega), e (54 + 10 * b + 5) (by omega)]; exact hl
theorem KpL_a {M M1 : MT} {r : Int32} (h : Kp rP M M1) : KpL M (up2 (up2 M1 0 14 r) 15 1 0) := ⟨InvB_151 (InvB_0 h.1 (by decide) _) (by decide), up_c (by decide) (up_k (by decide) h.2.1), up_c (by decide) (up_k (by decide) h.2.2.1), up_c (by decide) (up_k (by decide) h.2.2.2.1)⟩
theorem KpL_b {M M1 : MT} {r : Int32} (h : Kp rP M M1) (hl : (M 0 9) < 8) (h0 : 0 ≤ (M 0 9).toInt) : KpL M (up2 (up2 (up2 M1 0 14 r) 15 1 0) 0 9 ((M1 0 9) + 1)) := by
  have a := KpL_a (r := r) h
  have e8 : (8 : Int32).toInt = 8 := by decide
  have e1 : (1 : Int32).toInt = 1 := by decide
  rw [Int32.lt_iff_toInt_lt] at hl
  have a1 := i32_add (x := M 0 9) h0 (by omega) (k := 1) (by decide) (by decide)
  exact ⟨InvB_09 a.1 (by rw [h.2.2.2.2.1]; omega), up_k (by decide) a.2.1, up_k (by decide) a.2.2.1, up_k (by decide) a.2.2.2⟩
theorem wN {M : MT} {a : Int32} (hI : InvB M) (h : ¬ s_X8_within M a 0 (M 15 1) = 0) : a.toInt = ((a.toInt.toNat : Nat) : Int) ∧ a.toInt.toNat ≤ 500 := by
  have := within_to h
  have h3 := hI.2.2.1
  have e0 : (0 : Int32).toInt = 0 := by decide
  omega
set_option maxHeartbeats 4000000 in
set_option maxRecDepth 100000 in
theorem c3_X8_law (cs cv : Nat → Nat) (z : Value) (l : Launch) (D : va_G) (cy : Nat → ClassId) (X : va_W) (ad : Nat → Nat) (M : MT) (a : Int32) (hI : InvB M) : CtS cs cv z l yX8_law cX8_law 3 (some .int) (rK 8) D cy X ad ZB M [.ref (ad 0), .int a] (fun v M1 => (∃ r : Int32, v = some (.int r)) ∧ KpL M M1) := by
  refine CtS.of (by decide +kernel) (Nat.le_of_ble_eq_true rfl) ?_
  intro K hw f q hnm hl0 hD0 hy0 hX0
  show V K ad 0 0 ZB M 0 [(0, .ref (ad 0)), (1, .int a)] []
  refine V_iload_n f dX8_law_0 1 rfl ?_
  refine V_iconst (v := 0) f dX8_law_1 (by decide) ?_
  refine V_aload_n f dX8_law_2 0 rfl ?_
  refine V_getR f dX8_law_3 lf_8_42 rfl zb_0 rfl ?_
  refine V_getE (x := M 15 1) f dX8_law_6 lf_8_192 rfl zb_15 rfl ?_
  refine V_cSi (As := [.int a, .int 0, .int (M 15 1)]) (rest := []) f dX8_law_9 lk_X8_90 ml_X8_90 sta_X8_within (c_X8_within (kl K) (kD K) (ky K) (kX K) ad M a 0 (M 15 1)) rfl (Nat.le_of_ble_eq_true rfl) rfl ⟨by decide, by decide⟩ ⟨Nat.zero_le _, Nat.zero_le _⟩ rfl rfl ?_
  refine V_if_ne (tgt := 18) f dX8_law_12 (by decide) (fun c1 => ?_) (fun c1 => ?_)
  · refine V_aload_n f dX8_law_18 0 rfl ?_
    refine V_getE (x := M 0 9) f dX8_law_19 lf_8_66 rfl zb_0 rfl ?_
    refine V_bipush (v := 8) f dX8_law_22 (by decide) ?_
    refine V_icmp_lt (tgt := 30) f dX8_law_24 (by decide) (fun c2 => ?_) (fun c2 => ?_)
    · refine V_aload_n f dX8_law_30 0 rfl ?_
      refine V_getR f dX8_law_31 lf_8_23 rfl zb_0 rfl ?_
      refine V_aload_n f dX8_law_34 0 rfl ?_
      refine V_getE (x := M 0 9) f dX8_law_35 lf_8_66 rfl zb_0 rfl ?_
      refine V_aald (t0 := 4) f dX8_law_38 zb_3 (by decide) rfl (v8l hI.2.1.1 c2) (eLaw (vlt (v8l hI.2.1.1 c2))) ?_
      refine V_astore_n f dX8_law_39 rfl (by decide) rfl ?_
      refine V_aload_n f dX8_law_40 0 rfl ?_
      refine V_aload_n f dX8_law_41 1 rfl ?_
      refine V_getE (x := M 0 9) f dX8_law_42 lf_8_66 rfl zb_0 rfl ?_
      refine V_aload_n f dX8_law_45 1 rfl ?_
      refine V_getE (x := M 0 10) f dX8_law_46 lf_8_69 rfl zb_0 rfl ?_
      refine V_cVv (As := [.int (M 0 9), .int (M 0 10)]) (rest := []) f dX8_law_49 lk_X8_195 ml_X8_195 ins_X1_begin sel_X1_begin (zL (zLw (vlt (v8l hI.2.1.1 c2)))) (by decide) rfl (c_X1_begin (kl K) (kD K) (ky K) (kX K) ad M (54 + 10 * Int32.toNatClampNeg (M 0 9)) (M 0 9) (M 0 10) (zLw (vlt (v8l hI.2.1.1 c2)))) rfl (Nat.le_of_ble_eq_true rfl) rfl ⟨by decide, by decide⟩ ⟨Nat.zero_le _, Nat.zero_le _⟩ rfl rfl ?_
      refine V_aload_n f dX8_law_52 1 rfl ?_
      refine V_aload_n f dX8_law_53 1 rfl ?_
      refine V_getR f dX8_law_54 lf_8_51 rfl zb_0 rfl ?_
      refine V_iload_n f dX8_law_57 2 rfl ?_
      refine V_aload_n f dX8_law_58 0 rfl ?_
      refine V_cVs (As := [.int a, .ref (ad (54 + 10 * Int32.toNatClampNeg (M 0 9)))]) (rest := [.ref (ad 0)]) f hw dX8_law_59 lk_X8_198 ml_X8_198 ins_X2_readText sel_X2_readText zb_17 (by decide) rfl (c3_X2_readText cs cv z _ _ _ _ ad (s_X1_begin M (54 + 10 * Int32.toNatClampNeg (M 0 9)) (M 0 9) (M 0 10)) a (54 + 10 * Int32.toNatClampNeg (M 0 9)) (zLw (vlt (v8l hI.2.1.1 c2))) (Kp_begin (Kp_refl hI) (zLw (vlt (v8l hI.2.1.1 c2))) _ _).1 _ (wN hI c1)) rfl (Nat.le_of_ble_eq_true rfl) rfl ⟨by decide, by decide⟩ ⟨Nat.zero_le _, Nat.zero_le _⟩ rfl rfl (fun v3 Mx3 hp3 => ?_)
      obtain ⟨⟨r3, rfl⟩, hK3⟩ := hp3
      show V K ad 0 0 ZB Mx3 62 [(2, .ref (ad (54 + 10 * Int32.toNatClampNeg (M 0 9)))), (0, .ref (ad 0)), (1, .int a)] [.int r3, .ref (ad 0)]
      refine V_putI f dX8_law_62 lf_8_81 lp_8_14 rfl rfl rfl rfl zb_0 ?_
      refine V_aload_n f dX8_law_65 1 rfl ?_
      refine V_getR f dX8_law_66 lf_8_42 rfl zb_0 rfl ?_
      refine V_iconst (v := 0) f dX8_law_69 (by decide) ?_
      refine V_putI f dX8_law_70 lf_8_192 lp_6_1 rfl rfl rfl rfl zb_15 ?_
      refine V_aload_n f dX8_law_73 1 rfl ?_
      refine V_getE (x := r3) f dX8_law_74 lf_8_81 rfl zb_0 (up_c (by decide) up_s) ?_
      refine V_iconst (v := (-1)) f dX8_law_77 (by decide) ?_
      refine V_icmp_eq (tgt := 83) f dX8_law_78 (by decide) (fun c4 => ?_) (fun c4 => ?_)
      · refine V_aload_n f dX8_law_83 1 rfl ?_
        refine V_dup f dX8_law_84 rfl ?_
        refine V_getE (x := Mx3 0 9) f dX8_law_85 lf_8_66 rfl zb_0 (up_c (by decide) (up_k (by decide) rfl)) ?_
        refine V_iconst (v := 1) f dX8_law_88 (by decide) ?_
        refine V_iadd f dX8_law_89 ?_
        refine V_putI f dX8_law_90 lf_8_66 lp_8_9 rfl rfl rfl rfl zb_0 ?_
        refine V_aload_n f dX8_law_93 0 rfl ?_
        refine V_getE (x := Mx3 (54 + 10 * Int32.toNatClampNeg (M 0 9)) 0) f dX8_law_94 lf_8_202 rfl (zL (zLw (vlt (v8l hI.2.1.1 c2)))) (up_c (ci_ne (zL (zLw (vlt (v8l hI.2.1.1 c2)))) zb_0 (by decide)) (up_c (ci_ne (zL (zLw (vlt (v8l hI.2.1.1 c2)))) zb_15 (by decide)) (up_c (ci_ne (zL (zLw (vlt (v8l hI.2.1.1 c2)))) zb_0 (by decide)) rfl))) ?_
        exact V_iret f q dX8_law_97 rfl (Nat.zero_le _) (Nat.zero_le _) ⟨rfl, rfl, ⟨_, rfl⟩, KpL_b (Kp_trans (Kp_begin (Kp_refl hI) (zLw (vlt (v8l hI.2.1.1 c2))) _ _) hK3) c2 hI.2.1.1⟩
      · refine V_iconst (v := (-1)) f dX8_law_81 (by decide) ?_
        exact V_iret f q dX8_law_82 rfl (Nat.zero_le _) (Nat.zero_le _) ⟨rfl, rfl, ⟨_, rfl⟩, KpL_a (Kp_trans (Kp_begin (Kp_refl hI) (zLw (vlt (v8l hI.2.1.1 c2))) _ _) hK3)⟩
    · refine V_bipush (v := (-3)) f dX8_law_27 (by decide) ?_
      exact V_iret f q dX8_law_29 rfl (Nat.zero_le _) (Nat.zero_le _) ⟨rfl, rfl, ⟨(-3), rfl⟩, ⟨hI, rfl, rfl, rfl⟩⟩
  · refine V_bipush (v := (-2)) f dX8_law_15 (by decide) ?_
    exact V_iret f q dX8_law_17 rfl (Nat.zero_le _) (Nat.zero_le _) ⟨rfl, rfl, ⟨(-2), rfl⟩, ⟨hI, rfl, rfl, rfl⟩⟩
def FL (M : MT) (c : Nat) : Prop := 0 ≤ (M 15 1).toInt ∧ (M 15 1).toInt + (c : Int) ≤ 500
theorem FL_1 {M : MT} {c : Nat} (h : FL M (c + 4)) : (M 15 1).toInt ≤ 496 := by have := h.2; omega
theorem add4 {x : Int32} (h0 : 0 ≤ x.toInt) (h1 : x.toInt ≤ 496) : ((((x + 1) + 1) + 1) + 1).toInt = x.toInt + 4 := by
  have e1 : (1 : Int32).toInt = 1 := by decide
  have a1 := i32_add (x := x) h0 (by omega) (k := 1) (by decide) (by decide)
  have a2 := i32_add (x := x + 1) (by omega) (by omega) (k := 1) (by decide) (by decide)
  have a3 := i32_add (x := (x + 1) + 1) (by omega) (by omega) (k := 1) (by decide) (by decide)
  have a4 := i32_add (x := ((x + 1) + 1) + 1) (by omega) (by omega) (k := 1) (by decide) (by decide)
  omega
theorem hm4 {M : MT} (h0 : 0 ≤ (M 15 1).toInt) (h1 : (M 15 1).toInt ≤ 496) : ¬ s_X6_holdsMore M 4 = 0 := by
  unfold s_X6_holdsMore
  have := i32_add h0 (by omega) (k := 4) (by decide) (by decide)
  have e4 : (4 : Int32).toInt = 4 := by decide
  have e5 : (500 : Int32).toInt = 500 := by decide
  have hn : ¬ (500 : Int32) < (M 15 1) + 4 := by rw [Int32.lt_iff_toInt_lt]; omega
  rw [if_neg hn]; decide
theorem add_len {M : MT} {a : Int32} (h0 : 0 ≤ (M 15 1).toInt) (h1 : (M 15 1).toInt ≤ 496) : (s_X6_add M a 15 1).toInt = (M 15 1).toInt + 4 := by
  unfold s_X6_add
  rw [if_neg (hm4 h0 h1), up_s]
  exact add4 h0 h1
theorem add_fr (M : MT) (a : Int32) {i : Nat} (h1 : ¬ i = 15) (h2 : ¬ i = 16) : s_X6_add M a i = M i := by
  unfold s_X6_add
  by_cases q : s_X6_holdsMore M 4 = 0
  · rw [if_pos q]
  · rw [if_neg q, upo h1, upo h2, upo h1, upo h2, upo h1, upo h2, upo h1, upo h2]
theorem FL_add {M : MT} {a : Int32} {c : Nat} (h : FL M (c + 4)) : FL (s_X6_add M a) c := by
  have e := add_len (a := a) h.1 (FL_1 h)
  have := h.2
  have := h.1
  unfold FL
  rw [e]; omega
theorem hm20_of {M : MT} (hI : InvB M) (h : ¬ s_X6_holdsMore M 20 = 0) : FL M 20 := by
  unfold s_X6_holdsMore at h
  have h3 := hI.2.2.1
  have := i32_add h3.1 (by omega) (k := 20) (by decide) (by decide)
  have e4 : (20 : Int32).toInt = 20 := by decide
  have e5 : (500 : Int32).toInt = 500 := by decide
  by_cases q : (500 : Int32) < (M 15 1) + 20
  · rw [if_pos q] at h; exact absurd rfl h
  · rw [Int32.lt_iff_toInt_lt] at q
    unfold FL; omega
theorem InvB_fr {M M1 : MT} (h : InvB M) (hf : ∀ i, ¬ i = 15 → ¬ i = 16 → M1 i = M i) (hl : 0 ≤ (M1 15 1).toInt ∧ (M1 15 1).toInt ≤ 500) : InvB M1 := by
  obtain ⟨h1, h2, h3, h4, h5⟩ := h
  have e := hf
  refine ⟨by rw [e 0 (by omega) (by omega)]; exact h1, by rw [e 0 (by omega) (by omega)]; exact h2, hl, by rw [e 18 (by omega) (by omega)]; exact h4, fun j hj => ?_⟩
  have hl := h5 j hj
  unfold LwOk at hl ⊢
  rcases hj with rfl | ⟨b, hb, rfl⟩
  · rw [e 4 (by omega) (by omega), e (4 + 5) (by omega) (by omega)]; exact hl
  · rw [e (54 + 10 * b) (by omega) (by omega), e (54 + 10 * b + 5) (by omega) (by omega)]; exact hl
def s3_X8_feed (M : MT) (a : Int32) (b : Int32) (e : Int32) (h : Int32) (g : Int32) : Int32 × MT := (if (s_X6_holdsMore M 20) = 0 then ((-1), M) else ((s_X6_add (s_X6_add (s_X6_add (s_X6_add (s_X6_add M a) b) e) h) g) 15 1, (s_X6_add (s_X6_add (s_X6_add (s_X6_add (s_X6_add M a) b) e) h) g)))
set_option maxHeartbeats 4000000 in
set_option maxRecDepth 100000 in
theorem c3_X8_feed (l : Launch) (D : va_G) (cy : Nat → ClassId) (X : va_W) (ad : Nat → Nat) (M : MT) (a : Int32) (b : Int32) (e : Int32) (h : Int32) (g : Int32) (hI : InvB M) : CtI l yX8_feed cX8_feed 6 .int (rK 2) D cy X ad ZB M [.ref (ad 0), .int a, .int b, .int e, .int h, .int g] (s3_X8_feed M a b e h g).1 (s3_X8_feed M a b e h g).2 := by
  refine Ctr.of (by decide +kernel) (Nat.le_of_ble_eq_true rfl) ?_
  intro K f q hnm hl0 hD0 hy0 hX0
  show V K ad 0 0 ZB M 0 [(0, .ref (ad 0)), (1, .int a), (2, .int b), (3, .int e), (4, .int h), (5, .int g)] []
  refine V_aload_n f dX8_feed_0 0 rfl ?_
  refine V_getR f dX8_feed_1 lf_8_42 rfl zb_0 rfl ?_
  refine V_bipush (v := 20) f dX8_feed_4 (by decide) ?_
  refine V_cVi (As := [.int 20]) (rest := []) f dX8_feed_6 lk_X8_187 ml_X8_187 ins_X6_holdsMore sel_X6_holdsMore zb_15 (by decide) rfl (c_X6_holdsMore (kl K) (kD K) (ky K) (kX K) ad M 20) rfl (Nat.le_of_ble_eq_true rfl) rfl ⟨by decide, by decide⟩ ⟨Nat.zero_le _, Nat.zero_le _⟩ rfl rfl ?_
  refine V_if_ne (tgt := 14) f dX8_feed_9 (by decide) (fun c1 => ?_) (fun c1 => ?_)
  · refine V_aload_n f dX8_feed_14 0 rfl ?_
    refine V_getR f dX8_feed_15 lf_8_42 rfl zb_0 rfl ?_
    refine V_iload_n f dX8_feed_18 1 rfl ?_
    refine V_cVv (As := [.int a]) (rest := []) f dX8_feed_19 lk_X8_190 ml_X8_190 ins_X6_add sel_X6_add zb_15 (by decide) rfl (c_X6_add (kl K) (kD K) (ky K) (kX K) ad M a (hm20_of hI c1).1 (FL_1 (hm20_of hI c1))) rfl (Nat.le_of_ble_eq_true rfl) rfl ⟨by decide, by decide⟩ ⟨Nat.zero_le _, Nat.zero_le _⟩ rfl rfl ?_
    refine V_aload_n f dX8_feed_22 0 rfl ?_
    refine V_getR f dX8_feed_23 lf_8_42 rfl zb_0 rfl ?_
    refine V_iload_n f dX8_feed_26 2 rfl ?_
    refine V_cVv (As := [.int b]) (rest := []) f dX8_feed_27 lk_X8_190 ml_X8_190 ins_X6_add sel_X6_add zb_15 (by decide) rfl (c_X6_add (kl K) (kD K) (ky K) (kX K) ad (s_X6_add M a) b (FL_add (hm20_of hI c1)).1 (FL_1 (FL_add (hm20_of hI c1)))) rfl (Nat.le_of_ble_eq_true rfl) rfl ⟨by decide, by decide⟩ ⟨Nat.zero_le _, Nat.zero_le _⟩ rfl rfl ?_
    refine V_aload_n f dX8_feed_30 0 rfl ?_
    refine V_getR f dX8_feed_31 lf_8_42 rfl zb_0 rfl ?_
    refine V_iload_n f dX8_feed_34 3 rfl ?_
    refine V_cVv (As := [.int e]) (rest := []) f dX8_feed_35 lk_X8_190 ml_X8_190 ins_X6_add sel_X6_add zb_15 (by decide) rfl (c_X6_add (kl K) (kD K) (ky K) (kX K) ad (s_X6_add (s_X6_add M a) b) e (FL_add (FL_add (hm20_of hI c1))).1 (FL_1 (FL_add (FL_add (hm20_of hI c1))))) rfl (Nat.le_of_ble_eq_true rfl) rfl ⟨by decide, by decide⟩ ⟨Nat.zero_le _, Nat.zero_le _⟩ rfl rfl ?_
    refine V_aload_n f dX8_feed_38 0 rfl ?_
    refine V_getR f dX8_feed_39 lf_8_42 rfl zb_0 rfl ?_
    refine V_iload f dX8_feed_42 4 rfl ?_
    refine V_cVv (As := [.int h]) (rest := []) f dX8_feed_44 lk_X8_190 ml_X8_190 ins_X6_add sel_X6_add zb_15 (by decide) rfl (c_X6_add (kl K) (kD K) (ky K) (kX K) ad (s_X6_add (s_X6_add (s_X6_add M a) b) e) h (FL_add (FL_add (FL_add (hm20_of hI c1)))).1 (FL_1 (FL_add (FL_add (FL_add (hm20_of hI c1)))))) rfl (Nat.le_of_ble_eq_true rfl) rfl ⟨by decide, by decide⟩ ⟨Nat.zero_le _, Nat.zero_le _⟩ rfl rfl ?_
    refine V_aload_n f dX8_feed_47 0 rfl ?_
    refine V_getR f dX8_feed_48 lf_8_42 rfl zb_0 rfl ?_
    refine V_iload f dX8_feed_51 5 rfl ?_
    refine V_cVv (As := [.int g]) (rest := []) f dX8_feed_53 lk_X8_190 ml_X8_190 ins_X6_add sel_X6_add zb_15 (by decide) rfl (c_X6_add (kl K) (kD K) (ky K) (kX K) ad (s_X6_add (s_X6_add (s_X6_add (s_X6_add M a) b) e) h) g (FL_add (FL_add (FL_add (FL_add (hm20_of hI c1))))).1 (FL_1 (FL_add (FL_add (FL_add (FL_add (hm20_of hI c1))))))) rfl (Nat.le_of_ble_eq_true rfl) rfl ⟨by decide, by decide⟩ ⟨Nat.zero_le _, Nat.zero_le _⟩ rfl rfl ?_
    refine V_aload_n f dX8_feed_56 0 rfl ?_
    refine V_getR f dX8_feed_57 lf_8_42 rfl zb_0 rfl ?_
    refine V_getE (x := (s_X6_add (s_X6_add (s_X6_add (s_X6_add (s_X6_add M a) b) e) h) g) 15 1) f dX8_feed_60 lf_8_192 rfl zb_15 rfl ?_
    exact V_iret f q dX8_feed_63 rfl (Nat.zero_le _) (Nat.zero_le _) ⟨rfl, rfl, (by simp only [s3_X8_feed, if_neg c1]), (by simp only [s3_X8_feed, if_neg c1])⟩
  · refine V_iconst (v := (-1)) f dX8_feed_12 (by decide) ?_
    exact V_iret f q dX8_feed_13 rfl (Nat.zero_le _) (Nat.zero_le _) ⟨rfl, rfl, (by simp only [s3_X8_feed, if_pos c1]), (by simp only [s3_X8_feed, if_pos c1])⟩
theorem feed_0 {M : MT} (a b e h g : Int32) (q : (s_X6_holdsMore M 20) = 0) : s3_X8_feed M a b e h g = ((-1), M) := by unfold s3_X8_feed; rw [if_pos q]
theorem feed_1 {M : MT} (a b e h g : Int32) (q : ¬ (s_X6_holdsMore M 20) = 0) : s3_X8_feed M a b e h g = ((s_X6_add (s_X6_add (s_X6_add (s_X6_add (s_X6_add M a) b) e) h) g) 15 1, (s_X6_add (s_X6_add (s_X6_add (s_X6_add (s_X6_add M a) b) e) h) g)) := by unfold s3_X8_feed; rw [if_neg q]
theorem sn_of {x : Int32 × MT} {r : Int32} {m : MT} (h : x = (r, m)) : x.2 = m := by rw [h]
theorem feed_fr (M : MT) (a b e h g : Int32) {i : Nat} (h1 : ¬ i = 15) (h2 : ¬ i = 16) : (s3_X8_feed M a b e h g).2 i = M i := by
  by_cases q : (s_X6_holdsMore M 20) = 0
  · rw [sn_of (feed_0 a b e h g q)]
  · rw [sn_of (feed_1 a b e h g q), add_fr _ _ h1 h2, add_fr _ _ h1 h2, add_fr _ _ h1 h2, add_fr _ _ h1 h2, add_fr _ _ h1 h2]
theorem feed_KpL {M : MT} (hI : InvB M) (a b e h g : Int32) : KpL M (s3_X8_feed M a b e h g).2 := by
  refine ⟨InvB_fr hI (fun i h1 h2 => feed_fr M a b e h g h1 h2) ?_, by rw [feed_fr M a b e h g (by decide) (by decide)], by rw [feed_fr M a b e h g (by decide) (by decide)], by rw [feed_fr M a b e h g (by decide) (by decide)]⟩
  by_cases q : (s_X6_holdsMore M 20) = 0
  · rw [sn_of (feed_0 a b e h g q)]; exact hI.2.2.1
  · rw [sn_of (feed_1 a b e h g q)]
    have t := FL_add (a := g) (c := 0) (FL_add (a := h) (FL_add (a := e) (FL_add (a := b) (FL_add (a := a) (hm20_of hI q)))))
    exact ⟨t.1, by have := t.2; omega⟩

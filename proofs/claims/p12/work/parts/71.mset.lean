/-- weights and store in their bounds, what lies on a BAY -/
def InvW (wb sb : Int) (M : MT) : Prop := (0 ≤ (M 0 3).toInt ∧ (M 0 3).toInt ≤ 1000) ∧ (0 ≤ (M 0 4).toInt ∧ (M 0 4).toInt ≤ sb) ∧ (∀ s, s < 10 → 0 ≤ (M 8 s).toInt ∧ (M 8 s).toInt ≤ wb) ∧ ∀ b, b < 16 → ¬ M 2 b = 0 → 10 ≤ (M 3 b).toInt ∧ (M 3 b).toInt ≤ 200
/-- the cells of tape, text, laws -/
def eP (i : Nat) : Prop := 16 ≤ i ∧ i ≤ 28
def Kf (M M1 : MT) : Prop := InvS M1 ∧ M1 0 9 = M 0 9 ∧ M1 0 0 = M 0 0 ∧ M1 0 1 = M 0 1 ∧ M1 0 31 = M 0 31 ∧ M1 0 30 = M 0 30 ∧ M1 0 27 = M 0 27 ∧ ∀ i, eP i → M1 i = M i
theorem Kf_refl {M : MT} (h : InvS M) : Kf M M := ⟨h, rfl, rfl, rfl, rfl, rfl, rfl, fun _ _ => rfl⟩
theorem Kf_trans {M0 M M1 : MT} (h : Kf M0 M) (g : Kf M M1) : Kf M0 M1 := ⟨g.1, g.2.1.trans h.2.1, g.2.2.1.trans h.2.2.1, g.2.2.2.1.trans h.2.2.2.1, g.2.2.2.2.1.trans h.2.2.2.2.1, g.2.2.2.2.2.1.trans h.2.2.2.2.2.1, g.2.2.2.2.2.2.1.trans h.2.2.2.2.2.2.1, fun i hi => (g.2.2.2.2.2.2.2 i hi).trans (h.2.2.2.2.2.2.2 i hi)⟩
theorem InvS_up {M : MT} (h : InvS M) {i : Nat} (hi : ¬ i = 0 ∧ ¬ i = 18 ∧ ¬ i = 25) (k : Nat) (v : Int32) : InvS (up2 M i k v) := by
  obtain ⟨h1, h2, h3, h4, h5⟩ := h
  have e : ∀ j, ¬ j = i → up2 M i k v j = M j := fun j hj => upo hj
  exact ⟨by rw [e 0 (by omega)]; exact h1, by rw [e 0 (by omega)]; exact h2, by rw [e 0 (by omega)]; exact h3, by rw [e 18 (by omega)]; exact h4, by rw [e 25 (by omega)]; exact h5⟩
theorem InvS_0 {M : MT} (h : InvS M) {k : Nat} (hk : ¬ 9 = k ∧ ¬ 31 = k ∧ ¬ 27 = k) (v : Int32) : InvS (up2 M 0 k v) := by
  obtain ⟨h1, h2, h3, h4, h5⟩ := h
  have e : ∀ j, ¬ j = 0 → up2 M 0 k v j = M j := fun j hj => upo hj
  exact ⟨by rw [up_k hk.1 rfl]; exact h1, by rw [up_k hk.2.1 rfl]; exact h2, by rw [up_k hk.2.2 rfl]; exact h3, by rw [e 18 (by omega)]; exact h4, by rw [e 25 (by omega)]; exact h5⟩
theorem Kf_up {M M1 : MT} (h : Kf M M1) {i : Nat} (hi : (1 ≤ i ∧ i ≤ 15) ∨ (29 ≤ i ∧ i ≤ 31)) (k : Nat) (v : Int32) : Kf M (up2 M1 i k v) := by
  have h0 : ¬ 0 = i := by omega
  exact ⟨InvS_up h.1 (by omega) k v, up_c h0 h.2.1, up_c h0 h.2.2.1, up_c h0 h.2.2.2.1, up_c h0 h.2.2.2.2.1, up_c h0 h.2.2.2.2.2.1, up_c h0 h.2.2.2.2.2.2.1, fun j hj => (upo (by unfold eP at hj; omega)).trans (h.2.2.2.2.2.2.2 j hj)⟩
theorem Kf_0 {M M1 : MT} (h : Kf M M1) {k : Nat} (hk : ¬ 9 = k ∧ ¬ 31 = k ∧ ¬ 27 = k ∧ ¬ 0 = k ∧ ¬ 1 = k ∧ ¬ 30 = k) (v : Int32) : Kf M (up2 M1 0 k v) := ⟨InvS_0 h.1 ⟨hk.1, hk.2.1, hk.2.2.1⟩ v, up_k hk.1 h.2.1, up_k hk.2.2.2.1 h.2.2.1, up_k hk.2.2.2.2.1 h.2.2.2.1, up_k hk.2.1 h.2.2.2.2.1, up_k hk.2.2.2.2.2 h.2.2.2.2.2.1, up_k hk.2.2.1 h.2.2.2.2.2.2.1, fun j hj => (upo (by unfold eP at hj; omega)).trans (h.2.2.2.2.2.2.2 j hj)⟩
theorem InvW_up {wb sb : Int} {M : MT} (h : InvW wb sb M) {i : Nat} (hi : ¬ 0 = i ∧ ¬ 2 = i ∧ ¬ 3 = i ∧ ¬ 8 = i) (k : Nat) (v : Int32) : InvW wb sb (up2 M i k v) := by
  obtain ⟨h1, h2, h3, h4⟩ := h
  have e : ∀ j, ¬ j = i → up2 M i k v j = M j := fun j hj => upo hj
  exact ⟨by rw [e 0 hi.1]; exact h1, by rw [e 0 hi.1]; exact h2, by rw [e 8 hi.2.2.2]; exact h3, by rw [e 2 hi.2.1, e 3 hi.2.2.1]; exact h4⟩
theorem InvW_0 {wb sb : Int} {M : MT} (h : InvW wb sb M) {k : Nat} (hk : ¬ 3 = k ∧ ¬ 4 = k) (v : Int32) : InvW wb sb (up2 M 0 k v) := by
  obtain ⟨h1, h2, h3, h4⟩ := h
  have e : ∀ j, ¬ j = 0 → up2 M 0 k v j = M j := fun j hj => upo hj
  exact ⟨by rw [up_k hk.1 rfl]; exact h1, by rw [up_k hk.2 rfl]; exact h2, by rw [e 8 (by omega)]; exact h3, by rw [e 2 (by omega), e 3 (by omega)]; exact h4⟩
theorem InvW_3 {wb sb : Int} {M : MT} (h : InvW wb sb M) {v : Int32} (hv : 0 ≤ v.toInt ∧ v.toInt ≤ 1000) : InvW wb sb (up2 M 0 3 v) := by
  obtain ⟨h1, h2, h3, h4⟩ := h
  have e : ∀ j, ¬ j = 0 → up2 M 0 3 v j = M j := fun j hj => upo hj
  exact ⟨by rw [up_s]; exact hv, by rw [up_k (by decide) rfl]; exact h2, by rw [e 8 (by omega)]; exact h3, by rw [e 2 (by omega), e 3 (by omega)]; exact h4⟩
theorem InvW_4 {wb sb sb' : Int} {M : MT} (h : InvW wb sb M) {v : Int32} (hv : 0 ≤ v.toInt ∧ v.toInt ≤ sb') : InvW wb sb' (up2 M 0 4 v) := by
  obtain ⟨h1, h2, h3, h4⟩ := h
  have e : ∀ j, ¬ j = 0 → up2 M 0 4 v j = M j := fun j hj => upo hj
  exact ⟨by rw [up_k (by decide) rfl]; exact h1, by rw [up_s]; exact hv, by rw [e 8 (by omega)]; exact h3, by rw [e 2 (by omega), e 3 (by omega)]; exact h4⟩
theorem InvW_8 {wb wb' sb : Int} {M : MT} (h : InvW wb sb M) (hw : wb ≤ wb') {k : Nat} {v : Int32} (hv : 0 ≤ v.toInt ∧ v.toInt ≤ wb') : InvW wb' sb (up2 M 8 k v) := by
  obtain ⟨h1, h2, h3, h4⟩ := h
  have e : ∀ j, ¬ j = 8 → up2 M 8 k v j = M j := fun j hj => upo hj
  refine ⟨by rw [e 0 (by omega)]; exact h1, by rw [e 0 (by omega)]; exact h2, fun s hs => ?_, by rw [e 2 (by omega), e 3 (by omega)]; exact h4⟩
  by_cases q : s = k
  · subst q; rw [up_s]; exact hv
  · rw [up_k q rfl]; have := h3 s hs; omega
theorem InvW_23 {wb sb : Int} {M : MT} (h : InvW wb sb M) {k : Nat} {v x : Int32} (hv : v = 0 ∨ (10 ≤ x.toInt ∧ x.toInt ≤ 200)) : InvW wb sb (up2 (up2 M 2 k v) 3 k x) := by
  obtain ⟨h1, h2, h3, h4⟩ := h
  have e : ∀ j, ¬ j = 2 → ¬ j = 3 → up2 (up2 M 2 k v) 3 k x j = M j := fun j h2 h3 => (upo h3).trans (upo h2)
  refine ⟨by rw [e 0 (by omega) (by omega)]; exact h1, by rw [e 0 (by omega) (by omega)]; exact h2, by rw [e 8 (by omega) (by omega)]; exact h3, fun b hb => ?_⟩
  by_cases q : b = k
  · subst q
    rw [up_s, up_c (show (2 : Nat) ≠ 3 by decide) up_s]
    intro hn
    exact hv.resolve_left hn
  · rw [up_k q (up_c (show (3 : Nat) ≠ 2 by decide) rfl), up_c (show (2 : Nat) ≠ 3 by decide) (up_k q rfl)]
    exact h4 b hb
/-- RIDGING: the state changes where something lay -/
theorem InvW_2 {wb sb : Int} {M : MT} (h : InvW wb sb M) {k : Nat} {v : Int32} (hk : ¬ M 2 k = 0) : InvW wb sb (up2 M 2 k v) := by
  obtain ⟨h1, h2, h3, h4⟩ := h
  have e : ∀ j, ¬ j = 2 → up2 M 2 k v j = M j := fun j hj => upo hj
  refine ⟨by rw [e 0 (by omega)]; exact h1, by rw [e 0 (by omega)]; exact h2, by rw [e 8 (by omega)]; exact h3, fun b hb hn => ?_⟩
  rw [e 3 (by omega)]
  by_cases q : b = k
  · subst q; exact h4 b hb hk
  · rw [up_k q rfl] at hn; exact h4 b hb hn
def Km (wb sb : Int) (M M1 : MT) : Prop := Kf M M1 ∧ InvW wb sb M1
theorem Km_refl {wb sb : Int} {M : MT} (h : InvS M) (g : InvW wb sb M) : Km wb sb M M := ⟨Kf_refl h, g⟩
theorem Km_nr {wb sb : Int} {M M1 : MT} (h : Km wb sb M M1) {i : Nat} (hi : i = 1 ∨ (4 ≤ i ∧ i ≤ 7) ∨ (9 ≤ i ∧ i ≤ 15) ∨ (29 ≤ i ∧ i ≤ 31)) (k : Nat) (v : Int32) : Km wb sb M (up2 M1 i k v) := ⟨Kf_up h.1 (by omega) k v, InvW_up h.2 (by omega) k v⟩
theorem Km_0 {wb sb : Int} {M M1 : MT} (h : Km wb sb M M1) {k : Nat} (hk : ¬ 9 = k ∧ ¬ 31 = k ∧ ¬ 27 = k ∧ ¬ 0 = k ∧ ¬ 1 = k ∧ ¬ 30 = k) (hk2 : ¬ 3 = k ∧ ¬ 4 = k) (v : Int32) : Km wb sb M (up2 M1 0 k v) := ⟨Kf_0 h.1 hk v, InvW_0 h.2 hk2 v⟩
theorem isStack9_in {M : MT} {a : Int32} (hS : InvS M) (h : ¬ s_X9_isStack M a = 0) : vp_in a 10 := by
  have h1 := within_of (M := M) h
  have h2 := hS.1
  have e0 : (0 : Int32).toInt = 0 := by decide
  have e1 : (1 : Int32).toInt = 1 := by decide
  have e2 : ((M 0 9) - 1).toInt = (M 0 9).toInt - 1 := by rw [Int32.toInt_sub, e1, Int.bmod_eq_of_le (by omega) (by omega)]
  rw [Int32.le_iff_toInt_le, Int32.le_iff_toInt_le] at h1
  rw [vp_in_iff]; omega
theorem ne10_in {M : MT} (hS : InvS M) (h : ¬ (M 0 9) = 10) : vp_in (M 0 9) 10 := by
  have h2 := hS.1
  have e : ¬ (M 0 9).toInt = 10 := fun q => h (Int32.toInt_inj.mp (by rw [q]; decide))
  rw [vp_in_iff]; omega
def s3_X9_depth (M : MT) (b : Int32) (e : Int32) : Int32 × MT := (if (s_X9_isBay M b) = 0 then (0, M) else (if (s_X9_isIn M e 0 3000) = 0 then (0, M) else (if (M 2 (Int32.toNatClampNeg b)) = 0 then (1, (up2 M 1 (Int32.toNatClampNeg b) e)) else (0, M))))
set_option maxHeartbeats 4000000 in
set_option maxRecDepth 100000 in
theorem c3_X9_depth (l : Launch) (D : va_G) (cy : Nat → ClassId) (X : va_W) (ad : Nat → Nat) (M : MT) (b : Int32) (e : Int32) (hS : InvS M) : CtI l yX9_depth cX9_depth 3 .boolean (rK 2) D cy X ad ZM M [.ref (ad 0), .int b, .int e] (s3_X9_depth M b e).1 (s3_X9_depth M b e).2 := by
  refine Ctr.of (by decide +kernel) (Nat.le_of_ble_eq_true rfl) ?_
  intro K f q hnm hl0 hD0 hy0 hX0
  show V K ad 0 0 ZM M 0 [(0, .ref (ad 0)), (1, .int b), (2, .int e)] []
  refine V_iload_n f dX9_depth_0 1 rfl ?_
  refine V_cSi (As := [.int b]) (rest := []) f dX9_depth_1 lk_X9_213 ml_X9_213 sta_X9_isBay (c_X9_isBay (kl K) (kD K) (ky K) (kX K) ad M b) rfl (Nat.le_of_ble_eq_true rfl) rfl ⟨by decide, by decide⟩ ⟨Nat.zero_le _, Nat.zero_le _⟩ rfl rfl ?_
  refine V_if_eq (tgt := 27) f dX9_depth_4 (by decide) (fun c1 => ?_) (fun c1 => ?_)
  · refine V_iconst (v := 0) f dX9_depth_27 (by decide) ?_
    exact V_iret f q dX9_depth_28 rfl (Nat.zero_le _) (Nat.zero_le _) ⟨rfl, rfl, (by simp only [s3_X9_depth, if_pos c1]), (by simp only [s3_X9_depth, if_pos c1])⟩
  · refine V_iload_n f dX9_depth_7 2 rfl ?_
    refine V_iconst (v := 0) f dX9_depth_8 (by decide) ?_
    refine V_sipush (v := 3000) f dX9_depth_9 (by decide) ?_
    refine V_cSi (As := [.int e, .int 0, .int 3000]) (rest := []) f dX9_depth_12 lk_X9_109 ml_X9_109 sta_X9_isIn (c_X9_isIn (kl K) (kD K) (ky K) (kX K) ad M e 0 3000) rfl (Nat.le_of_ble_eq_true rfl) rfl ⟨by decide, by decide⟩ ⟨Nat.zero_le _, Nat.zero_le _⟩ rfl rfl ?_
    refine V_if_eq (tgt := 27) f dX9_depth_15 (by decide) (fun c2 => ?_) (fun c2 => ?_)
    · refine V_iconst (v := 0) f dX9_depth_27 (by decide) ?_
      exact V_iret f q dX9_depth_28 rfl (Nat.zero_le _) (Nat.zero_le _) ⟨rfl, rfl, (by simp only [s3_X9_depth, if_neg c1, if_pos c2]), (by simp only [s3_X9_depth, if_neg c1, if_pos c2])⟩
    · refine V_aload_n f dX9_depth_18 0 rfl ?_
      refine V_getR f dX9_depth_19 lf_9_13 rfl zm_0 rfl ?_
      refine V_iload_n f dX9_depth_22 1 rfl ?_
      refine V_ialdE (x := M 2 (Int32.toNatClampNeg b)) f dX9_depth_23 zm_2 (isBay9_in c1) rfl ?_
      refine V_if_eq (tgt := 29) f dX9_depth_24 (by decide) (fun c3 => ?_) (fun c3 => ?_)
      · refine V_aload_n f dX9_depth_29 0 rfl ?_
        refine V_getR f dX9_depth_30 lf_9_7 rfl zm_0 rfl ?_
        refine V_iload_n f dX9_depth_33 1 rfl ?_
        refine V_iload_n f dX9_depth_34 2 rfl ?_
        refine V_iast f dX9_depth_35 zm_1 (isBay9_in c1) ?_
        refine V_iconst (v := 1) f dX9_depth_36 (by decide) ?_
        exact V_iret f q dX9_depth_37 rfl (Nat.zero_le _) (Nat.zero_le _) ⟨rfl, rfl, (by simp only [s3_X9_depth, if_neg c1, if_neg c2, if_pos c3]), (by simp only [s3_X9_depth, if_neg c1, if_neg c2, if_pos c3])⟩
      · refine V_iconst (v := 0) f dX9_depth_27 (by decide) ?_
        exact V_iret f q dX9_depth_28 rfl (Nat.zero_le _) (Nat.zero_le _) ⟨rfl, rfl, (by simp only [s3_X9_depth, if_neg c1, if_neg c2, if_neg c3]), (by simp only [s3_X9_depth, if_neg c1, if_neg c2, if_neg c3])⟩
def s3_X9_ridge (M : MT) (b : Int32) : Int32 × MT := (if (s_X9_isBay M b) = 0 then (0, M) else (if (M 2 (Int32.toNatClampNeg b)) = 1 then (1, (up2 M 2 (Int32.toNatClampNeg b) 2)) else (0, M)))
set_option maxHeartbeats 4000000 in
set_option maxRecDepth 100000 in
theorem c3_X9_ridge (l : Launch) (D : va_G) (cy : Nat → ClassId) (X : va_W) (ad : Nat → Nat) (M : MT) (b : Int32) (hS : InvS M) : CtI l yX9_ridge cX9_ridge 2 .boolean (rK 2) D cy X ad ZM M [.ref (ad 0), .int b] (s3_X9_ridge M b).1 (s3_X9_ridge M b).2 := by
  refine Ctr.of (by decide +kernel) (Nat.le_of_ble_eq_true rfl) ?_
  intro K f q hnm hl0 hD0 hy0 hX0
  show V K ad 0 0 ZM M 0 [(0, .ref (ad 0)), (1, .int b)] []
  refine V_iload_n f dX9_ridge_0 1 rfl ?_
  refine V_cSi (As := [.int b]) (rest := []) f dX9_ridge_1 lk_X9_213 ml_X9_213 sta_X9_isBay (c_X9_isBay (kl K) (kD K) (ky K) (kX K) ad M b) rfl (Nat.le_of_ble_eq_true rfl) rfl ⟨by decide, by decide⟩ ⟨Nat.zero_le _, Nat.zero_le _⟩ rfl rfl ?_
  refine V_if_eq (tgt := 17) f dX9_ridge_4 (by decide) (fun c1 => ?_) (fun c1 => ?_)
  · refine V_iconst (v := 0) f dX9_ridge_17 (by decide) ?_
    exact V_iret f q dX9_ridge_18 rfl (Nat.zero_le _) (Nat.zero_le _) ⟨rfl, rfl, (by simp only [s3_X9_ridge, if_pos c1]), (by simp only [s3_X9_ridge, if_pos c1])⟩
  · refine V_aload_n f dX9_ridge_7 0 rfl ?_
    refine V_getR f dX9_ridge_8 lf_9_13 rfl zm_0 rfl ?_
    refine V_iload_n f dX9_ridge_11 1 rfl ?_
    refine V_ialdE (x := M 2 (Int32.toNatClampNeg b)) f dX9_ridge_12 zm_2 (isBay9_in c1) rfl ?_
    refine V_iconst (v := 1) f dX9_ridge_13 (by decide) ?_
    refine V_icmp_eq (tgt := 19) f dX9_ridge_14 (by decide) (fun c2 => ?_) (fun c2 => ?_)
    · refine V_aload_n f dX9_ridge_19 0 rfl ?_
      refine V_getR f dX9_ridge_20 lf_9_13 rfl zm_0 rfl ?_
      refine V_iload_n f dX9_ridge_23 1 rfl ?_
      refine V_iconst (v := 2) f dX9_ridge_24 (by decide) ?_
      refine V_iast f dX9_ridge_25 zm_2 (isBay9_in c1) ?_
      refine V_iconst (v := 1) f dX9_ridge_26 (by decide) ?_
      exact V_iret f q dX9_ridge_27 rfl (Nat.zero_le _) (Nat.zero_le _) ⟨rfl, rfl, (by simp only [s3_X9_ridge, if_neg c1, if_pos c2]), (by simp only [s3_X9_ridge, if_neg c1, if_pos c2])⟩
    · refine V_iconst (v := 0) f dX9_ridge_17 (by decide) ?_
      exact V_iret f q dX9_ridge_18 rfl (Nat.zero_le _) (Nat.zero_le _) ⟨rfl, rfl, (by simp only [s3_X9_ridge, if_neg c1, if_neg c2]), (by simp only [s3_X9_ridge, if_neg c1, if_neg c2])⟩
def s3_X9_probe (M : MT) (b : Int32) (e : Int32) : Int32 × MT := (if (s_X9_isBay M b) = 0 then ((-1), M) else (if (M 2 (Int32.toNatClampNeg b)) = 0 then ((-1), M) else (if (s_X9_isIn M e 0 900) = 0 then ((-1), M) else (if (M 5 (Int32.toNatClampNeg b)) = 8 then ((-1), M) else (if (M 5 (Int32.toNatClampNeg b)) = 0 then ((M 5 (Int32.toNatClampNeg b)) + 1, (up2 (up2 M 6 (Int32.toNatClampNeg b) e) 5 (Int32.toNatClampNeg b) ((M 5 (Int32.toNatClampNeg b)) + 1))) else ((M 5 (Int32.toNatClampNeg b)) + 1, (up2 (up2 M 6 (Int32.toNatClampNeg b) (if (M 6 (Int32.toNatClampNeg b)) < e then e else (M 6 (Int32.toNatClampNeg b)))) 5 (Int32.toNatClampNeg b) ((M 5 (Int32.toNatClampNeg b)) + 1))))))))
set_option maxHeartbeats 4000000 in
set_option maxRecDepth 100000 in
theorem c3_X9_probe (l : Launch) (D : va_G) (cy : Nat → ClassId) (X : va_W) (ad : Nat → Nat) (M : MT) (b : Int32) (e : Int32) (hS : InvS M) : CtI l yX9_probe cX9_probe 3 .int (rK 2) D cy X ad ZM M [.ref (ad 0), .int b, .int e] (s3_X9_probe M b e).1 (s3_X9_probe M b e).2 := by
  refine Ctr.of (by decide +kernel) (Nat.le_of_ble_eq_true rfl) ?_
  intro K f q hnm hl0 hD0 hy0 hX0
  show V K ad 0 0 ZM M 0 [(0, .ref (ad 0)), (1, .int b), (2, .int e)] []
  refine V_iload_n f dX9_probe_0 1 rfl ?_
  refine V_cSi (As := [.int b]) (rest := []) f dX9_probe_1 lk_X9_213 ml_X9_213 sta_X9_isBay (c_X9_isBay (kl K) (kD K) (ky K) (kX K) ad M b) rfl (Nat.le_of_ble_eq_true rfl) rfl ⟨by decide, by decide⟩ ⟨Nat.zero_le _, Nat.zero_le _⟩ rfl rfl ?_
  refine V_if_eq (tgt := 38) f dX9_probe_4 (by decide) (fun c1 => ?_) (fun c1 => ?_)
  · refine V_iconst (v := (-1)) f dX9_probe_38 (by decide) ?_
    exact V_iret f q dX9_probe_39 rfl (Nat.zero_le _) (Nat.zero_le _) ⟨rfl, rfl, (by simp only [s3_X9_probe, if_pos c1]), (by simp only [s3_X9_probe, if_pos c1])⟩
  · refine V_aload_n f dX9_probe_7 0 rfl ?_
    refine V_getR f dX9_probe_8 lf_9_13 rfl zm_0 rfl ?_
    refine V_iload_n f dX9_probe_11 1 rfl ?_
    refine V_ialdE (x := M 2 (Int32.toNatClampNeg b)) f dX9_probe_12 zm_2 (isBay9_in c1) rfl ?_
    refine V_if_eq (tgt := 38) f dX9_probe_13 (by decide) (fun c2 => ?_) (fun c2 => ?_)
    · refine V_iconst (v := (-1)) f dX9_probe_38 (by decide) ?_
      exact V_iret f q dX9_probe_39 rfl (Nat.zero_le _) (Nat.zero_le _) ⟨rfl, rfl, (by simp only [s3_X9_probe, if_neg c1, if_pos c2]), (by simp only [s3_X9_probe, if_neg c1, if_pos c2])⟩
    · refine V_iload_n f dX9_probe_16 2 rfl ?_
      refine V_iconst (v := 0) f dX9_probe_17 (by decide) ?_
      refine V_sipush (v := 900) f dX9_probe_18 (by decide) ?_
      refine V_cSi (As := [.int e, .int 0, .int 900]) (rest := []) f dX9_probe_21 lk_X9_109 ml_X9_109 sta_X9_isIn (c_X9_isIn (kl K) (kD K) (ky K) (kX K) ad M e 0 900) rfl (Nat.le_of_ble_eq_true rfl) rfl ⟨by decide, by decide⟩ ⟨Nat.zero_le _, Nat.zero_le _⟩ rfl rfl ?_
      refine V_if_eq (tgt := 38) f dX9_probe_24 (by decide) (fun c3 => ?_) (fun c3 => ?_)
      · refine V_iconst (v := (-1)) f dX9_probe_38 (by decide) ?_
        exact V_iret f q dX9_probe_39 rfl (Nat.zero_le _) (Nat.zero_le _) ⟨rfl, rfl, (by simp only [s3_X9_probe, if_neg c1, if_neg c2, if_pos c3]), (by simp only [s3_X9_probe, if_neg c1, if_neg c2, if_pos c3])⟩
      · refine V_aload_n f dX9_probe_27 0 rfl ?_
        refine V_getR f dX9_probe_28 lf_9_22 rfl zm_0 rfl ?_
        refine V_iload_n f dX9_probe_31 1 rfl ?_
        refine V_ialdE (x := M 5 (Int32.toNatClampNeg b)) f dX9_probe_32 zm_5 (isBay9_in c1) rfl ?_
        refine V_bipush (v := 8) f dX9_probe_33 (by decide) ?_
        refine V_icmp_ne (tgt := 40) f dX9_probe_35 (by decide) (fun c4 => ?_) (fun c4 => ?_)
        · refine V_aload_n f dX9_probe_40 0 rfl ?_
          refine V_getR f dX9_probe_41 lf_9_25 rfl zm_0 rfl ?_
          refine V_iload_n f dX9_probe_44 1 rfl ?_
          refine V_aload_n f dX9_probe_45 0 rfl ?_
          refine V_getR f dX9_probe_46 lf_9_22 rfl zm_0 rfl ?_
          refine V_iload_n f dX9_probe_49 1 rfl ?_
          refine V_ialdE (x := M 5 (Int32.toNatClampNeg b)) f dX9_probe_50 zm_5 (isBay9_in c1) rfl ?_
          refine V_if_ne (tgt := 58) f dX9_probe_51 (by decide) (fun c5 => ?_) (fun c5 => ?_)
          · refine V_aload_n f dX9_probe_58 0 rfl ?_
            refine V_getR f dX9_probe_59 lf_9_25 rfl zm_0 rfl ?_
            refine V_iload_n f dX9_probe_62 1 rfl ?_
            refine V_ialdE (x := M 6 (Int32.toNatClampNeg b)) f dX9_probe_63 zm_6 (isBay9_in c1) rfl ?_
            refine V_iload_n f dX9_probe_64 2 rfl ?_
            refine V_mmax f dX9_probe_65 ml_X9_216 ma_max ma_ini mc_max (by decide) (Nat.le_of_ble_eq_true rfl) (Nat.zero_le _) (Nat.zero_le _) ?_
            refine V_iast f dX9_probe_68 zm_6 (isBay9_in c1) ?_
            refine V_aload_n f dX9_probe_69 0 rfl ?_
            refine V_getR f dX9_probe_70 lf_9_22 rfl zm_0 rfl ?_
            refine V_iload_n f dX9_probe_73 1 rfl ?_
            refine V_dup2 f dX9_probe_74 rfl rfl ?_
            refine V_ialdE (x := M 5 (Int32.toNatClampNeg b)) f dX9_probe_75 zm_5 (isBay9_in c1) (up_c (by decide) rfl) ?_
            refine V_iconst (v := 1) f dX9_probe_76 (by decide) ?_
            refine V_iadd f dX9_probe_77 ?_
            refine V_iast f dX9_probe_78 zm_5 (isBay9_in c1) ?_
            refine V_aload_n f dX9_probe_79 0 rfl ?_
            refine V_getR f dX9_probe_80 lf_9_22 rfl zm_0 rfl ?_
            refine V_iload_n f dX9_probe_83 1 rfl ?_
            refine V_ialdE (x := (M 5 (Int32.toNatClampNeg b)) + 1) f dX9_probe_84 zm_5 (isBay9_in c1) up_s ?_
            exact V_iret f q dX9_probe_85 rfl (Nat.zero_le _) (Nat.zero_le _) ⟨rfl, rfl, (by simp only [s3_X9_probe, if_neg c1, if_neg c2, if_neg c3, if_neg c4, if_neg c5]), (by simp only [s3_X9_probe, if_neg c1, if_neg c2, if_neg c3, if_neg c4, if_neg c5])⟩
          · refine V_iload_n f dX9_probe_54 2 rfl ?_
            refine V_goto (tgt := 68) f dX9_probe_55 (by decide) ?_
            refine V_iast f dX9_probe_68 zm_6 (isBay9_in c1) ?_
            refine V_aload_n f dX9_probe_69 0 rfl ?_
            refine V_getR f dX9_probe_70 lf_9_22 rfl zm_0 rfl ?_
            refine V_iload_n f dX9_probe_73 1 rfl ?_
            refine V_dup2 f dX9_probe_74 rfl rfl ?_
            refine V_ialdE (x := M 5 (Int32.toNatClampNeg b)) f dX9_probe_75 zm_5 (isBay9_in c1) (up_c (by decide) rfl) ?_
            refine V_iconst (v := 1) f dX9_probe_76 (by decide) ?_
            refine V_iadd f dX9_probe_77 ?_
            refine V_iast f dX9_probe_78 zm_5 (isBay9_in c1) ?_
            refine V_aload_n f dX9_probe_79 0 rfl ?_
            refine V_getR f dX9_probe_80 lf_9_22 rfl zm_0 rfl ?_
            refine V_iload_n f dX9_probe_83 1 rfl ?_
            refine V_ialdE (x := (M 5 (Int32.toNatClampNeg b)) + 1) f dX9_probe_84 zm_5 (isBay9_in c1) up_s ?_
            exact V_iret f q dX9_probe_85 rfl (Nat.zero_le _) (Nat.zero_le _) ⟨rfl, rfl, (by simp only [s3_X9_probe, if_neg c1, if_neg c2, if_neg c3, if_neg c4, if_pos c5]), (by simp only [s3_X9_probe, if_neg c1, if_neg c2, if_neg c3, if_neg c4, if_pos c5])⟩
        · refine V_iconst (v := (-1)) f dX9_probe_38 (by decide) ?_
          exact V_iret f q dX9_probe_39 rfl (Nat.zero_le _) (Nat.zero_le _) ⟨rfl, rfl, (by simp only [s3_X9_probe, if_neg c1, if_neg c2, if_neg c3, if_pos c4]), (by simp only [s3_X9_probe, if_neg c1, if_neg c2, if_neg c3, if_pos c4])⟩
def s3_X9_stack (M : MT) : Int32 × MT := (if (M 0 9) = 10 then ((-1), M) else (((M 0 9) + 1) - 1, (up2 (up2 (up2 (up2 (up2 M 10 (Int32.toNatClampNeg (M 0 9)) 10) 11 (Int32.toNatClampNeg (M 0 9)) (-1)) 12 (Int32.toNatClampNeg (M 0 9)) (M 0 0)) 13 (Int32.toNatClampNeg (M 0 9)) (-1)) 0 9 ((M 0 9) + 1))))
set_option maxHeartbeats 4000000 in
set_option maxRecDepth 100000 in
theorem c3_X9_stack (l : Launch) (D : va_G) (cy : Nat → ClassId) (X : va_W) (ad : Nat → Nat) (M : MT) (hS : InvS M) : CtI l yX9_stack cX9_stack 1 .int (rK 0) D cy X ad ZM M [.ref (ad 0)] (s3_X9_stack M).1 (s3_X9_stack M).2 := by
  refine Ctr.of (by decide +kernel) (Nat.le_of_ble_eq_true rfl) ?_
  intro K f q hnm hl0 hD0 hy0 hX0
  show V K ad 0 0 ZM M 0 [(0, .ref (ad 0))] []
  refine V_aload_n f dX9_stack_0 0 rfl ?_
  refine V_getE (x := M 0 9) f dX9_stack_1 lf_9_113 rfl zm_0 rfl ?_
  refine V_bipush (v := 10) f dX9_stack_4 (by decide) ?_
  refine V_icmp_ne (tgt := 11) f dX9_stack_6 (by decide) (fun c1 => ?_) (fun c1 => ?_)
  · refine V_aload_n f dX9_stack_11 0 rfl ?_
    refine V_getR f dX9_stack_12 lf_9_37 rfl zm_0 rfl ?_
    refine V_aload_n f dX9_stack_15 0 rfl ?_
    refine V_getE (x := M 0 9) f dX9_stack_16 lf_9_113 rfl zm_0 rfl ?_
    refine V_bipush (v := 10) f dX9_stack_19 (by decide) ?_
    refine V_iast f dX9_stack_21 zm_10 (ne10_in hS c1) ?_
    refine V_aload_n f dX9_stack_22 0 rfl ?_
    refine V_getR f dX9_stack_23 lf_9_40 rfl zm_0 rfl ?_
    refine V_aload_n f dX9_stack_26 0 rfl ?_
    refine V_getE (x := M 0 9) f dX9_stack_27 lf_9_113 rfl zm_0 (up_c (by decide) rfl) ?_
    refine V_iconst (v := (-1)) f dX9_stack_30 (by decide) ?_
    refine V_iast f dX9_stack_31 zm_11 (ne10_in hS c1) ?_
    refine V_aload_n f dX9_stack_32 0 rfl ?_
    refine V_getR f dX9_stack_33 lf_9_43 rfl zm_0 rfl ?_
    refine V_aload_n f dX9_stack_36 0 rfl ?_
    refine V_getE (x := M 0 9) f dX9_stack_37 lf_9_113 rfl zm_0 (up_c (by decide) (up_c (by decide) rfl)) ?_
    refine V_aload_n f dX9_stack_40 0 rfl ?_
    refine V_getE (x := M 0 0) f dX9_stack_41 lf_9_194 rfl zm_0 (up_c (by decide) (up_c (by decide) rfl)) ?_
    refine V_iast f dX9_stack_44 zm_12 (ne10_in hS c1) ?_
    refine V_aload_n f dX9_stack_45 0 rfl ?_
    refine V_getR f dX9_stack_46 lf_9_46 rfl zm_0 rfl ?_
    refine V_aload_n f dX9_stack_49 0 rfl ?_
    refine V_getE (x := M 0 9) f dX9_stack_50 lf_9_113 rfl zm_0 (up_c (by decide) (up_c (by decide) (up_c (by decide) rfl))) ?_
    refine V_iconst (v := (-1)) f dX9_stack_53 (by decide) ?_
    refine V_iast f dX9_stack_54 zm_13 (ne10_in hS c1) ?_
    refine V_aload_n f dX9_stack_55 0 rfl ?_
    refine V_dup f dX9_stack_56 rfl ?_
    refine V_getE (x := M 0 9) f dX9_stack_57 lf_9_113 rfl zm_0 (up_c (by decide) (up_c (by decide) (up_c (by decide) (up_c (by decide) rfl)))) ?_
    refine V_iconst (v := 1) f dX9_stack_60 (by decide) ?_
    refine V_iadd f dX9_stack_61 ?_
    refine V_putI f dX9_stack_62 lf_9_113 lp_9_9 rfl rfl rfl rfl zm_0 ?_
    refine V_aload_n f dX9_stack_65 0 rfl ?_
    refine V_getE (x := (M 0 9) + 1) f dX9_stack_66 lf_9_113 rfl zm_0 up_s ?_
    refine V_iconst (v := 1) f dX9_stack_69 (by decide) ?_
    refine V_isub f dX9_stack_70 ?_
    exact V_iret f q dX9_stack_71 rfl (Nat.zero_le _) (Nat.zero_le _) ⟨rfl, rfl, (by simp only [s3_X9_stack, if_neg c1]), (by simp only [s3_X9_stack, if_neg c1])⟩
  · refine V_iconst (v := (-1)) f dX9_stack_9 (by decide) ?_
    exact V_iret f q dX9_stack_10 rfl (Nat.zero_le _) (Nat.zero_le _) ⟨rfl, rfl, (by simp only [s3_X9_stack, if_pos c1]), (by simp only [s3_X9_stack, if_pos c1])⟩
def s3_X9_track (M : MT) (b : Int32) : Int32 × MT := (if (s_X9_isBay M b) = 0 then ((-1), M) else (if 0 ≤ (b - (M 0 1)) then (b - (M 0 1)) else 0 - (b - (M 0 1)), (up2 (up2 M 0 1 b) 0 2 ((M 0 2) + (if 0 ≤ (b - (M 0 1)) then (b - (M 0 1)) else 0 - (b - (M 0 1)))))))
set_option maxHeartbeats 4000000 in
set_option maxRecDepth 100000 in
theorem c3_X9_track (l : Launch) (D : va_G) (cy : Nat → ClassId) (X : va_W) (ad : Nat → Nat) (M : MT) (b : Int32) (hS : InvS M) : CtI l yX9_track cX9_track 3 .int (rK 2) D cy X ad ZM M [.ref (ad 0), .int b] (s3_X9_track M b).1 (s3_X9_track M b).2 := by
  refine Ctr.of (by decide +kernel) (Nat.le_of_ble_eq_true rfl) ?_
  intro K f q hnm hl0 hD0 hy0 hX0
  show V K ad 0 0 ZM M 0 [(0, .ref (ad 0)), (1, .int b)] []
  refine V_iload_n f dX9_track_0 1 rfl ?_
  refine V_cSi (As := [.int b]) (rest := []) f dX9_track_1 lk_X9_213 ml_X9_213 sta_X9_isBay (c_X9_isBay (kl K) (kD K) (ky K) (kX K) ad M b) rfl (Nat.le_of_ble_eq_true rfl) rfl ⟨by decide, by decide⟩ ⟨Nat.zero_le _, Nat.zero_le _⟩ rfl rfl ?_
  refine V_if_ne (tgt := 9) f dX9_track_4 (by decide) (fun c1 => ?_) (fun c1 => ?_)
  · refine V_iload_n f dX9_track_9 1 rfl ?_
    refine V_aload_n f dX9_track_10 0 rfl ?_
    refine V_getE (x := M 0 1) f dX9_track_11 lf_9_222 rfl zm_0 rfl ?_
    refine V_isub f dX9_track_14 ?_
    refine V_mabs f dX9_track_15 ml_X9_225 ma_abs ma_ini mc_abs (by decide) (Nat.le_of_ble_eq_true rfl) (Nat.zero_le _) (Nat.zero_le _) ?_
    refine V_istore_n f dX9_track_18 rfl (by decide) rfl ?_
    refine V_aload_n f dX9_track_19 1 rfl ?_
    refine V_iload_n f dX9_track_20 2 rfl ?_
    refine V_putI f dX9_track_21 lf_9_222 lp_9_1 rfl rfl rfl rfl zm_0 ?_
    refine V_aload_n f dX9_track_24 1 rfl ?_
    refine V_dup f dX9_track_25 rfl ?_
    refine V_getE (x := M 0 2) f dX9_track_26 lf_9_237 rfl zm_0 (up_k (by decide) rfl) ?_
    refine V_iload_n f dX9_track_29 0 rfl ?_
    refine V_iadd f dX9_track_30 ?_
    refine V_putI f dX9_track_31 lf_9_237 lp_9_2 rfl rfl rfl rfl zm_0 ?_
    refine V_iload_n f dX9_track_34 0 rfl ?_
    exact V_iret f q dX9_track_35 rfl (Nat.zero_le _) (Nat.zero_le _) ⟨rfl, rfl, (by simp only [s3_X9_track, if_neg c1]), (by simp only [s3_X9_track, if_neg c1])⟩
  · refine V_iconst (v := (-1)) f dX9_track_7 (by decide) ?_
    exact V_iret f q dX9_track_8 rfl (Nat.zero_le _) (Nat.zero_le _) ⟨rfl, rfl, (by simp only [s3_X9_track, if_pos c1]), (by simp only [s3_X9_track, if_pos c1])⟩
def s3_X9_want (M : MT) (a : Int32) : Int32 × MT := (if (s_X9_isIn M a 0 1000) = 0 then (0, M) else (1, (up2 M 0 3 a)))
set_option maxHeartbeats 4000000 in
set_option maxRecDepth 100000 in
theorem c3_X9_want (l : Launch) (D : va_G) (cy : Nat → ClassId) (X : va_W) (ad : Nat → Nat) (M : MT) (a : Int32) (hS : InvS M) : CtI l yX9_want cX9_want 2 .boolean (rK 1) D cy X ad ZM M [.ref (ad 0), .int a] (s3_X9_want M a).1 (s3_X9_want M a).2 := by
  refine Ctr.of (by decide +kernel) (Nat.le_of_ble_eq_true rfl) ?_
  intro K f q hnm hl0 hD0 hy0 hX0
  show V K ad 0 0 ZM M 0 [(0, .ref (ad 0)), (1, .int a)] []
  refine V_iload_n f dX9_want_0 1 rfl ?_
  refine V_iconst (v := 0) f dX9_want_1 (by decide) ?_
  refine V_sipush (v := 1000) f dX9_want_2 (by decide) ?_
  refine V_cSi (As := [.int a, .int 0, .int 1000]) (rest := []) f dX9_want_5 lk_X9_109 ml_X9_109 sta_X9_isIn (c_X9_isIn (kl K) (kD K) (ky K) (kX K) ad M a 0 1000) rfl (Nat.le_of_ble_eq_true rfl) rfl ⟨by decide, by decide⟩ ⟨Nat.zero_le _, Nat.zero_le _⟩ rfl rfl ?_
  refine V_if_ne (tgt := 13) f dX9_want_8 (by decide) (fun c1 => ?_) (fun c1 => ?_)
  · refine V_aload_n f dX9_want_13 0 rfl ?_
    refine V_iload_n f dX9_want_14 1 rfl ?_
    refine V_putI f dX9_want_15 lf_9_240 lp_9_3 rfl rfl rfl rfl zm_0 ?_
    refine V_iconst (v := 1) f dX9_want_18 (by decide) ?_
    exact V_iret f q dX9_want_19 rfl (Nat.zero_le _) (Nat.zero_le _) ⟨rfl, rfl, (by simp only [s3_X9_want, if_neg c1]), (by simp only [s3_X9_want, if_neg c1])⟩
  · refine V_iconst (v := 0) f dX9_want_11 (by decide) ?_
    exact V_iret f q dX9_want_12 rfl (Nat.zero_le _) (Nat.zero_le _) ⟨rfl, rfl, (by simp only [s3_X9_want, if_pos c1]), (by simp only [s3_X9_want, if_pos c1])⟩
def s3_X9_read (M : MT) (a : Int32) (e : Int32) : Int32 × MT := (if (s_X9_isStack M a) = 0 then (0, M) else (if (s_X9_isIn M e 0 100) = 0 then (0, M) else (1, (up2 M 11 (Int32.toNatClampNeg a) e))))
set_option maxHeartbeats 4000000 in
set_option maxRecDepth 100000 in
theorem c3_X9_read (l : Launch) (D : va_G) (cy : Nat → ClassId) (X : va_W) (ad : Nat → Nat) (M : MT) (a : Int32) (e : Int32) (hS : InvS M) : CtI l yX9_read cX9_read 3 .boolean (rK 2) D cy X ad ZM M [.ref (ad 0), .int a, .int e] (s3_X9_read M a e).1 (s3_X9_read M a e).2 := by
  refine Ctr.of (by decide +kernel) (Nat.le_of_ble_eq_true rfl) ?_
  intro K f q hnm hl0 hD0 hy0 hX0
  show V K ad 0 0 ZM M 0 [(0, .ref (ad 0)), (1, .int a), (2, .int e)] []
  refine V_aload_n f dX9_read_0 0 rfl ?_
  refine V_iload_n f dX9_read_1 1 rfl ?_
  refine V_cVi (As := [.int a]) (rest := []) f dX9_read_2 lk_X9_231 ml_X9_231 ins_X9_isStack sel_X9_isStack zm_0 (by decide) rfl (c_X9_isStack (kl K) (kD K) (ky K) (kX K) ad M a) rfl (Nat.le_of_ble_eq_true rfl) rfl ⟨by decide, by decide⟩ ⟨Nat.zero_le _, Nat.zero_le _⟩ rfl rfl ?_
  refine V_if_eq (tgt := 18) f dX9_read_5 (by decide) (fun c1 => ?_) (fun c1 => ?_)
  · refine V_iconst (v := 0) f dX9_read_18 (by decide) ?_
    exact V_iret f q dX9_read_19 rfl (Nat.zero_le _) (Nat.zero_le _) ⟨rfl, rfl, (by simp only [s3_X9_read, if_pos c1]), (by simp only [s3_X9_read, if_pos c1])⟩
  · refine V_iload_n f dX9_read_8 2 rfl ?_
    refine V_iconst (v := 0) f dX9_read_9 (by decide) ?_
    refine V_bipush (v := 100) f dX9_read_10 (by decide) ?_
    refine V_cSi (As := [.int e, .int 0, .int 100]) (rest := []) f dX9_read_12 lk_X9_109 ml_X9_109 sta_X9_isIn (c_X9_isIn (kl K) (kD K) (ky K) (kX K) ad M e 0 100) rfl (Nat.le_of_ble_eq_true rfl) rfl ⟨by decide, by decide⟩ ⟨Nat.zero_le _, Nat.zero_le _⟩ rfl rfl ?_
    refine V_if_ne (tgt := 20) f dX9_read_15 (by decide) (fun c2 => ?_) (fun c2 => ?_)
    · refine V_aload_n f dX9_read_20 0 rfl ?_
      refine V_getR f dX9_read_21 lf_9_40 rfl zm_0 rfl ?_
      refine V_iload_n f dX9_read_24 1 rfl ?_
      refine V_iload_n f dX9_read_25 2 rfl ?_
      refine V_iast f dX9_read_26 zm_11 (isStack9_in hS c1) ?_
      refine V_iconst (v := 1) f dX9_read_27 (by decide) ?_
      exact V_iret f q dX9_read_28 rfl (Nat.zero_le _) (Nat.zero_le _) ⟨rfl, rfl, (by simp only [s3_X9_read, if_neg c1, if_neg c2]), (by simp only [s3_X9_read, if_neg c1, if_neg c2])⟩
    · refine V_iconst (v := 0) f dX9_read_18 (by decide) ?_
      exact V_iret f q dX9_read_19 rfl (Nat.zero_le _) (Nat.zero_le _) ⟨rfl, rfl, (by simp only [s3_X9_read, if_neg c1, if_pos c2]), (by simp only [s3_X9_read, if_neg c1, if_pos c2])⟩
def s3_X9_fault (M : MT) : Int32 := (M 0 30)
set_option maxHeartbeats 4000000 in
set_option maxRecDepth 100000 in
theorem c3_X9_fault (l : Launch) (D : va_G) (cy : Nat → ClassId) (X : va_W) (ad : Nat → Nat) (M : MT) (hS : InvS M) : CtI l yX9_fault cX9_fault 1 .int (rK 0) D cy X ad ZM M [.ref (ad 0)] (s3_X9_fault M) M := by
  refine Ctr.of (by decide +kernel) (Nat.le_of_ble_eq_true rfl) ?_
  intro K f q hnm hl0 hD0 hy0 hX0
  show V K ad 0 0 ZM M 0 [(0, .ref (ad 0))] []
  refine V_aload_n f dX9_fault_0 0 rfl ?_
  refine V_getE (x := M 0 30) f dX9_fault_1 lf_9_63 rfl zm_0 rfl ?_
  exact V_iret f q dX9_fault_4 rfl (Nat.zero_le _) (Nat.zero_le _) ⟨rfl, rfl, (by simp only [s3_X9_fault]), rfl⟩
def s3_X9_bay (M : MT) (b : Int32) (e : Int32) : Int32 := (if (s_X9_isBay M b) = 0 then (-1) else (if e = 0 then (M 1 (Int32.toNatClampNeg b)) else (if e = 1 then (M 2 (Int32.toNatClampNeg b)) else (if e = 2 then (M 3 (Int32.toNatClampNeg b)) else (if e = 3 then (M 4 (Int32.toNatClampNeg b)) else (if e = 4 then (M 5 (Int32.toNatClampNeg b)) else (if e = 5 then (if (M 5 (Int32.toNatClampNeg b)) = 0 then (-1) else (M 6 (Int32.toNatClampNeg b))) else (if e = 6 then (M 7 (Int32.toNatClampNeg b)) else (-1)))))))))
set_option maxHeartbeats 4000000 in
set_option maxRecDepth 100000 in
theorem c3_X9_bay (l : Launch) (D : va_G) (cy : Nat → ClassId) (X : va_W) (ad : Nat → Nat) (M : MT) (b : Int32) (e : Int32) (hS : InvS M) : CtI l yX9_bay cX9_bay 3 .int (rK 2) D cy X ad ZM M [.ref (ad 0), .int b, .int e] (s3_X9_bay M b e) M := by
  refine Ctr.of (by decide +kernel) (Nat.le_of_ble_eq_true rfl) ?_
  intro K f q hnm hl0 hD0 hy0 hX0
  show V K ad 0 0 ZM M 0 [(0, .ref (ad 0)), (1, .int b), (2, .int e)] []
  refine V_iload_n f dX9_bay_0 1 rfl ?_
  refine V_cSi (As := [.int b]) (rest := []) f dX9_bay_1 lk_X9_213 ml_X9_213 sta_X9_isBay (c_X9_isBay (kl K) (kD K) (ky K) (kX K) ad M b) rfl (Nat.le_of_ble_eq_true rfl) rfl ⟨by decide, by decide⟩ ⟨Nat.zero_le _, Nat.zero_le _⟩ rfl rfl ?_
  refine V_if_ne (tgt := 9) f dX9_bay_4 (by decide) (fun c1 => ?_) (fun c1 => ?_)
  · refine V_iload_n f dX9_bay_9 2 rfl ?_
    rcases Decidable.em (e = 0) with c2 | c2
    · refine V_tableIn (off := 42) (tgt := 52) f dX9_bay_10 (by rw [c2]; decide) (by rw [c2]; decide) (by rw [c2]; decide) (by decide) ?_
      refine V_aload_n f dX9_bay_52 0 rfl ?_
      refine V_getR f dX9_bay_53 lf_9_7 rfl zm_0 rfl ?_
      refine V_iload_n f dX9_bay_56 1 rfl ?_
      refine V_ialdE (x := M 1 (Int32.toNatClampNeg b)) f dX9_bay_57 zm_1 (isBay9_in c1) rfl ?_
      exact V_iret f q dX9_bay_58 rfl (Nat.zero_le _) (Nat.zero_le _) ⟨rfl, rfl, (by simp only [s3_X9_bay, if_neg c1, if_pos c2]), rfl⟩
    rcases Decidable.em (e = 1) with c3 | c3
    · refine V_tableIn (off := 49) (tgt := 59) f dX9_bay_10 (by rw [c3]; decide) (by rw [c3]; decide) (by rw [c3]; decide) (by decide) ?_
      refine V_aload_n f dX9_bay_59 0 rfl ?_
      refine V_getR f dX9_bay_60 lf_9_13 rfl zm_0 rfl ?_
      refine V_iload_n f dX9_bay_63 1 rfl ?_
      refine V_ialdE (x := M 2 (Int32.toNatClampNeg b)) f dX9_bay_64 zm_2 (isBay9_in c1) rfl ?_
      exact V_iret f q dX9_bay_65 rfl (Nat.zero_le _) (Nat.zero_le _) ⟨rfl, rfl, (by simp only [s3_X9_bay, if_neg c1, if_neg c2, if_pos c3]), rfl⟩
    rcases Decidable.em (e = 2) with c4 | c4
    · refine V_tableIn (off := 56) (tgt := 66) f dX9_bay_10 (by rw [c4]; decide) (by rw [c4]; decide) (by rw [c4]; decide) (by decide) ?_
      refine V_aload_n f dX9_bay_66 0 rfl ?_
      refine V_getR f dX9_bay_67 lf_9_16 rfl zm_0 rfl ?_
      refine V_iload_n f dX9_bay_70 1 rfl ?_
      refine V_ialdE (x := M 3 (Int32.toNatClampNeg b)) f dX9_bay_71 zm_3 (isBay9_in c1) rfl ?_
      exact V_iret f q dX9_bay_72 rfl (Nat.zero_le _) (Nat.zero_le _) ⟨rfl, rfl, (by simp only [s3_X9_bay, if_neg c1, if_neg c2, if_neg c3, if_pos c4]), rfl⟩
    rcases Decidable.em (e = 3) with c5 | c5
    · refine V_tableIn (off := 63) (tgt := 73) f dX9_bay_10 (by rw [c5]; decide) (by rw [c5]; decide) (by rw [c5]; decide) (by decide) ?_
      refine V_aload_n f dX9_bay_73 0 rfl ?_
      refine V_getR f dX9_bay_74 lf_9_19 rfl zm_0 rfl ?_
      refine V_iload_n f dX9_bay_77 1 rfl ?_
      refine V_ialdE (x := M 4 (Int32.toNatClampNeg b)) f dX9_bay_78 zm_4 (isBay9_in c1) rfl ?_
      exact V_iret f q dX9_bay_79 rfl (Nat.zero_le _) (Nat.zero_le _) ⟨rfl, rfl, (by simp only [s3_X9_bay, if_neg c1, if_neg c2, if_neg c3, if_neg c4, if_pos c5]), rfl⟩
    rcases Decidable.em (e = 4) with c6 | c6
    · refine V_tableIn (off := 70) (tgt := 80) f dX9_bay_10 (by rw [c6]; decide) (by rw [c6]; decide) (by rw [c6]; decide) (by decide) ?_
      refine V_aload_n f dX9_bay_80 0 rfl ?_
      refine V_getR f dX9_bay_81 lf_9_22 rfl zm_0 rfl ?_
      refine V_iload_n f dX9_bay_84 1 rfl ?_
      refine V_ialdE (x := M 5 (Int32.toNatClampNeg b)) f dX9_bay_85 zm_5 (isBay9_in c1) rfl ?_
      exact V_iret f q dX9_bay_86 rfl (Nat.zero_le _) (Nat.zero_le _) ⟨rfl, rfl, (by simp only [s3_X9_bay, if_neg c1, if_neg c2, if_neg c3, if_neg c4, if_neg c5, if_pos c6]), rfl⟩
    rcases Decidable.em (e = 5) with c7 | c7
    · refine V_tableIn (off := 77) (tgt := 87) f dX9_bay_10 (by rw [c7]; decide) (by rw [c7]; decide) (by rw [c7]; decide) (by decide) ?_
      refine V_aload_n f dX9_bay_87 0 rfl ?_
      refine V_getR f dX9_bay_88 lf_9_22 rfl zm_0 rfl ?_
      refine V_iload_n f dX9_bay_91 1 rfl ?_
      refine V_ialdE (x := M 5 (Int32.toNatClampNeg b)) f dX9_bay_92 zm_5 (isBay9_in c1) rfl ?_
      refine V_if_ne (tgt := 100) f dX9_bay_93 (by decide) (fun c8 => ?_) (fun c8 => ?_)
      · refine V_aload_n f dX9_bay_100 0 rfl ?_
        refine V_getR f dX9_bay_101 lf_9_25 rfl zm_0 rfl ?_
        refine V_iload_n f dX9_bay_104 1 rfl ?_
        refine V_ialdE (x := M 6 (Int32.toNatClampNeg b)) f dX9_bay_105 zm_6 (isBay9_in c1) rfl ?_
        exact V_iret f q dX9_bay_106 rfl (Nat.zero_le _) (Nat.zero_le _) ⟨rfl, rfl, (by simp only [s3_X9_bay, if_neg c1, if_neg c2, if_neg c3, if_neg c4, if_neg c5, if_neg c6, if_pos c7, if_neg c8]), rfl⟩
      · refine V_iconst (v := (-1)) f dX9_bay_96 (by decide) ?_
        refine V_goto (tgt := 106) f dX9_bay_97 (by decide) ?_
        exact V_iret f q dX9_bay_106 rfl (Nat.zero_le _) (Nat.zero_le _) ⟨rfl, rfl, (by simp only [s3_X9_bay, if_neg c1, if_neg c2, if_neg c3, if_neg c4, if_neg c5, if_neg c6, if_pos c7, if_pos c8]), rfl⟩
    rcases Decidable.em (e = 6) with c9 | c9
    · refine V_tableIn (off := 97) (tgt := 107) f dX9_bay_10 (by rw [c9]; decide) (by rw [c9]; decide) (by rw [c9]; decide) (by decide) ?_
      refine V_aload_n f dX9_bay_107 0 rfl ?_
      refine V_getR f dX9_bay_108 lf_9_28 rfl zm_0 rfl ?_
      refine V_iload_n f dX9_bay_111 1 rfl ?_
      refine V_ialdE (x := M 7 (Int32.toNatClampNeg b)) f dX9_bay_112 zm_7 (isBay9_in c1) rfl ?_
      exact V_iret f q dX9_bay_113 rfl (Nat.zero_le _) (Nat.zero_le _) ⟨rfl, rfl, (by simp only [s3_X9_bay, if_neg c1, if_neg c2, if_neg c3, if_neg c4, if_neg c5, if_neg c6, if_neg c7, if_pos c9]), rfl⟩
    refine V_tableOut (tgt := 114) f dX9_bay_10 (sw_out 0 6 7 [0, 1, 2, 3, 4, 5, 6] (by decide) (by decide) (List.forall_mem_cons.mpr ⟨c2, (List.forall_mem_cons.mpr ⟨c3, (List.forall_mem_cons.mpr ⟨c4, (List.forall_mem_cons.mpr ⟨c5, (List.forall_mem_cons.mpr ⟨c6, (List.forall_mem_cons.mpr ⟨c7, (List.forall_mem_cons.mpr ⟨c9, (fun _ h => absurd h List.not_mem_nil)⟩)⟩)⟩)⟩)⟩)⟩)⟩)) (by decide) ?_
    refine V_iconst (v := (-1)) f dX9_bay_114 (by decide) ?_
    exact V_iret f q dX9_bay_115 rfl (Nat.zero_le _) (Nat.zero_le _) ⟨rfl, rfl, (by simp only [s3_X9_bay, if_neg c1, if_neg c2, if_neg c3, if_neg c4, if_neg c5, if_neg c6, if_neg c7, if_neg c9]), rfl⟩
  · refine V_iconst (v := (-1)) f dX9_bay_7 (by decide) ?_
    exact V_iret f q dX9_bay_8 rfl (Nat.zero_le _) (Nat.zero_le _) ⟨rfl, rfl, (by simp only [s3_X9_bay, if_pos c1]), rfl⟩
def s3_X9_stackOf (M : MT) (a : Int32) (e : Int32) : Int32 := (if (s_X9_isStack M a) = 0 then (-1) else (if e = 0 then (M 8 (Int32.toNatClampNeg a)) else (if e = 1 then (M 9 (Int32.toNatClampNeg a)) else (if e = 2 then (M 10 (Int32.toNatClampNeg a)) else (if e = 3 then (M 11 (Int32.toNatClampNeg a)) else (if e = 4 then (s_X9_one M (s_X9_burns M a)) else (if e = 5 then (M 12 (Int32.toNatClampNeg a)) else (if e = 6 then (M 13 (Int32.toNatClampNeg a)) else (if e = 7 then (M 14 (Int32.toNatClampNeg a)) else (if e = 8 then (s_X9_one M (M 15 (Int32.toNatClampNeg a))) else (-1)))))))))))
set_option maxHeartbeats 4000000 in
set_option maxRecDepth 100000 in
theorem c3_X9_stackOf (l : Launch) (D : va_G) (cy : Nat → ClassId) (X : va_W) (ad : Nat → Nat) (M : MT) (a : Int32) (e : Int32) (hS : InvS M) : CtI l yX9_stackOf cX9_stackOf 3 .int (rK 2) D cy X ad ZM M [.ref (ad 0), .int a, .int e] (s3_X9_stackOf M a e) M := by
  refine Ctr.of (by decide +kernel) (Nat.le_of_ble_eq_true rfl) ?_
  intro K f q hnm hl0 hD0 hy0 hX0
  show V K ad 0 0 ZM M 0 [(0, .ref (ad 0)), (1, .int a), (2, .int e)] []
  refine V_aload_n f dX9_stackOf_0 0 rfl ?_
  refine V_iload_n f dX9_stackOf_1 1 rfl ?_
  refine V_cVi (As := [.int a]) (rest := []) f dX9_stackOf_2 lk_X9_231 ml_X9_231 ins_X9_isStack sel_X9_isStack zm_0 (by decide) rfl (c_X9_isStack (kl K) (kD K) (ky K) (kX K) ad M a) rfl (Nat.le_of_ble_eq_true rfl) rfl ⟨by decide, by decide⟩ ⟨Nat.zero_le _, Nat.zero_le _⟩ rfl rfl ?_
  refine V_if_ne (tgt := 10) f dX9_stackOf_5 (by decide) (fun c1 => ?_) (fun c1 => ?_)
  · refine V_iload_n f dX9_stackOf_10 2 rfl ?_
    rcases Decidable.em (e = 0) with c2 | c2
    · refine V_tableIn (off := 49) (tgt := 60) f dX9_stackOf_11 (by rw [c2]; decide) (by rw [c2]; decide) (by rw [c2]; decide) (by decide) ?_
      refine V_aload_n f dX9_stackOf_60 0 rfl ?_
      refine V_getR f dX9_stackOf_61 lf_9_31 rfl zm_0 rfl ?_
      refine V_iload_n f dX9_stackOf_64 1 rfl ?_
      refine V_ialdE (x := M 8 (Int32.toNatClampNeg a)) f dX9_stackOf_65 zm_8 (isStack9_in hS c1) rfl ?_
      exact V_iret f q dX9_stackOf_66 rfl (Nat.zero_le _) (Nat.zero_le _) ⟨rfl, rfl, (by simp only [s3_X9_stackOf, if_neg c1, if_pos c2]), rfl⟩
    rcases Decidable.em (e = 1) with c3 | c3
    · refine V_tableIn (off := 56) (tgt := 67) f dX9_stackOf_11 (by rw [c3]; decide) (by rw [c3]; decide) (by rw [c3]; decide) (by decide) ?_
      refine V_aload_n f dX9_stackOf_67 0 rfl ?_
      refine V_getR f dX9_stackOf_68 lf_9_34 rfl zm_0 rfl ?_
      refine V_iload_n f dX9_stackOf_71 1 rfl ?_
      refine V_ialdE (x := M 9 (Int32.toNatClampNeg a)) f dX9_stackOf_72 zm_9 (isStack9_in hS c1) rfl ?_
      exact V_iret f q dX9_stackOf_73 rfl (Nat.zero_le _) (Nat.zero_le _) ⟨rfl, rfl, (by simp only [s3_X9_stackOf, if_neg c1, if_neg c2, if_pos c3]), rfl⟩
    rcases Decidable.em (e = 2) with c4 | c4
    · refine V_tableIn (off := 63) (tgt := 74) f dX9_stackOf_11 (by rw [c4]; decide) (by rw [c4]; decide) (by rw [c4]; decide) (by decide) ?_
      refine V_aload_n f dX9_stackOf_74 0 rfl ?_
      refine V_getR f dX9_stackOf_75 lf_9_37 rfl zm_0 rfl ?_
      refine V_iload_n f dX9_stackOf_78 1 rfl ?_
      refine V_ialdE (x := M 10 (Int32.toNatClampNeg a)) f dX9_stackOf_79 zm_10 (isStack9_in hS c1) rfl ?_
      exact V_iret f q dX9_stackOf_80 rfl (Nat.zero_le _) (Nat.zero_le _) ⟨rfl, rfl, (by simp only [s3_X9_stackOf, if_neg c1, if_neg c2, if_neg c3, if_pos c4]), rfl⟩
    rcases Decidable.em (e = 3) with c5 | c5
    · refine V_tableIn (off := 70) (tgt := 81) f dX9_stackOf_11 (by rw [c5]; decide) (by rw [c5]; decide) (by rw [c5]; decide) (by decide) ?_
      refine V_aload_n f dX9_stackOf_81 0 rfl ?_
      refine V_getR f dX9_stackOf_82 lf_9_40 rfl zm_0 rfl ?_
      refine V_iload_n f dX9_stackOf_85 1 rfl ?_
      refine V_ialdE (x := M 11 (Int32.toNatClampNeg a)) f dX9_stackOf_86 zm_11 (isStack9_in hS c1) rfl ?_
      exact V_iret f q dX9_stackOf_87 rfl (Nat.zero_le _) (Nat.zero_le _) ⟨rfl, rfl, (by simp only [s3_X9_stackOf, if_neg c1, if_neg c2, if_neg c3, if_neg c4, if_pos c5]), rfl⟩
    rcases Decidable.em (e = 4) with c6 | c6
    · refine V_tableIn (off := 77) (tgt := 88) f dX9_stackOf_11 (by rw [c6]; decide) (by rw [c6]; decide) (by rw [c6]; decide) (by decide) ?_
      refine V_aload_n f dX9_stackOf_88 0 rfl ?_
      refine V_iload_n f dX9_stackOf_89 1 rfl ?_
      refine V_cVi (As := [.int a]) (rest := []) f dX9_stackOf_90 lk_X9_234 ml_X9_234 ins_X9_burns sel_X9_burns zm_0 (by decide) rfl (c_X9_burns (kl K) (kD K) (ky K) (kX K) ad M a (isStack9_in hS c1)) rfl (Nat.le_of_ble_eq_true rfl) rfl ⟨by decide, by decide⟩ ⟨Nat.zero_le _, Nat.zero_le _⟩ rfl rfl ?_
      refine V_cSi (As := [.int (s_X9_burns M a)]) (rest := []) f dX9_stackOf_93 lk_X9_205 ml_X9_205 sta_X9_one (c_X9_one (kl K) (kD K) (ky K) (kX K) ad M (s_X9_burns M a)) rfl (Nat.le_of_ble_eq_true rfl) rfl ⟨by decide, by decide⟩ ⟨Nat.zero_le _, Nat.zero_le _⟩ rfl rfl ?_
      exact V_iret f q dX9_stackOf_96 rfl (Nat.zero_le _) (Nat.zero_le _) ⟨rfl, rfl, (by simp only [s3_X9_stackOf, if_neg c1, if_neg c2, if_neg c3, if_neg c4, if_neg c5, if_pos c6]), rfl⟩
    rcases Decidable.em (e = 5) with c7 | c7
    · refine V_tableIn (off := 86) (tgt := 97) f dX9_stackOf_11 (by rw [c7]; decide) (by rw [c7]; decide) (by rw [c7]; decide) (by decide) ?_
      refine V_aload_n f dX9_stackOf_97 0 rfl ?_
      refine V_getR f dX9_stackOf_98 lf_9_43 rfl zm_0 rfl ?_
      refine V_iload_n f dX9_stackOf_101 1 rfl ?_
      refine V_ialdE (x := M 12 (Int32.toNatClampNeg a)) f dX9_stackOf_102 zm_12 (isStack9_in hS c1) rfl ?_
      exact V_iret f q dX9_stackOf_103 rfl (Nat.zero_le _) (Nat.zero_le _) ⟨rfl, rfl, (by simp only [s3_X9_stackOf, if_neg c1, if_neg c2, if_neg c3, if_neg c4, if_neg c5, if_neg c6, if_pos c7]), rfl⟩
    rcases Decidable.em (e = 6) with c8 | c8
    · refine V_tableIn (off := 93) (tgt := 104) f dX9_stackOf_11 (by rw [c8]; decide) (by rw [c8]; decide) (by rw [c8]; decide) (by decide) ?_
      refine V_aload_n f dX9_stackOf_104 0 rfl ?_
      refine V_getR f dX9_stackOf_105 lf_9_46 rfl zm_0 rfl ?_
      refine V_iload_n f dX9_stackOf_108 1 rfl ?_
      refine V_ialdE (x := M 13 (Int32.toNatClampNeg a)) f dX9_stackOf_109 zm_13 (isStack9_in hS c1) rfl ?_
      exact V_iret f q dX9_stackOf_110 rfl (Nat.zero_le _) (Nat.zero_le _) ⟨rfl, rfl, (by simp only [s3_X9_stackOf, if_neg c1, if_neg c2, if_neg c3, if_neg c4, if_neg c5, if_neg c6, if_neg c7, if_pos c8]), rfl⟩
    rcases Decidable.em (e = 7) with c9 | c9
    · refine V_tableIn (off := 100) (tgt := 111) f dX9_stackOf_11 (by rw [c9]; decide) (by rw [c9]; decide) (by rw [c9]; decide) (by decide) ?_
      refine V_aload_n f dX9_stackOf_111 0 rfl ?_
      refine V_getR f dX9_stackOf_112 lf_9_49 rfl zm_0 rfl ?_
      refine V_iload_n f dX9_stackOf_115 1 rfl ?_
      refine V_ialdE (x := M 14 (Int32.toNatClampNeg a)) f dX9_stackOf_116 zm_14 (isStack9_in hS c1) rfl ?_
      exact V_iret f q dX9_stackOf_117 rfl (Nat.zero_le _) (Nat.zero_le _) ⟨rfl, rfl, (by simp only [s3_X9_stackOf, if_neg c1, if_neg c2, if_neg c3, if_neg c4, if_neg c5, if_neg c6, if_neg c7, if_neg c8, if_pos c9]), rfl⟩
    rcases Decidable.em (e = 8) with c10 | c10
    · refine V_tableIn (off := 107) (tgt := 118) f dX9_stackOf_11 (by rw [c10]; decide) (by rw [c10]; decide) (by rw [c10]; decide) (by decide) ?_
      refine V_aload_n f dX9_stackOf_118 0 rfl ?_
      refine V_getR f dX9_stackOf_119 lf_9_52 rfl zm_0 rfl ?_
      refine V_iload_n f dX9_stackOf_122 1 rfl ?_
      refine V_zald f dX9_stackOf_123 zm_15 (isStack9_in hS c1) ?_
      refine V_cSi (As := [.int (M 15 (Int32.toNatClampNeg a))]) (rest := []) f dX9_stackOf_124 lk_X9_205 ml_X9_205 sta_X9_one (c_X9_one (kl K) (kD K) (ky K) (kX K) ad M (M 15 (Int32.toNatClampNeg a))) rfl (Nat.le_of_ble_eq_true rfl) rfl ⟨by decide, by decide⟩ ⟨Nat.zero_le _, Nat.zero_le _⟩ rfl rfl ?_
      exact V_iret f q dX9_stackOf_127 rfl (Nat.zero_le _) (Nat.zero_le _) ⟨rfl, rfl, (by simp only [s3_X9_stackOf, if_neg c1, if_neg c2, if_neg c3, if_neg c4, if_neg c5, if_neg c6, if_neg c7, if_neg c8, if_neg c9, if_pos c10]), rfl⟩
    refine V_tableOut (tgt := 128) f dX9_stackOf_11 (sw_out 0 8 9 [0, 1, 2, 3, 4, 5, 6, 7, 8] (by decide) (by decide) (List.forall_mem_cons.mpr ⟨c2, (List.forall_mem_cons.mpr ⟨c3, (List.forall_mem_cons.mpr ⟨c4, (List.forall_mem_cons.mpr ⟨c5, (List.forall_mem_cons.mpr ⟨c6, (List.forall_mem_cons.mpr ⟨c7, (List.forall_mem_cons.mpr ⟨c8, (List.forall_mem_cons.mpr ⟨c9, (List.forall_mem_cons.mpr ⟨c10, (fun _ h => absurd h List.not_mem_nil)⟩)⟩)⟩)⟩)⟩)⟩)⟩)⟩)⟩)) (by decide) ?_
    refine V_iconst (v := (-1)) f dX9_stackOf_128 (by decide) ?_
    exact V_iret f q dX9_stackOf_129 rfl (Nat.zero_le _) (Nat.zero_le _) ⟨rfl, rfl, (by simp only [s3_X9_stackOf, if_neg c1, if_neg c2, if_neg c3, if_neg c4, if_neg c5, if_neg c6, if_neg c7, if_neg c8, if_neg c9, if_neg c10]), rfl⟩
  · refine V_iconst (v := (-1)) f dX9_stackOf_8 (by decide) ?_
    exact V_iret f q dX9_stackOf_9 rfl (Nat.zero_le _) (Nat.zero_le _) ⟨rfl, rfl, (by simp only [s3_X9_stackOf, if_pos c1]), rfl⟩
theorem mul10 {e : Int32} {M : MT} (h : ¬ s_X9_isIn M e 1 20 = 0) : 10 ≤ (10 * e).toInt ∧ (10 * e).toInt ≤ 200 := by
  have h1 := within_of (M := M) h
  have e1 : (1 : Int32).toInt = 1 := by decide
  have e2 : (20 : Int32).toInt = 20 := by decide
  have e3 : (10 : Int32).toInt = 10 := by decide
  rw [Int32.le_iff_toInt_le, Int32.le_iff_toInt_le] at h1
  rw [Int32.toInt_mul, e3, Int.bmod_eq_of_le (by omega) (by omega)]
  omega
set_option maxHeartbeats 4000000 in
set_option maxRecDepth 100000 in
theorem c3_X9_mill (l : Launch) (D : va_G) (cy : Nat → ClassId) (X : va_W) (ad : Nat → Nat) (M : MT) (b : Int32) (e : Int32) (wb sb : Int) (hS : InvS M) (hW : InvW wb sb M) : CtP l yX9_mill cX9_mill 3 (some .int) (rK 2) D cy X ad ZM M [.ref (ad 0), .int b, .int e] (fun v M1 => (∃ r : Int32, v = some (.int r)) ∧ Km wb sb M M1) := by
  refine Ctr.of (by decide +kernel) (Nat.le_of_ble_eq_true rfl) ?_
  intro K f q hnm hl0 hD0 hy0 hX0
  show V K ad 0 0 ZM M 0 [(0, .ref (ad 0)), (1, .int b), (2, .int e)] []
  refine V_iload_n f dX9_mill_0 1 rfl ?_
  refine V_cSi (As := [.int b]) (rest := []) f dX9_mill_1 lk_X9_213 ml_X9_213 sta_X9_isBay (c_X9_isBay (kl K) (kD K) (ky K) (kX K) ad M b) rfl (Nat.le_of_ble_eq_true rfl) rfl ⟨by decide, by decide⟩ ⟨Nat.zero_le _, Nat.zero_le _⟩ rfl rfl ?_
  refine V_if_eq (tgt := 17) f dX9_mill_4 (by decide) (fun c1 => ?_) (fun c1 => ?_)
  · refine V_bipush (v := (-2)) f dX9_mill_17 (by decide) ?_
    exact V_iret f q dX9_mill_19 rfl (Nat.zero_le _) (Nat.zero_le _) ⟨rfl, rfl, ⟨(-2), rfl⟩, Km_refl hS hW⟩
  · refine V_iload_n f dX9_mill_7 2 rfl ?_
    refine V_iconst (v := 1) f dX9_mill_8 (by decide) ?_
    refine V_bipush (v := 20) f dX9_mill_9 (by decide) ?_
    refine V_cSi (As := [.int e, .int 1, .int 20]) (rest := []) f dX9_mill_11 lk_X9_109 ml_X9_109 sta_X9_isIn (c_X9_isIn (kl K) (kD K) (ky K) (kX K) ad M e 1 20) rfl (Nat.le_of_ble_eq_true rfl) rfl ⟨by decide, by decide⟩ ⟨Nat.zero_le _, Nat.zero_le _⟩ rfl rfl ?_
    refine V_if_ne (tgt := 20) f dX9_mill_14 (by decide) (fun c2 => ?_) (fun c2 => ?_)
    · refine V_aload_n f dX9_mill_20 0 rfl ?_
      refine V_getR f dX9_mill_21 lf_9_13 rfl zm_0 rfl ?_
      refine V_iload_n f dX9_mill_24 1 rfl ?_
      refine V_ialdE (x := M 2 (Int32.toNatClampNeg b)) f dX9_mill_25 zm_2 (isBay9_in c1) rfl ?_
      refine V_if_eq (tgt := 32) f dX9_mill_26 (by decide) (fun c3 => ?_) (fun c3 => ?_)
      · refine V_aload_n f dX9_mill_32 0 rfl ?_
        refine V_aload_n f dX9_mill_33 0 rfl ?_
        refine V_getE (x := M 0 0) f dX9_mill_34 lf_9_194 rfl zm_0 rfl ?_
        refine V_iload_n f dX9_mill_37 1 rfl ?_
        refine V_cVp (As := [.int (M 0 0), .int b]) (rest := []) f dX9_mill_38 lk_X9_201 ml_X9_201 ins_X9_isClosed sel_X9_isClosed zm_0 (by decide) rfl (c3_X9_isClosed _ _ _ _ ad M (M 0 0) b hS) rfl (Nat.le_of_ble_eq_true rfl) rfl ⟨by decide, by decide⟩ ⟨Nat.zero_le _, Nat.zero_le _⟩ rfl rfl (fun v4 Mx4 hp4 => ?_)
        obtain ⟨r4, rfl, hr4, e4⟩ := hp4
        rw [e4]
        show V K ad 0 0 ZM M 41 [(0, .ref (ad 0)), (1, .int b), (2, .int e)] [.int r4]
        refine V_if_eq (tgt := 47) f dX9_mill_41 (by decide) (fun c5 => ?_) (fun c5 => ?_)
        · refine V_aload_n f dX9_mill_47 0 rfl ?_
          refine V_getR f dX9_mill_48 lf_9_7 rfl zm_0 rfl ?_
          refine V_iload_n f dX9_mill_51 1 rfl ?_
          refine V_ialdE (x := M 1 (Int32.toNatClampNeg b)) f dX9_mill_52 zm_1 (isBay9_in c1) rfl ?_
          refine V_iload_n f dX9_mill_53 2 rfl ?_
          refine V_isub f dX9_mill_54 ?_
          refine V_aload_n f dX9_mill_55 0 rfl ?_
          refine V_aload_n f dX9_mill_56 0 rfl ?_
          refine V_getE (x := M 0 0) f dX9_mill_57 lf_9_194 rfl zm_0 rfl ?_
          refine V_iconst (v := 1) f dX9_mill_60 (by decide) ?_
          refine V_iconst (v := 0) f dX9_mill_61 (by decide) ?_
          refine V_cVp (As := [.int (M 0 0), .int 1, .int 0]) (rest := [.int ((M 1 (Int32.toNatClampNeg b)) - e)]) f dX9_mill_62 lk_X9_209 ml_X9_209 ins_X9_lastOf sel_X9_lastOf zm_0 (by decide) rfl (c3_X9_lastOf _ _ _ _ ad M (M 0 0) 1 0 hS) rfl (Nat.le_of_ble_eq_true rfl) rfl ⟨by decide, by decide⟩ ⟨Nat.zero_le _, Nat.zero_le _⟩ rfl rfl (fun v6 Mx6 hp6 => ?_)
          obtain ⟨⟨r6, rfl⟩, e6⟩ := hp6
          rw [e6]
          show V K ad 0 0 ZM M 65 [(0, .ref (ad 0)), (1, .int b), (2, .int e)] [.int r6, .int ((M 1 (Int32.toNatClampNeg b)) - e)]
          refine V_icmp_ge (tgt := 71) f dX9_mill_65 (by decide) (fun c7 => ?_) (fun c7 => ?_)
          · refine V_aload_n f dX9_mill_71 0 rfl ?_
            refine V_getR f dX9_mill_72 lf_9_7 rfl zm_0 rfl ?_
            refine V_iload_n f dX9_mill_75 1 rfl ?_
            refine V_dup2 f dX9_mill_76 rfl rfl ?_
            refine V_ialdE (x := M 1 (Int32.toNatClampNeg b)) f dX9_mill_77 zm_1 (isBay9_in c1) rfl ?_
            refine V_iload_n f dX9_mill_78 2 rfl ?_
            refine V_isub f dX9_mill_79 ?_
            refine V_iast f dX9_mill_80 zm_1 (isBay9_in c1) ?_
            refine V_aload_n f dX9_mill_81 0 rfl ?_
            refine V_getR f dX9_mill_82 lf_9_13 rfl zm_0 rfl ?_
            refine V_iload_n f dX9_mill_85 1 rfl ?_
            refine V_iconst (v := 1) f dX9_mill_86 (by decide) ?_
            refine V_iast f dX9_mill_87 zm_2 (isBay9_in c1) ?_
            refine V_aload_n f dX9_mill_88 0 rfl ?_
            refine V_getR f dX9_mill_89 lf_9_16 rfl zm_0 rfl ?_
            refine V_iload_n f dX9_mill_92 1 rfl ?_
            refine V_bipush (v := 10) f dX9_mill_93 (by decide) ?_
            refine V_iload_n f dX9_mill_95 2 rfl ?_
            refine V_imul f dX9_mill_96 ?_
            refine V_iast f dX9_mill_97 zm_3 (isBay9_in c1) ?_
            refine V_aload_n f dX9_mill_98 0 rfl ?_
            refine V_getR f dX9_mill_99 lf_9_19 rfl zm_0 rfl ?_
            refine V_iload_n f dX9_mill_102 1 rfl ?_
            refine V_sipush (v := 800) f dX9_mill_103 (by decide) ?_
            refine V_iast f dX9_mill_106 zm_4 (isBay9_in c1) ?_
            refine V_iconst (v := 0) f dX9_mill_107 (by decide) ?_
            exact V_iret f q dX9_mill_108 rfl (Nat.zero_le _) (Nat.zero_le _) ⟨rfl, rfl, ⟨0, rfl⟩, Kf_up (Kf_up (Kf_up (Kf_up (Kf_refl hS) (by decide) _ _) (by decide) _ _) (by decide) _ _) (by decide) _ _, InvW_up (InvW_23 (InvW_up hW (by decide) _ _) (Or.inr (mul10 c2))) (by decide) _ _⟩
          · refine V_bipush (v := (-5)) f dX9_mill_68 (by decide) ?_
            exact V_iret f q dX9_mill_70 rfl (Nat.zero_le _) (Nat.zero_le _) ⟨rfl, rfl, ⟨(-5), rfl⟩, Km_refl hS hW⟩
        · refine V_bipush (v := (-4)) f dX9_mill_44 (by decide) ?_
          exact V_iret f q dX9_mill_46 rfl (Nat.zero_le _) (Nat.zero_le _) ⟨rfl, rfl, ⟨(-4), rfl⟩, Km_refl hS hW⟩
      · refine V_bipush (v := (-3)) f dX9_mill_29 (by decide) ?_
        exact V_iret f q dX9_mill_31 rfl (Nat.zero_le _) (Nat.zero_le _) ⟨rfl, rfl, ⟨(-3), rfl⟩, Km_refl hS hW⟩
    · refine V_bipush (v := (-2)) f dX9_mill_17 (by decide) ?_
      exact V_iret f q dX9_mill_19 rfl (Nat.zero_le _) (Nat.zero_le _) ⟨rfl, rfl, ⟨(-2), rfl⟩, Km_refl hS hW⟩
theorem gsum {wb sb : Int} {M : MT} {b e : Int32} (hW : InvW wb sb M) (hwb : wb ≤ 102400) (hb : vp_in b 16 ∧ ¬ M 2 (Int32.toNatClampNeg b) = 0) (he : vp_in e 10) : ((M 8 (Int32.toNatClampNeg e)) + (M 3 (Int32.toNatClampNeg b))).toInt = (M 8 (Int32.toNatClampNeg e)).toInt + (M 3 (Int32.toNatClampNeg b)).toInt ∧ 0 ≤ (M 8 (Int32.toNatClampNeg e)).toInt ∧ (M 8 (Int32.toNatClampNeg e)).toInt ≤ wb ∧ 10 ≤ (M 3 (Int32.toNatClampNeg b)).toInt ∧ (M 3 (Int32.toNatClampNeg b)).toInt ≤ 200 := by
  have h1 := hW.2.2.1 _ (vlt he)
  have h2 := hW.2.2.2 _ (vlt hb.1) hb.2
  refine ⟨?_, h1.1, h1.2, h2.1, h2.2⟩
  rw [Int32.toInt_add, Int.bmod_eq_of_le (by omega) (by omega)]
theorem gdiv {wb sb : Int} {M : MT} {b e : Int32} (hW : InvW wb sb M) (hwb : wb ≤ 102400) (hb : vp_in b 16 ∧ ¬ M 2 (Int32.toNatClampNeg b) = 0) (he : vp_in e 10) : ¬ (M 8 (Int32.toNatClampNeg e)) + (M 3 (Int32.toNatClampNeg b)) = 0 := fun q => by
  have h := gsum hW hwb hb he
  have e0 : (0 : Int32).toInt = 0 := by decide
  rw [q] at h
  omega
theorem gwid {wb sb : Int} {M : MT} (h : InvW wb sb M) : InvW (wb + 200) sb M := ⟨h.1, h.2.1, fun s hs => by have := h.2.2.1 s hs; omega, h.2.2.2⟩
set_option maxHeartbeats 4000000 in
set_option maxRecDepth 100000 in
theorem c3_X9_gather (l : Launch) (D : va_G) (cy : Nat → ClassId) (X : va_W) (ad : Nat → Nat) (M : MT) (b : Int32) (e : Int32) (wb sb : Int) (hS : InvS M) (hW : InvW wb sb M) (hwb : wb ≤ 102400) : CtP l yX9_gather cX9_gather 4 (some .int) (rK 3) D cy X ad ZM M [.ref (ad 0), .int b, .int e] (fun v M1 => (∃ r : Int32, v = some (.int r)) ∧ Km (wb + 200) sb M M1) := by
  refine Ctr.of (by decide +kernel) (Nat.le_of_ble_eq_true rfl) ?_
  intro K f q hnm hl0 hD0 hy0 hX0
  show V K ad 0 0 ZM M 0 [(0, .ref (ad 0)), (1, .int b), (2, .int e)] []
  refine V_aload_n f dX9_gather_0 0 rfl ?_
  refine V_iload_n f dX9_gather_1 1 rfl ?_
  refine V_cVp (As := [.int b]) (rest := []) f dX9_gather_2 lk_X9_228 ml_X9_228 ins_X9_bars sel_X9_bars zm_0 (by decide) rfl (c3_X9_bars _ _ _ _ ad M b hS) rfl (Nat.le_of_ble_eq_true rfl) rfl ⟨by decide, by decide⟩ ⟨Nat.zero_le _, Nat.zero_le _⟩ rfl rfl (fun v1 Mx1 hp1 => ?_)
  obtain ⟨r1, rfl, e1, hr1⟩ := hp1
  rw [e1]
  show V K ad 0 0 ZM M 5 [(0, .ref (ad 0)), (1, .int b), (2, .int e)] [.int r1]
  refine V_if_ne (tgt := 33) f dX9_gather_5 (by decide) (fun c2 => ?_) (fun c2 => ?_)
  · refine V_iconst (v := (-1)) f dX9_gather_33 (by decide) ?_
    exact V_iret f q dX9_gather_34 rfl (Nat.zero_le _) (Nat.zero_le _) ⟨rfl, rfl, ⟨(-1), rfl⟩, Kf_refl hS, gwid hW⟩
  · refine V_aload_n f dX9_gather_8 0 rfl ?_
    refine V_iload_n f dX9_gather_9 2 rfl ?_
    refine V_cVi (As := [.int e]) (rest := []) f dX9_gather_10 lk_X9_231 ml_X9_231 ins_X9_isStack sel_X9_isStack zm_0 (by decide) rfl (c_X9_isStack (kl K) (kD K) (ky K) (kX K) ad M e) rfl (Nat.le_of_ble_eq_true rfl) rfl ⟨by decide, by decide⟩ ⟨Nat.zero_le _, Nat.zero_le _⟩ rfl rfl ?_
    refine V_if_eq (tgt := 33) f dX9_gather_13 (by decide) (fun c3 => ?_) (fun c3 => ?_)
    · refine V_iconst (v := (-1)) f dX9_gather_33 (by decide) ?_
      exact V_iret f q dX9_gather_34 rfl (Nat.zero_le _) (Nat.zero_le _) ⟨rfl, rfl, ⟨(-1), rfl⟩, Kf_refl hS, gwid hW⟩
    · refine V_aload_n f dX9_gather_16 0 rfl ?_
      refine V_iload_n f dX9_gather_17 2 rfl ?_
      refine V_cVi (As := [.int e]) (rest := []) f dX9_gather_18 lk_X9_234 ml_X9_234 ins_X9_burns sel_X9_burns zm_0 (by decide) rfl (c_X9_burns (kl K) (kD K) (ky K) (kX K) ad M e (isStack9_in hS c3)) rfl (Nat.le_of_ble_eq_true rfl) rfl ⟨by decide, by decide⟩ ⟨Nat.zero_le _, Nat.zero_le _⟩ rfl rfl ?_
      refine V_if_ne (tgt := 33) f dX9_gather_21 (by decide) (fun c4 => ?_) (fun c4 => ?_)
      · refine V_iconst (v := (-1)) f dX9_gather_33 (by decide) ?_
        exact V_iret f q dX9_gather_34 rfl (Nat.zero_le _) (Nat.zero_le _) ⟨rfl, rfl, ⟨(-1), rfl⟩, Kf_refl hS, gwid hW⟩
      · refine V_aload_n f dX9_gather_24 0 rfl ?_
        refine V_getR f dX9_gather_25 lf_9_52 rfl zm_0 rfl ?_
        refine V_iload_n f dX9_gather_28 2 rfl ?_
        refine V_zald f dX9_gather_29 zm_15 (isStack9_in hS c3) ?_
        refine V_if_eq (tgt := 35) f dX9_gather_30 (by decide) (fun c5 => ?_) (fun c5 => ?_)
        · refine V_aload_n f dX9_gather_35 0 rfl ?_
          refine V_getR f dX9_gather_36 lf_9_16 rfl zm_0 rfl ?_
          refine V_iload_n f dX9_gather_39 1 rfl ?_
          refine V_ialdE (x := M 3 (Int32.toNatClampNeg b)) f dX9_gather_40 zm_3 (hr1 c2).1 rfl ?_
          refine V_istore_n f dX9_gather_41 rfl (by decide) rfl ?_
          refine V_aload_n f dX9_gather_42 1 rfl ?_
          refine V_getR f dX9_gather_43 lf_9_34 rfl zm_0 rfl ?_
          refine V_iload_n f dX9_gather_46 3 rfl ?_
          refine V_aload_n f dX9_gather_47 1 rfl ?_
          refine V_getR f dX9_gather_48 lf_9_31 rfl zm_0 rfl ?_
          refine V_iload_n f dX9_gather_51 3 rfl ?_
          refine V_ialdE (x := M 8 (Int32.toNatClampNeg e)) f dX9_gather_52 zm_8 (isStack9_in hS c3) rfl ?_
          refine V_aload_n f dX9_gather_53 1 rfl ?_
          refine V_getR f dX9_gather_54 lf_9_34 rfl zm_0 rfl ?_
          refine V_iload_n f dX9_gather_57 3 rfl ?_
          refine V_ialdE (x := M 9 (Int32.toNatClampNeg e)) f dX9_gather_58 zm_9 (isStack9_in hS c3) rfl ?_
          refine V_imul f dX9_gather_59 ?_
          refine V_iload_n f dX9_gather_60 0 rfl ?_
          refine V_aload_n f dX9_gather_61 1 rfl ?_
          refine V_getR f dX9_gather_62 lf_9_19 rfl zm_0 rfl ?_
          refine V_iload_n f dX9_gather_65 2 rfl ?_
          refine V_ialdE (x := M 4 (Int32.toNatClampNeg b)) f dX9_gather_66 zm_4 (hr1 c2).1 rfl ?_
          refine V_imul f dX9_gather_67 ?_
          refine V_iadd f dX9_gather_68 ?_
          refine V_aload_n f dX9_gather_69 1 rfl ?_
          refine V_getR f dX9_gather_70 lf_9_31 rfl zm_0 rfl ?_
          refine V_iload_n f dX9_gather_73 3 rfl ?_
          refine V_ialdE (x := M 8 (Int32.toNatClampNeg e)) f dX9_gather_74 zm_8 (isStack9_in hS c3) rfl ?_
          refine V_iload_n f dX9_gather_75 0 rfl ?_
          refine V_iadd f dX9_gather_76 ?_
          refine V_idiv f dX9_gather_77 (gdiv hW hwb (hr1 c2) (isStack9_in hS c3)) ?_
          refine V_iast f dX9_gather_78 zm_9 (isStack9_in hS c3) ?_
          refine V_aload_n f dX9_gather_79 1 rfl ?_
          refine V_getR f dX9_gather_80 lf_9_31 rfl zm_0 rfl ?_
          refine V_iload_n f dX9_gather_83 3 rfl ?_
          refine V_dup2 f dX9_gather_84 rfl rfl ?_
          refine V_ialdE (x := M 8 (Int32.toNatClampNeg e)) f dX9_gather_85 zm_8 (isStack9_in hS c3) (up_c (by decide) rfl) ?_
          refine V_iload_n f dX9_gather_86 0 rfl ?_
          refine V_iadd f dX9_gather_87 ?_
          refine V_iast f dX9_gather_88 zm_8 (isStack9_in hS c3) ?_
          refine V_aload_n f dX9_gather_89 1 rfl ?_
          refine V_getR f dX9_gather_90 lf_9_28 rfl zm_0 rfl ?_
          refine V_iload_n f dX9_gather_93 2 rfl ?_
          refine V_dup2 f dX9_gather_94 rfl rfl ?_
          refine V_ialdE (x := M 7 (Int32.toNatClampNeg b)) f dX9_gather_95 zm_7 (hr1 c2).1 (up_c (by decide) (up_c (by decide) rfl)) ?_
          refine V_iload_n f dX9_gather_96 0 rfl ?_
          refine V_iadd f dX9_gather_97 ?_
          refine V_iast f dX9_gather_98 zm_7 (hr1 c2).1 ?_
          refine V_aload_n f dX9_gather_99 1 rfl ?_
          refine V_getR f dX9_gather_100 lf_9_13 rfl zm_0 rfl ?_
          refine V_iload_n f dX9_gather_103 2 rfl ?_
          refine V_iconst (v := 0) f dX9_gather_104 (by decide) ?_
          refine V_iast f dX9_gather_105 zm_2 (hr1 c2).1 ?_
          refine V_aload_n f dX9_gather_106 1 rfl ?_
          refine V_getR f dX9_gather_107 lf_9_16 rfl zm_0 rfl ?_
          refine V_iload_n f dX9_gather_110 2 rfl ?_
          refine V_iconst (v := 0) f dX9_gather_111 (by decide) ?_
          refine V_iast f dX9_gather_112 zm_3 (hr1 c2).1 ?_
          refine V_aload_n f dX9_gather_113 1 rfl ?_
          refine V_getR f dX9_gather_114 lf_9_19 rfl zm_0 rfl ?_
          refine V_iload_n f dX9_gather_117 2 rfl ?_
          refine V_iconst (v := 0) f dX9_gather_118 (by decide) ?_
          refine V_iast f dX9_gather_119 zm_4 (hr1 c2).1 ?_
          refine V_aload_n f dX9_gather_120 1 rfl ?_
          refine V_getR f dX9_gather_121 lf_9_22 rfl zm_0 rfl ?_
          refine V_iload_n f dX9_gather_124 2 rfl ?_
          refine V_iconst (v := 0) f dX9_gather_125 (by decide) ?_
          refine V_iast f dX9_gather_126 zm_5 (hr1 c2).1 ?_
          refine V_iload_n f dX9_gather_127 0 rfl ?_
          exact V_iret f q dX9_gather_128 rfl (Nat.zero_le _) (Nat.zero_le _) ⟨rfl, rfl, ⟨(M 3 (Int32.toNatClampNeg b)), rfl⟩, Kf_up (Kf_up (Kf_up (Kf_up (Kf_up (Kf_up (Kf_up (Kf_refl hS) (by decide) _ _) (by decide) _ _) (by decide) _ _) (by decide) _ _) (by decide) _ _) (by decide) _ _) (by decide) _ _, InvW_up (InvW_up (InvW_23 (InvW_up (InvW_8 (InvW_up hW (by decide) _ _) (by omega) (by have q9 := gsum hW hwb (hr1 c2) (isStack9_in hS c3); omega)) (by decide) _ _) (Or.inl rfl)) (by decide) _ _) (by decide) _ _⟩
        · refine V_iconst (v := (-1)) f dX9_gather_33 (by decide) ?_
          exact V_iret f q dX9_gather_34 rfl (Nat.zero_le _) (Nat.zero_le _) ⟨rfl, rfl, ⟨(-1), rfl⟩, Kf_refl hS, gwid hW⟩
def s_X9_dries (M : MT) (a : Int32) (b : Int32) (e : Int32) (g : Int32) : MT := (if (M 2 (Int32.toNatClampNeg a)) = 0 then (up2 M 5 (Int32.toNatClampNeg a) 0) else (if (M 2 (Int32.toNatClampNeg a)) = 2 then (up2 (up2 (up2 M 5 (Int32.toNatClampNeg a) 0) 4 (Int32.toNatClampNeg a) (if 0 < ((M 4 (Int32.toNatClampNeg a)) - (((12 * b) + (6 * e)) / 2)) then ((M 4 (Int32.toNatClampNeg a)) - (((12 * b) + (6 * e)) / 2)) else 0)) 4 (Int32.toNatClampNeg a) (if ((if 0 < ((M 4 (Int32.toNatClampNeg a)) - (((12 * b) + (6 * e)) / 2)) then ((M 4 (Int32.toNatClampNeg a)) - (((12 * b) + (6 * e)) / 2)) else 0) + ((10 * g) / 4)) < 900 then ((if 0 < ((M 4 (Int32.toNatClampNeg a)) - (((12 * b) + (6 * e)) / 2)) then ((M 4 (Int32.toNatClampNeg a)) - (((12 * b) + (6 * e)) / 2)) else 0) + ((10 * g) / 4)) else 900)) else (up2 (up2 (up2 M 5 (Int32.toNatClampNeg a) 0) 4 (Int32.toNatClampNeg a) (if 0 < ((M 4 (Int32.toNatClampNeg a)) - ((12 * b) + (6 * e))) then ((M 4 (Int32.toNatClampNeg a)) - ((12 * b) + (6 * e))) else 0)) 4 (Int32.toNatClampNeg a) (if ((if 0 < ((M 4 (Int32.toNatClampNeg a)) - ((12 * b) + (6 * e))) then ((M 4 (Int32.toNatClampNeg a)) - ((12 * b) + (6 * e))) else 0) + (10 * g)) < 900 then ((if 0 < ((M 4 (Int32.toNatClampNeg a)) - ((12 * b) + (6 * e))) then ((M 4 (Int32.toNatClampNeg a)) - ((12 * b) + (6 * e))) else 0) + (10 * g)) else 900))))
set_option maxHeartbeats 4000000 in
set_option maxRecDepth 100000 in
theorem c_X9_dries (l : Launch) (D : va_G) (cy : Nat → ClassId) (X : va_W) (ad : Nat → Nat) (M : MT) (a : Int32) (b : Int32) (e : Int32) (g : Int32) (ha : vp_in a 16) : CtV l yX9_dries cX9_dries 7 (rK 1) D cy X ad ZM M [.ref (ad 0), .int a, .int b, .int e, .int g] (s_X9_dries M a b e g) := by
  refine Ctr.of (by decide +kernel) (Nat.le_of_ble_eq_true rfl) ?_
  intro K f q hnm hl0 hD0 hy0 hX0
  show V K ad 0 0 ZM M 0 [(0, .ref (ad 0)), (1, .int a), (2, .int b), (3, .int e), (4, .int g)] []
  refine V_aload_n f dX9_dries_0 0 rfl ?_
  refine V_getR f dX9_dries_1 lf_9_22 rfl zm_0 rfl ?_
  refine V_iload_n f dX9_dries_4 1 rfl ?_
  refine V_iconst (v := 0) f dX9_dries_5 (by decide) ?_
  refine V_iast f dX9_dries_6 zm_5 ha ?_
  refine V_aload_n f dX9_dries_7 0 rfl ?_
  refine V_getR f dX9_dries_8 lf_9_13 rfl zm_0 rfl ?_
  refine V_iload_n f dX9_dries_11 1 rfl ?_
  refine V_ialdE (x := M 2 (Int32.toNatClampNeg a)) f dX9_dries_12 zm_2 ha (up_c (by decide) rfl) ?_
  refine V_if_ne (tgt := 17) f dX9_dries_13 (by decide) (fun c1 => ?_) (fun c1 => ?_)
  · refine V_aload_n f dX9_dries_17 0 rfl ?_
    refine V_getR f dX9_dries_18 lf_9_13 rfl zm_0 rfl ?_
    refine V_iload_n f dX9_dries_21 1 rfl ?_
    refine V_ialdE (x := M 2 (Int32.toNatClampNeg a)) f dX9_dries_22 zm_2 ha (up_c (by decide) rfl) ?_
    refine V_iconst (v := 2) f dX9_dries_23 (by decide) ?_
    refine V_icmp_ne (tgt := 31) f dX9_dries_24 (by decide) (fun c2 => ?_) (fun c2 => ?_)
    · refine V_iconst (v := 0) f dX9_dries_31 (by decide) ?_
      refine V_istore f dX9_dries_32 (by decide) rfl ?_
      refine V_bipush (v := 12) f dX9_dries_34 (by decide) ?_
      refine V_iload_n f dX9_dries_36 3 rfl ?_
      refine V_imul f dX9_dries_37 ?_
      refine V_bipush (v := 6) f dX9_dries_38 (by decide) ?_
      refine V_iload_n f dX9_dries_40 4 rfl ?_
      refine V_imul f dX9_dries_41 ?_
      refine V_iadd f dX9_dries_42 ?_
      refine V_istore f dX9_dries_43 (by decide) rfl ?_
      refine V_aload_n f dX9_dries_45 2 rfl ?_
      refine V_getR f dX9_dries_46 lf_9_19 rfl zm_0 rfl ?_
      refine V_iload_n f dX9_dries_49 3 rfl ?_
      refine V_iconst (v := 0) f dX9_dries_50 (by decide) ?_
      refine V_aload_n f dX9_dries_51 2 rfl ?_
      refine V_getR f dX9_dries_52 lf_9_19 rfl zm_0 rfl ?_
      refine V_iload_n f dX9_dries_55 3 rfl ?_
      refine V_ialdE (x := M 4 (Int32.toNatClampNeg a)) f dX9_dries_56 zm_4 ha (up_c (by decide) rfl) ?_
      refine V_iload f dX9_dries_57 1 rfl ?_
      refine V_if_eq (tgt := 69) f dX9_dries_59 (by decide) (fun _ => ?_) (fun h => absurd (by decide) h)
      refine V_iload f dX9_dries_69 0 rfl ?_
      refine V_isub f dX9_dries_71 ?_
      refine V_mmax f dX9_dries_72 ml_X9_216 ma_max ma_ini mc_max (by decide) (Nat.le_of_ble_eq_true rfl) (Nat.zero_le _) (Nat.zero_le _) ?_
      refine V_iast f dX9_dries_75 zm_4 ha ?_
      refine V_aload_n f dX9_dries_76 2 rfl ?_
      refine V_getR f dX9_dries_77 lf_9_19 rfl zm_0 rfl ?_
      refine V_iload_n f dX9_dries_80 3 rfl ?_
      refine V_sipush (v := 900) f dX9_dries_81 (by decide) ?_
      refine V_aload_n f dX9_dries_84 2 rfl ?_
      refine V_getR f dX9_dries_85 lf_9_19 rfl zm_0 rfl ?_
      refine V_iload_n f dX9_dries_88 3 rfl ?_
      refine V_ialdE (x := if 0 < ((M 4 (Int32.toNatClampNeg a)) - ((12 * b) + (6 * e))) then ((M 4 (Int32.toNatClampNeg a)) - ((12 * b) + (6 * e))) else 0) f dX9_dries_89 zm_4 ha up_s ?_
      refine V_iload f dX9_dries_90 1 rfl ?_
      refine V_if_eq (tgt := 105) f dX9_dries_92 (by decide) (fun _ => ?_) (fun h => absurd (by decide) h)
      refine V_bipush (v := 10) f dX9_dries_105 (by decide) ?_
      refine V_iload f dX9_dries_107 6 rfl ?_
      refine V_imul f dX9_dries_109 ?_
      refine V_iadd f dX9_dries_110 ?_
      refine V_mmin f dX9_dries_111 ml_X9_243 ma_min ma_ini mc_min (by decide) (Nat.le_of_ble_eq_true rfl) (Nat.zero_le _) (Nat.zero_le _) ?_
      refine V_iast f dX9_dries_114 zm_4 ha ?_
      exact V_vret f q dX9_dries_115 (Nat.zero_le _) (Nat.zero_le _) ⟨rfl, rfl, rfl, (by simp only [s_X9_dries, if_neg c1, if_neg c2])⟩
    · refine V_iconst (v := 1) f dX9_dries_27 (by decide) ?_
      refine V_goto (tgt := 32) f dX9_dries_28 (by decide) ?_
      refine V_istore f dX9_dries_32 (by decide) rfl ?_
      refine V_bipush (v := 12) f dX9_dries_34 (by decide) ?_
      refine V_iload_n f dX9_dries_36 3 rfl ?_
      refine V_imul f dX9_dries_37 ?_
      refine V_bipush (v := 6) f dX9_dries_38 (by decide) ?_
      refine V_iload_n f dX9_dries_40 4 rfl ?_
      refine V_imul f dX9_dries_41 ?_
      refine V_iadd f dX9_dries_42 ?_
      refine V_istore f dX9_dries_43 (by decide) rfl ?_
      refine V_aload_n f dX9_dries_45 2 rfl ?_
      refine V_getR f dX9_dries_46 lf_9_19 rfl zm_0 rfl ?_
      refine V_iload_n f dX9_dries_49 3 rfl ?_
      refine V_iconst (v := 0) f dX9_dries_50 (by decide) ?_
      refine V_aload_n f dX9_dries_51 2 rfl ?_
      refine V_getR f dX9_dries_52 lf_9_19 rfl zm_0 rfl ?_
      refine V_iload_n f dX9_dries_55 3 rfl ?_
      refine V_ialdE (x := M 4 (Int32.toNatClampNeg a)) f dX9_dries_56 zm_4 ha (up_c (by decide) rfl) ?_
      refine V_iload f dX9_dries_57 1 rfl ?_
      refine V_if_eq (tgt := 69) f dX9_dries_59 (by decide) (fun h => absurd h (by decide)) (fun _ => ?_)
      refine V_iload f dX9_dries_62 0 rfl ?_
      refine V_iconst (v := 2) f dX9_dries_64 (by decide) ?_
      refine V_idiv f dX9_dries_65 (by decide) ?_
      refine V_goto (tgt := 71) f dX9_dries_66 (by decide) ?_
      refine V_isub f dX9_dries_71 ?_
      refine V_mmax f dX9_dries_72 ml_X9_216 ma_max ma_ini mc_max (by decide) (Nat.le_of_ble_eq_true rfl) (Nat.zero_le _) (Nat.zero_le _) ?_
      refine V_iast f dX9_dries_75 zm_4 ha ?_
      refine V_aload_n f dX9_dries_76 2 rfl ?_
      refine V_getR f dX9_dries_77 lf_9_19 rfl zm_0 rfl ?_
      refine V_iload_n f dX9_dries_80 3 rfl ?_
      refine V_sipush (v := 900) f dX9_dries_81 (by decide) ?_
      refine V_aload_n f dX9_dries_84 2 rfl ?_
      refine V_getR f dX9_dries_85 lf_9_19 rfl zm_0 rfl ?_
      refine V_iload_n f dX9_dries_88 3 rfl ?_
      refine V_ialdE (x := if 0 < ((M 4 (Int32.toNatClampNeg a)) - (((12 * b) + (6 * e)) / 2)) then ((M 4 (Int32.toNatClampNeg a)) - (((12 * b) + (6 * e)) / 2)) else 0) f dX9_dries_89 zm_4 ha up_s ?_
      refine V_iload f dX9_dries_90 1 rfl ?_
      refine V_if_eq (tgt := 105) f dX9_dries_92 (by decide) (fun h => absurd h (by decide)) (fun _ => ?_)
      refine V_bipush (v := 10) f dX9_dries_95 (by decide) ?_
      refine V_iload f dX9_dries_97 6 rfl ?_
      refine V_imul f dX9_dries_99 ?_
      refine V_iconst (v := 4) f dX9_dries_100 (by decide) ?_
      refine V_idiv f dX9_dries_101 (by decide) ?_
      refine V_goto (tgt := 110) f dX9_dries_102 (by decide) ?_
      refine V_iadd f dX9_dries_110 ?_
      refine V_mmin f dX9_dries_111 ml_X9_243 ma_min ma_ini mc_min (by decide) (Nat.le_of_ble_eq_true rfl) (Nat.zero_le _) (Nat.zero_le _) ?_
      refine V_iast f dX9_dries_114 zm_4 ha ?_
      exact V_vret f q dX9_dries_115 (Nat.zero_le _) (Nat.zero_le _) ⟨rfl, rfl, rfl, (by simp only [s_X9_dries, if_neg c1, if_pos c2])⟩
  · exact V_vret f q dX9_dries_16 (Nat.zero_le _) (Nat.zero_le _) ⟨rfl, rfl, rfl, (by simp only [s_X9_dries, if_pos c1])⟩
def s_X9_heats (M : MT) (a : Int32) (b : Int32) : MT := (if (s_X9_burns M a) = 0 then (if (M 9 (Int32.toNatClampNeg a)) ≤ 500 then (if b ≤ 20 then (if (if 10 < (if ((M 10 (Int32.toNatClampNeg a)) + (((1 + ((M 8 (Int32.toNatClampNeg a)) / 500)) + 0) - 0)) < 100 then ((M 10 (Int32.toNatClampNeg a)) + (((1 + ((M 8 (Int32.toNatClampNeg a)) / 500)) + 0) - 0)) else 100) then (if ((M 10 (Int32.toNatClampNeg a)) + (((1 + ((M 8 (Int32.toNatClampNeg a)) / 500)) + 0) - 0)) < 100 then ((M 10 (Int32.toNatClampNeg a)) + (((1 + ((M 8 (Int32.toNatClampNeg a)) / 500)) + 0) - 0)) else 100) else 10) = 100 then (up2 (up2 M 10 (Int32.toNatClampNeg a) (if 10 < (if ((M 10 (Int32.toNatClampNeg a)) + (((1 + ((M 8 (Int32.toNatClampNeg a)) / 500)) + 0) - 0)) < 100 then ((M 10 (Int32.toNatClampNeg a)) + (((1 + ((M 8 (Int32.toNatClampNeg a)) / 500)) + 0) - 0)) else 100) then (if ((M 10 (Int32.toNatClampNeg a)) + (((1 + ((M 8 (Int32.toNatClampNeg a)) / 500)) + 0) - 0)) < 100 then ((M 10 (Int32.toNatClampNeg a)) + (((1 + ((M 8 (Int32.toNatClampNeg a)) / 500)) + 0) - 0)) else 100) else 10)) 13 (Int32.toNatClampNeg a) (M 0 0)) else (up2 M 10 (Int32.toNatClampNeg a) (if 10 < (if ((M 10 (Int32.toNatClampNeg a)) + (((1 + ((M 8 (Int32.toNatClampNeg a)) / 500)) + 0) - 0)) < 100 then ((M 10 (Int32.toNatClampNeg a)) + (((1 + ((M 8 (Int32.toNatClampNeg a)) / 500)) + 0) - 0)) else 100) then (if ((M 10 (Int32.toNatClampNeg a)) + (((1 + ((M 8 (Int32.toNatClampNeg a)) / 500)) + 0) - 0)) < 100 then ((M 10 (Int32.toNatClampNeg a)) + (((1 + ((M 8 (Int32.toNatClampNeg a)) / 500)) + 0) - 0)) else 100) else 10))) else (if (if 10 < (if ((M 10 (Int32.toNatClampNeg a)) + (((1 + ((M 8 (Int32.toNatClampNeg a)) / 500)) + 0) - 3)) < 100 then ((M 10 (Int32.toNatClampNeg a)) + (((1 + ((M 8 (Int32.toNatClampNeg a)) / 500)) + 0) - 3)) else 100) then (if ((M 10 (Int32.toNatClampNeg a)) + (((1 + ((M 8 (Int32.toNatClampNeg a)) / 500)) + 0) - 3)) < 100 then ((M 10 (Int32.toNatClampNeg a)) + (((1 + ((M 8 (Int32.toNatClampNeg a)) / 500)) + 0) - 3)) else 100) else 10) = 100 then (up2 (up2 M 10 (Int32.toNatClampNeg a) (if 10 < (if ((M 10 (Int32.toNatClampNeg a)) + (((1 + ((M 8 (Int32.toNatClampNeg a)) / 500)) + 0) - 3)) < 100 then ((M 10 (Int32.toNatClampNeg a)) + (((1 + ((M 8 (Int32.toNatClampNeg a)) / 500)) + 0) - 3)) else 100) then (if ((M 10 (Int32.toNatClampNeg a)) + (((1 + ((M 8 (Int32.toNatClampNeg a)) / 500)) + 0) - 3)) < 100 then ((M 10 (Int32.toNatClampNeg a)) + (((1 + ((M 8 (Int32.toNatClampNeg a)) / 500)) + 0) - 3)) else 100) else 10)) 13 (Int32.toNatClampNeg a) (M 0 0)) else (up2 M 10 (Int32.toNatClampNeg a) (if 10 < (if ((M 10 (Int32.toNatClampNeg a)) + (((1 + ((M 8 (Int32.toNatClampNeg a)) / 500)) + 0) - 3)) < 100 then ((M 10 (Int32.toNatClampNeg a)) + (((1 + ((M 8 (Int32.toNatClampNeg a)) / 500)) + 0) - 3)) else 100) then (if ((M 10 (Int32.toNatClampNeg a)) + (((1 + ((M 8 (Int32.toNatClampNeg a)) / 500)) + 0) - 3)) < 100 then ((M 10 (Int32.toNatClampNeg a)) + (((1 + ((M 8 (Int32.toNatClampNeg a)) / 500)) + 0) - 3)) else 100) else 10)))) else (if b ≤ 20 then (if (if 10 < (if ((M 10 (Int32.toNatClampNeg a)) + (((1 + ((M 8 (Int32.toNatClampNeg a)) / 500)) + 2) - 0)) < 100 then ((M 10 (Int32.toNatClampNeg a)) + (((1 + ((M 8 (Int32.toNatClampNeg a)) / 500)) + 2) - 0)) else 100) then (if ((M 10 (Int32.toNatClampNeg a)) + (((1 + ((M 8 (Int32.toNatClampNeg a)) / 500)) + 2) - 0)) < 100 then ((M 10 (Int32.toNatClampNeg a)) + (((1 + ((M 8 (Int32.toNatClampNeg a)) / 500)) + 2) - 0)) else 100) else 10) = 100 then (up2 (up2 M 10 (Int32.toNatClampNeg a) (if 10 < (if ((M 10 (Int32.toNatClampNeg a)) + (((1 + ((M 8 (Int32.toNatClampNeg a)) / 500)) + 2) - 0)) < 100 then ((M 10 (Int32.toNatClampNeg a)) + (((1 + ((M 8 (Int32.toNatClampNeg a)) / 500)) + 2) - 0)) else 100) then (if ((M 10 (Int32.toNatClampNeg a)) + (((1 + ((M 8 (Int32.toNatClampNeg a)) / 500)) + 2) - 0)) < 100 then ((M 10 (Int32.toNatClampNeg a)) + (((1 + ((M 8 (Int32.toNatClampNeg a)) / 500)) + 2) - 0)) else 100) else 10)) 13 (Int32.toNatClampNeg a) (M 0 0)) else (up2 M 10 (Int32.toNatClampNeg a) (if 10 < (if ((M 10 (Int32.toNatClampNeg a)) + (((1 + ((M 8 (Int32.toNatClampNeg a)) / 500)) + 2) - 0)) < 100 then ((M 10 (Int32.toNatClampNeg a)) + (((1 + ((M 8 (Int32.toNatClampNeg a)) / 500)) + 2) - 0)) else 100) then (if ((M 10 (Int32.toNatClampNeg a)) + (((1 + ((M 8 (Int32.toNatClampNeg a)) / 500)) + 2) - 0)) < 100 then ((M 10 (Int32.toNatClampNeg a)) + (((1 + ((M 8 (Int32.toNatClampNeg a)) / 500)) + 2) - 0)) else 100) else 10))) else (if (if 10 < (if ((M 10 (Int32.toNatClampNeg a)) + (((1 + ((M 8 (Int32.toNatClampNeg a)) / 500)) + 2) - 3)) < 100 then ((M 10 (Int32.toNatClampNeg a)) + (((1 + ((M 8 (Int32.toNatClampNeg a)) / 500)) + 2) - 3)) else 100) then (if ((M 10 (Int32.toNatClampNeg a)) + (((1 + ((M 8 (Int32.toNatClampNeg a)) / 500)) + 2) - 3)) < 100 then ((M 10 (Int32.toNatClampNeg a)) + (((1 + ((M 8 (Int32.toNatClampNeg a)) / 500)) + 2) - 3)) else 100) else 10) = 100 then (up2 (up2 M 10 (Int32.toNatClampNeg a) (if 10 < (if ((M 10 (Int32.toNatClampNeg a)) + (((1 + ((M 8 (Int32.toNatClampNeg a)) / 500)) + 2) - 3)) < 100 then ((M 10 (Int32.toNatClampNeg a)) + (((1 + ((M 8 (Int32.toNatClampNeg a)) / 500)) + 2) - 3)) else 100) then (if ((M 10 (Int32.toNatClampNeg a)) + (((1 + ((M 8 (Int32.toNatClampNeg a)) / 500)) + 2) - 3)) < 100 then ((M 10 (Int32.toNatClampNeg a)) + (((1 + ((M 8 (Int32.toNatClampNeg a)) / 500)) + 2) - 3)) else 100) else 10)) 13 (Int32.toNatClampNeg a) (M 0 0)) else (up2 M 10 (Int32.toNatClampNeg a) (if 10 < (if ((M 10 (Int32.toNatClampNeg a)) + (((1 + ((M 8 (Int32.toNatClampNeg a)) / 500)) + 2) - 3)) < 100 then ((M 10 (Int32.toNatClampNeg a)) + (((1 + ((M 8 (Int32.toNatClampNeg a)) / 500)) + 2) - 3)) else 100) then (if ((M 10 (Int32.toNatClampNeg a)) + (((1 + ((M 8 (Int32.toNatClampNeg a)) / 500)) + 2) - 3)) < 100 then ((M 10 (Int32.toNatClampNeg a)) + (((1 + ((M 8 (Int32.toNatClampNeg a)) / 500)) + 2) - 3)) else 100) else 10))))) else (up2 (up2 M 8 (Int32.toNatClampNeg a) ((M 8 (Int32.toNatClampNeg a)) - (if 1 < ((M 8 (Int32.toNatClampNeg a)) / 10) then ((M 8 (Int32.toNatClampNeg a)) / 10) else 1))) 0 8 ((M 0 8) + (if 1 < ((M 8 (Int32.toNatClampNeg a)) / 10) then ((M 8 (Int32.toNatClampNeg a)) / 10) else 1))))
set_option maxHeartbeats 4000000 in
set_option maxRecDepth 100000 in
theorem c_X9_heats (l : Launch) (D : va_G) (cy : Nat → ClassId) (X : va_W) (ad : Nat → Nat) (M : MT) (a : Int32) (b : Int32) (ha : vp_in a 10) : CtV l yX9_heats cX9_heats 4 (rK 1) D cy X ad ZM M [.ref (ad 0), .int a, .int b] (s_X9_heats M a b) := by
  refine Ctr.of (by decide +kernel) (Nat.le_of_ble_eq_true rfl) ?_
  intro K f q hnm hl0 hD0 hy0 hX0
  show V K ad 0 0 ZM M 0 [(0, .ref (ad 0)), (1, .int a), (2, .int b)] []
  refine V_aload_n f dX9_heats_0 0 rfl ?_
  refine V_iload_n f dX9_heats_1 1 rfl ?_
  refine V_cVi (As := [.int a]) (rest := []) f dX9_heats_2 lk_X9_234 ml_X9_234 ins_X9_burns sel_X9_burns zm_0 (by decide) rfl (c_X9_burns (kl K) (kD K) (ky K) (kX K) ad M a ha) rfl (Nat.le_of_ble_eq_true rfl) rfl ⟨by decide, by decide⟩ ⟨Nat.zero_le _, Nat.zero_le _⟩ rfl rfl ?_
  refine V_if_eq (tgt := 43) f dX9_heats_5 (by decide) (fun c1 => ?_) (fun c1 => ?_)
  · refine V_iconst (v := 1) f dX9_heats_43 (by decide) ?_
    refine V_aload_n f dX9_heats_44 0 rfl ?_
    refine V_getR f dX9_heats_45 lf_9_31 rfl zm_0 rfl ?_
    refine V_iload_n f dX9_heats_48 1 rfl ?_
    refine V_ialdE (x := M 8 (Int32.toNatClampNeg a)) f dX9_heats_49 zm_8 ha rfl ?_
    refine V_sipush (v := 500) f dX9_heats_50 (by decide) ?_
    refine V_idiv f dX9_heats_53 (by decide) ?_
    refine V_iadd f dX9_heats_54 ?_
    refine V_aload_n f dX9_heats_55 0 rfl ?_
    refine V_getR f dX9_heats_56 lf_9_34 rfl zm_0 rfl ?_
    refine V_iload_n f dX9_heats_59 1 rfl ?_
    refine V_ialdE (x := M 9 (Int32.toNatClampNeg a)) f dX9_heats_60 zm_9 ha rfl ?_
    refine V_sipush (v := 500) f dX9_heats_61 (by decide) ?_
    refine V_icmp_le (tgt := 71) f dX9_heats_64 (by decide) (fun c2 => ?_) (fun c2 => ?_)
    · refine V_iconst (v := 0) f dX9_heats_71 (by decide) ?_
      refine V_iadd f dX9_heats_72 ?_
      refine V_iload_n f dX9_heats_73 2 rfl ?_
      refine V_bipush (v := 20) f dX9_heats_74 (by decide) ?_
      refine V_icmp_le (tgt := 83) f dX9_heats_76 (by decide) (fun c3 => ?_) (fun c3 => ?_)
      · refine V_iconst (v := 0) f dX9_heats_83 (by decide) ?_
        refine V_isub f dX9_heats_84 ?_
        refine V_istore_n f dX9_heats_85 rfl (by decide) rfl ?_
        refine V_aload_n f dX9_heats_86 1 rfl ?_
        refine V_getR f dX9_heats_87 lf_9_37 rfl zm_0 rfl ?_
        refine V_iload_n f dX9_heats_90 2 rfl ?_
        refine V_bipush (v := 10) f dX9_heats_91 (by decide) ?_
        refine V_bipush (v := 100) f dX9_heats_93 (by decide) ?_
        refine V_aload_n f dX9_heats_95 1 rfl ?_
        refine V_getR f dX9_heats_96 lf_9_37 rfl zm_0 rfl ?_
        refine V_iload_n f dX9_heats_99 2 rfl ?_
        refine V_ialdE (x := M 10 (Int32.toNatClampNeg a)) f dX9_heats_100 zm_10 ha rfl ?_
        refine V_iload_n f dX9_heats_101 0 rfl ?_
        refine V_iadd f dX9_heats_102 ?_
        refine V_mmin f dX9_heats_103 ml_X9_243 ma_min ma_ini mc_min (by decide) (Nat.le_of_ble_eq_true rfl) (Nat.zero_le _) (Nat.zero_le _) ?_
        refine V_mmax f dX9_heats_106 ml_X9_216 ma_max ma_ini mc_max (by decide) (Nat.le_of_ble_eq_true rfl) (Nat.zero_le _) (Nat.zero_le _) ?_
        refine V_iast f dX9_heats_109 zm_10 ha ?_
        refine V_aload_n f dX9_heats_110 1 rfl ?_
        refine V_getR f dX9_heats_111 lf_9_37 rfl zm_0 rfl ?_
        refine V_iload_n f dX9_heats_114 2 rfl ?_
        refine V_ialdE (x := if 10 < (if ((M 10 (Int32.toNatClampNeg a)) + (((1 + ((M 8 (Int32.toNatClampNeg a)) / 500)) + 0) - 0)) < 100 then ((M 10 (Int32.toNatClampNeg a)) + (((1 + ((M 8 (Int32.toNatClampNeg a)) / 500)) + 0) - 0)) else 100) then (if ((M 10 (Int32.toNatClampNeg a)) + (((1 + ((M 8 (Int32.toNatClampNeg a)) / 500)) + 0) - 0)) < 100 then ((M 10 (Int32.toNatClampNeg a)) + (((1 + ((M 8 (Int32.toNatClampNeg a)) / 500)) + 0) - 0)) else 100) else 10) f dX9_heats_115 zm_10 ha up_s ?_
        refine V_bipush (v := 100) f dX9_heats_116 (by decide) ?_
        refine V_icmp_ne (tgt := 131) f dX9_heats_118 (by decide) (fun c4 => ?_) (fun c4 => ?_)
        · exact V_vret f q dX9_heats_131 (Nat.zero_le _) (Nat.zero_le _) ⟨rfl, rfl, rfl, (by simp only [s_X9_heats, if_pos c1, if_pos c2, if_pos c3, if_neg c4])⟩
        · refine V_aload_n f dX9_heats_121 1 rfl ?_
          refine V_getR f dX9_heats_122 lf_9_46 rfl zm_0 rfl ?_
          refine V_iload_n f dX9_heats_125 2 rfl ?_
          refine V_aload_n f dX9_heats_126 1 rfl ?_
          refine V_getE (x := M 0 0) f dX9_heats_127 lf_9_194 rfl zm_0 (up_c (by decide) rfl) ?_
          refine V_iast f dX9_heats_130 zm_13 ha ?_
          exact V_vret f q dX9_heats_131 (Nat.zero_le _) (Nat.zero_le _) ⟨rfl, rfl, rfl, (by simp only [s_X9_heats, if_pos c1, if_pos c2, if_pos c3, if_pos c4])⟩
      · refine V_iconst (v := 3) f dX9_heats_79 (by decide) ?_
        refine V_goto (tgt := 84) f dX9_heats_80 (by decide) ?_
        refine V_isub f dX9_heats_84 ?_
        refine V_istore_n f dX9_heats_85 rfl (by decide) rfl ?_
        refine V_aload_n f dX9_heats_86 1 rfl ?_
        refine V_getR f dX9_heats_87 lf_9_37 rfl zm_0 rfl ?_
        refine V_iload_n f dX9_heats_90 2 rfl ?_
        refine V_bipush (v := 10) f dX9_heats_91 (by decide) ?_
        refine V_bipush (v := 100) f dX9_heats_93 (by decide) ?_
        refine V_aload_n f dX9_heats_95 1 rfl ?_
        refine V_getR f dX9_heats_96 lf_9_37 rfl zm_0 rfl ?_
        refine V_iload_n f dX9_heats_99 2 rfl ?_
        refine V_ialdE (x := M 10 (Int32.toNatClampNeg a)) f dX9_heats_100 zm_10 ha rfl ?_
        refine V_iload_n f dX9_heats_101 0 rfl ?_
        refine V_iadd f dX9_heats_102 ?_
        refine V_mmin f dX9_heats_103 ml_X9_243 ma_min ma_ini mc_min (by decide) (Nat.le_of_ble_eq_true rfl) (Nat.zero_le _) (Nat.zero_le _) ?_
        refine V_mmax f dX9_heats_106 ml_X9_216 ma_max ma_ini mc_max (by decide) (Nat.le_of_ble_eq_true rfl) (Nat.zero_le _) (Nat.zero_le _) ?_
        refine V_iast f dX9_heats_109 zm_10 ha ?_
        refine V_aload_n f dX9_heats_110 1 rfl ?_
        refine V_getR f dX9_heats_111 lf_9_37 rfl zm_0 rfl ?_
        refine V_iload_n f dX9_heats_114 2 rfl ?_
        refine V_ialdE (x := if 10 < (if ((M 10 (Int32.toNatClampNeg a)) + (((1 + ((M 8 (Int32.toNatClampNeg a)) / 500)) + 0) - 3)) < 100 then ((M 10 (Int32.toNatClampNeg a)) + (((1 + ((M 8 (Int32.toNatClampNeg a)) / 500)) + 0) - 3)) else 100) then (if ((M 10 (Int32.toNatClampNeg a)) + (((1 + ((M 8 (Int32.toNatClampNeg a)) / 500)) + 0) - 3)) < 100 then ((M 10 (Int32.toNatClampNeg a)) + (((1 + ((M 8 (Int32.toNatClampNeg a)) / 500)) + 0) - 3)) else 100) else 10) f dX9_heats_115 zm_10 ha up_s ?_
        refine V_bipush (v := 100) f dX9_heats_116 (by decide) ?_
        refine V_icmp_ne (tgt := 131) f dX9_heats_118 (by decide) (fun c5 => ?_) (fun c5 => ?_)
        · exact V_vret f q dX9_heats_131 (Nat.zero_le _) (Nat.zero_le _) ⟨rfl, rfl, rfl, (by simp only [s_X9_heats, if_pos c1, if_pos c2, if_neg c3, if_neg c5])⟩
        · refine V_aload_n f dX9_heats_121 1 rfl ?_
          refine V_getR f dX9_heats_122 lf_9_46 rfl zm_0 rfl ?_
          refine V_iload_n f dX9_heats_125 2 rfl ?_
          refine V_aload_n f dX9_heats_126 1 rfl ?_
          refine V_getE (x := M 0 0) f dX9_heats_127 lf_9_194 rfl zm_0 (up_c (by decide) rfl) ?_
          refine V_iast f dX9_heats_130 zm_13 ha ?_
          exact V_vret f q dX9_heats_131 (Nat.zero_le _) (Nat.zero_le _) ⟨rfl, rfl, rfl, (by simp only [s_X9_heats, if_pos c1, if_pos c2, if_neg c3, if_pos c5])⟩
    · refine V_iconst (v := 2) f dX9_heats_67 (by decide) ?_
      refine V_goto (tgt := 72) f dX9_heats_68 (by decide) ?_
      refine V_iadd f dX9_heats_72 ?_
      refine V_iload_n f dX9_heats_73 2 rfl ?_
      refine V_bipush (v := 20) f dX9_heats_74 (by decide) ?_
      refine V_icmp_le (tgt := 83) f dX9_heats_76 (by decide) (fun c6 => ?_) (fun c6 => ?_)
      · refine V_iconst (v := 0) f dX9_heats_83 (by decide) ?_
        refine V_isub f dX9_heats_84 ?_
        refine V_istore_n f dX9_heats_85 rfl (by decide) rfl ?_
        refine V_aload_n f dX9_heats_86 1 rfl ?_
        refine V_getR f dX9_heats_87 lf_9_37 rfl zm_0 rfl ?_
        refine V_iload_n f dX9_heats_90 2 rfl ?_
        refine V_bipush (v := 10) f dX9_heats_91 (by decide) ?_
        refine V_bipush (v := 100) f dX9_heats_93 (by decide) ?_
        refine V_aload_n f dX9_heats_95 1 rfl ?_
        refine V_getR f dX9_heats_96 lf_9_37 rfl zm_0 rfl ?_
        refine V_iload_n f dX9_heats_99 2 rfl ?_
        refine V_ialdE (x := M 10 (Int32.toNatClampNeg a)) f dX9_heats_100 zm_10 ha rfl ?_
        refine V_iload_n f dX9_heats_101 0 rfl ?_
        refine V_iadd f dX9_heats_102 ?_
        refine V_mmin f dX9_heats_103 ml_X9_243 ma_min ma_ini mc_min (by decide) (Nat.le_of_ble_eq_true rfl) (Nat.zero_le _) (Nat.zero_le _) ?_
        refine V_mmax f dX9_heats_106 ml_X9_216 ma_max ma_ini mc_max (by decide) (Nat.le_of_ble_eq_true rfl) (Nat.zero_le _) (Nat.zero_le _) ?_
        refine V_iast f dX9_heats_109 zm_10 ha ?_
        refine V_aload_n f dX9_heats_110 1 rfl ?_
        refine V_getR f dX9_heats_111 lf_9_37 rfl zm_0 rfl ?_
        refine V_iload_n f dX9_heats_114 2 rfl ?_
        refine V_ialdE (x := if 10 < (if ((M 10 (Int32.toNatClampNeg a)) + (((1 + ((M 8 (Int32.toNatClampNeg a)) / 500)) + 2) - 0)) < 100 then ((M 10 (Int32.toNatClampNeg a)) + (((1 + ((M 8 (Int32.toNatClampNeg a)) / 500)) + 2) - 0)) else 100) then (if ((M 10 (Int32.toNatClampNeg a)) + (((1 + ((M 8 (Int32.toNatClampNeg a)) / 500)) + 2) - 0)) < 100 then ((M 10 (Int32.toNatClampNeg a)) + (((1 + ((M 8 (Int32.toNatClampNeg a)) / 500)) + 2) - 0)) else 100) else 10) f dX9_heats_115 zm_10 ha up_s ?_
        refine V_bipush (v := 100) f dX9_heats_116 (by decide) ?_
        refine V_icmp_ne (tgt := 131) f dX9_heats_118 (by decide) (fun c7 => ?_) (fun c7 => ?_)
        · exact V_vret f q dX9_heats_131 (Nat.zero_le _) (Nat.zero_le _) ⟨rfl, rfl, rfl, (by simp only [s_X9_heats, if_pos c1, if_neg c2, if_pos c6, if_neg c7])⟩
        · refine V_aload_n f dX9_heats_121 1 rfl ?_
          refine V_getR f dX9_heats_122 lf_9_46 rfl zm_0 rfl ?_
          refine V_iload_n f dX9_heats_125 2 rfl ?_
          refine V_aload_n f dX9_heats_126 1 rfl ?_
          refine V_getE (x := M 0 0) f dX9_heats_127 lf_9_194 rfl zm_0 (up_c (by decide) rfl) ?_
          refine V_iast f dX9_heats_130 zm_13 ha ?_
          exact V_vret f q dX9_heats_131 (Nat.zero_le _) (Nat.zero_le _) ⟨rfl, rfl, rfl, (by simp only [s_X9_heats, if_pos c1, if_neg c2, if_pos c6, if_pos c7])⟩
      · refine V_iconst (v := 3) f dX9_heats_79 (by decide) ?_
        refine V_goto (tgt := 84) f dX9_heats_80 (by decide) ?_
        refine V_isub f dX9_heats_84 ?_
        refine V_istore_n f dX9_heats_85 rfl (by decide) rfl ?_
        refine V_aload_n f dX9_heats_86 1 rfl ?_
        refine V_getR f dX9_heats_87 lf_9_37 rfl zm_0 rfl ?_
        refine V_iload_n f dX9_heats_90 2 rfl ?_
        refine V_bipush (v := 10) f dX9_heats_91 (by decide) ?_
        refine V_bipush (v := 100) f dX9_heats_93 (by decide) ?_
        refine V_aload_n f dX9_heats_95 1 rfl ?_
        refine V_getR f dX9_heats_96 lf_9_37 rfl zm_0 rfl ?_
        refine V_iload_n f dX9_heats_99 2 rfl ?_
        refine V_ialdE (x := M 10 (Int32.toNatClampNeg a)) f dX9_heats_100 zm_10 ha rfl ?_
        refine V_iload_n f dX9_heats_101 0 rfl ?_
        refine V_iadd f dX9_heats_102 ?_
        refine V_mmin f dX9_heats_103 ml_X9_243 ma_min ma_ini mc_min (by decide) (Nat.le_of_ble_eq_true rfl) (Nat.zero_le _) (Nat.zero_le _) ?_
        refine V_mmax f dX9_heats_106 ml_X9_216 ma_max ma_ini mc_max (by decide) (Nat.le_of_ble_eq_true rfl) (Nat.zero_le _) (Nat.zero_le _) ?_
        refine V_iast f dX9_heats_109 zm_10 ha ?_
        refine V_aload_n f dX9_heats_110 1 rfl ?_
        refine V_getR f dX9_heats_111 lf_9_37 rfl zm_0 rfl ?_
        refine V_iload_n f dX9_heats_114 2 rfl ?_
        refine V_ialdE (x := if 10 < (if ((M 10 (Int32.toNatClampNeg a)) + (((1 + ((M 8 (Int32.toNatClampNeg a)) / 500)) + 2) - 3)) < 100 then ((M 10 (Int32.toNatClampNeg a)) + (((1 + ((M 8 (Int32.toNatClampNeg a)) / 500)) + 2) - 3)) else 100) then (if ((M 10 (Int32.toNatClampNeg a)) + (((1 + ((M 8 (Int32.toNatClampNeg a)) / 500)) + 2) - 3)) < 100 then ((M 10 (Int32.toNatClampNeg a)) + (((1 + ((M 8 (Int32.toNatClampNeg a)) / 500)) + 2) - 3)) else 100) else 10) f dX9_heats_115 zm_10 ha up_s ?_
        refine V_bipush (v := 100) f dX9_heats_116 (by decide) ?_
        refine V_icmp_ne (tgt := 131) f dX9_heats_118 (by decide) (fun c8 => ?_) (fun c8 => ?_)
        · exact V_vret f q dX9_heats_131 (Nat.zero_le _) (Nat.zero_le _) ⟨rfl, rfl, rfl, (by simp only [s_X9_heats, if_pos c1, if_neg c2, if_neg c6, if_neg c8])⟩
        · refine V_aload_n f dX9_heats_121 1 rfl ?_
          refine V_getR f dX9_heats_122 lf_9_46 rfl zm_0 rfl ?_
          refine V_iload_n f dX9_heats_125 2 rfl ?_
          refine V_aload_n f dX9_heats_126 1 rfl ?_
          refine V_getE (x := M 0 0) f dX9_heats_127 lf_9_194 rfl zm_0 (up_c (by decide) rfl) ?_
          refine V_iast f dX9_heats_130 zm_13 ha ?_
          exact V_vret f q dX9_heats_131 (Nat.zero_le _) (Nat.zero_le _) ⟨rfl, rfl, rfl, (by simp only [s_X9_heats, if_pos c1, if_neg c2, if_neg c6, if_pos c8])⟩
  · refine V_iconst (v := 1) f dX9_heats_8 (by decide) ?_
    refine V_aload_n f dX9_heats_9 0 rfl ?_
    refine V_getR f dX9_heats_10 lf_9_31 rfl zm_0 rfl ?_
    refine V_iload_n f dX9_heats_13 1 rfl ?_
    refine V_ialdE (x := M 8 (Int32.toNatClampNeg a)) f dX9_heats_14 zm_8 ha rfl ?_
    refine V_bipush (v := 10) f dX9_heats_15 (by decide) ?_
    refine V_idiv f dX9_heats_17 (by decide) ?_
    refine V_mmax f dX9_heats_18 ml_X9_216 ma_max ma_ini mc_max (by decide) (Nat.le_of_ble_eq_true rfl) (Nat.zero_le _) (Nat.zero_le _) ?_
    refine V_istore_n f dX9_heats_21 rfl (by decide) rfl ?_
    refine V_aload_n f dX9_heats_22 1 rfl ?_
    refine V_getR f dX9_heats_23 lf_9_31 rfl zm_0 rfl ?_
    refine V_iload_n f dX9_heats_26 2 rfl ?_
    refine V_dup2 f dX9_heats_27 rfl rfl ?_
    refine V_ialdE (x := M 8 (Int32.toNatClampNeg a)) f dX9_heats_28 zm_8 ha rfl ?_
    refine V_iload_n f dX9_heats_29 0 rfl ?_
    refine V_isub f dX9_heats_30 ?_
    refine V_iast f dX9_heats_31 zm_8 ha ?_
    refine V_aload_n f dX9_heats_32 1 rfl ?_
    refine V_dup f dX9_heats_33 rfl ?_
    refine V_getE (x := M 0 8) f dX9_heats_34 lf_9_246 rfl zm_0 (up_c (by decide) rfl) ?_
    refine V_iload_n f dX9_heats_37 0 rfl ?_
    refine V_iadd f dX9_heats_38 ?_
    refine V_putI f dX9_heats_39 lf_9_246 lp_9_8 rfl rfl rfl rfl zm_0 ?_
    exact V_vret f q dX9_heats_42 (Nat.zero_le _) (Nat.zero_le _) ⟨rfl, rfl, rfl, (by simp only [s_X9_heats, if_neg c1])⟩

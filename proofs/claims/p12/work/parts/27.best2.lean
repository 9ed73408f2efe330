theorem wk2 {M : MT} {a : Int32} (h : 0 ≤ a.toInt ∧ a.toInt ≤ 2) : ¬ s_X8_within M a 0 2 = 0 := by
  have e0 : (0 : Int32).toInt = 0 := by decide
  have e2 : (2 : Int32).toInt = 2 := by decide
  have h1 : ¬ a < 0 := by rw [Int32.lt_iff_toInt_lt]; omega
  have h2 : ¬ 2 < a := by rw [Int32.lt_iff_toInt_lt]; omega
  unfold s_X8_within
  rw [if_neg h1, if_neg h2]
  decide
theorem ib15 {M : MT} {a : Int32} (h : 0 ≤ a.toInt ∧ a.toInt ≤ 15) : ¬ s_X8_isBay M a = 0 := by
  have e0 : (0 : Int32).toInt = 0 := by decide
  have e2 : (15 : Int32).toInt = 15 := by decide
  have h1 : ¬ a < 0 := by rw [Int32.lt_iff_toInt_lt]; omega
  have h2 : ¬ 15 < a := by rw [Int32.lt_iff_toInt_lt]; omega
  unfold s_X8_isBay s_X8_within
  rw [if_neg h1, if_neg h2]
  decide
theorem vk4 {a : Int32} (h : 0 ≤ a.toInt ∧ a.toInt ≤ 2) : vp_in a 4 := by rw [vp_in_iff]; omega
theorem k1 {a : Int32} (h : 0 ≤ a.toInt ∧ a.toInt ≤ 2) : (a + 1).toInt = a.toInt + 1 := by
  have := i32_add (x := a) h.1 (by omega) (k := 1) (by decide) (by decide)
  have e1 : (1 : Int32).toInt = 1 := by decide
  omega
theorem vk5 {a : Int32} (h : 0 ≤ a.toInt ∧ a.toInt ≤ 2) : vp_in (a + 1) 4 := by have := k1 h; rw [vp_in_iff]; omega
theorem vb16 {a : Int32} (h : 0 ≤ a.toInt ∧ a.toInt ≤ 15) : vp_in a 16 := by rw [vp_in_iff]; omega
def s1_X3_layDay (M : MT) (a : Int32) (b : Int32) : MT := (up2 (up2 (up2 M 27 (Int32.toNatClampNeg (a + 1)) (((M 27 (Int32.toNatClampNeg a)) + 0) - (5 * (if 0 ≤ (b - (M 25 (Int32.toNatClampNeg a))) then (b - (M 25 (Int32.toNatClampNeg a))) else 0 - (b - (M 25 (Int32.toNatClampNeg a))))))) 26 (Int32.toNatClampNeg (a + 1)) ((M 26 (Int32.toNatClampNeg a)) ||| (s_X3_nearBits M b))) 25 (Int32.toNatClampNeg (a + 1)) b)
set_option maxHeartbeats 4000000 in
set_option maxRecDepth 100000 in
theorem c1_X3_layDay (l : Launch) (D : va_G) (cy : Nat → ClassId) (X : va_W) (ad : Nat → Nat) (M : MT) (a : Int32) (b : Int32) (hk : 0 ≤ a.toInt ∧ a.toInt ≤ 2) (hb : 0 ≤ b.toInt ∧ b.toInt ≤ 15) (hw : ∀ j, j < 16 → M 23 j = 0) (hz : ∀ j, j < 16 → M 24 j = 0) : CtV l yX3_layDay cX3_layDay 5 (rK 2) D cy X ad ZB M [.ref (ad 22), .int a, .int b] (s1_X3_layDay M a b) := by
  refine Ctr.of (by decide +kernel) (Nat.le_of_ble_eq_true rfl) ?_
  intro K f q hnm hl0 hD0 hy0 hX0
  show V K ad 0 0 ZB M 0 [(0, .ref (ad 22)), (1, .int a), (2, .int b)] []
  refine V_iload_n f dX3_layDay_0 1 rfl ?_
  refine V_iconst (v := 0) f dX3_layDay_1 (by decide) ?_
  refine V_iconst (v := 2) f dX3_layDay_2 (by decide) ?_
  refine V_cNi (As := [.int a, .int 0, .int 2]) (rest := []) f dX3_layDay_3 lk_X3_37 nl_X3_37 sta_X8_within (c_X8_within (kl K) (kD K) (ky K) (kX K) ad M a 0 2) rfl (Nat.le_of_ble_eq_true rfl) rfl ⟨by decide, by decide⟩ ⟨Nat.zero_le _, Nat.zero_le _⟩ rfl rfl ?_
  refine V_if_eq (tgt := 16) f dX3_layDay_6 (by decide) (fun c1 => ?_) (fun c1 => ?_)
  · exact absurd c1 (wk2 hk)
  · refine V_iload_n f dX3_layDay_9 2 rfl ?_
    refine V_cNi (As := [.int b]) (rest := []) f dX3_layDay_10 lk_X3_64 nl_X3_64 sta_X8_isBay (c_X8_isBay (kl K) (kD K) (ky K) (kX K) ad M b) rfl (Nat.le_of_ble_eq_true rfl) rfl ⟨by decide, by decide⟩ ⟨Nat.zero_le _, Nat.zero_le _⟩ rfl rfl ?_
    refine V_if_ne (tgt := 17) f dX3_layDay_13 (by decide) (fun c2 => ?_) (fun c2 => ?_)
    · refine V_iload_n f dX3_layDay_17 2 rfl ?_
      refine V_cSi (As := [.int b]) (rest := []) f dX3_layDay_18 lk_X3_68 ml_X3_68 sta_X3_nearBits (c_X3_nearBits (kl K) (kD K) (ky K) (kX K) ad M b) rfl (Nat.le_of_ble_eq_true rfl) rfl ⟨by decide, by decide⟩ ⟨Nat.zero_le _, Nat.zero_le _⟩ rfl rfl ?_
      refine V_istore_n f dX3_layDay_21 rfl (by decide) rfl ?_
      refine V_aload_n f dX3_layDay_22 1 rfl ?_
      refine V_getR f dX3_layDay_23 lf_3_21 rfl zb_22 rfl ?_
      refine V_iload_n f dX3_layDay_26 2 rfl ?_
      refine V_ialdE (x := M 26 (Int32.toNatClampNeg a)) f dX3_layDay_27 zb_26 (vk4 hk) rfl ?_
      refine V_iload_n f dX3_layDay_28 0 rfl ?_
      refine V_iand f dX3_layDay_29 ?_
      refine V_if_ne (tgt := 42) f dX3_layDay_30 (by decide) (fun c3 => ?_) (fun c3 => ?_)
      · refine V_aload_n f dX3_layDay_42 1 rfl ?_
        refine V_iload_n f dX3_layDay_43 3 rfl ?_
        refine V_aload_n f dX3_layDay_44 1 rfl ?_
        refine V_getR f dX3_layDay_45 lf_3_21 rfl zb_22 rfl ?_
        refine V_iload_n f dX3_layDay_48 2 rfl ?_
        refine V_ialdE (x := M 26 (Int32.toNatClampNeg a)) f dX3_layDay_49 zb_26 (vk4 hk) rfl ?_
        refine V_cVi (As := [.int b, .int (M 26 (Int32.toNatClampNeg a))]) (rest := []) f dX3_layDay_50 lk_X3_61 ml_X3_61 ins_X3_freshWeight sel_X3_freshWeight zb_22 (by decide) rfl (c1_X3_freshWeight (kl K) (kD K) (ky K) (kX K) ad M b (M 26 (Int32.toNatClampNeg a)) hb hz) rfl (Nat.le_of_ble_eq_true rfl) rfl ⟨by decide, by decide⟩ ⟨Nat.zero_le _, Nat.zero_le _⟩ rfl rfl ?_
        refine V_istore f dX3_layDay_53 (by decide) rfl ?_
        refine V_aload_n f dX3_layDay_55 2 rfl ?_
        refine V_getR f dX3_layDay_56 lf_3_24 rfl zb_22 rfl ?_
        refine V_iload_n f dX3_layDay_59 3 rfl ?_
        refine V_iconst (v := 1) f dX3_layDay_60 (by decide) ?_
        refine V_iadd f dX3_layDay_61 ?_
        refine V_aload_n f dX3_layDay_62 2 rfl ?_
        refine V_getR f dX3_layDay_63 lf_3_24 rfl zb_22 rfl ?_
        refine V_iload_n f dX3_layDay_66 3 rfl ?_
        refine V_ialdE (x := M 27 (Int32.toNatClampNeg a)) f dX3_layDay_67 zb_27 (vk4 hk) rfl ?_
        refine V_iload f dX3_layDay_68 0 rfl ?_
        refine V_iadd f dX3_layDay_70 ?_
        refine V_iconst (v := 5) f dX3_layDay_71 (by decide) ?_
        refine V_iload_n f dX3_layDay_72 4 rfl ?_
        refine V_aload_n f dX3_layDay_73 2 rfl ?_
        refine V_getR f dX3_layDay_74 lf_3_18 rfl zb_22 rfl ?_
        refine V_iload_n f dX3_layDay_77 3 rfl ?_
        refine V_ialdE (x := M 25 (Int32.toNatClampNeg a)) f dX3_layDay_78 zb_25 (vk4 hk) rfl ?_
        refine V_isub f dX3_layDay_79 ?_
        refine V_mabs f dX3_layDay_80 ml_X3_71 ma_abs ma_ini mc_abs (by decide) (Nat.le_of_ble_eq_true rfl) (Nat.zero_le _) (Nat.zero_le _) ?_
        refine V_imul f dX3_layDay_83 ?_
        refine V_isub f dX3_layDay_84 ?_
        refine V_iast f dX3_layDay_85 zb_27 (vk5 hk) ?_
        refine V_aload_n f dX3_layDay_86 2 rfl ?_
        refine V_getR f dX3_layDay_87 lf_3_21 rfl zb_22 rfl ?_
        refine V_iload_n f dX3_layDay_90 3 rfl ?_
        refine V_iconst (v := 1) f dX3_layDay_91 (by decide) ?_
        refine V_iadd f dX3_layDay_92 ?_
        refine V_aload_n f dX3_layDay_93 2 rfl ?_
        refine V_getR f dX3_layDay_94 lf_3_21 rfl zb_22 rfl ?_
        refine V_iload_n f dX3_layDay_97 3 rfl ?_
        refine V_ialdE (x := M 26 (Int32.toNatClampNeg a)) f dX3_layDay_98 zb_26 (vk4 hk) (up_c (by decide) rfl) ?_
        refine V_iload_n f dX3_layDay_99 1 rfl ?_
        refine V_ior f dX3_layDay_100 ?_
        refine V_iast f dX3_layDay_101 zb_26 (vk5 hk) ?_
        refine V_aload_n f dX3_layDay_102 2 rfl ?_
        refine V_getR f dX3_layDay_103 lf_3_18 rfl zb_22 rfl ?_
        refine V_iload_n f dX3_layDay_106 3 rfl ?_
        refine V_iconst (v := 1) f dX3_layDay_107 (by decide) ?_
        refine V_iadd f dX3_layDay_108 ?_
        refine V_iload_n f dX3_layDay_109 4 rfl ?_
        refine V_iast f dX3_layDay_110 zb_25 (vk5 hk) ?_
        exact V_vret f q dX3_layDay_111 (Nat.zero_le _) (Nat.zero_le _) ⟨rfl, rfl, rfl, (by simp only [s1_X3_layDay, if_neg c1, if_neg c2, if_neg c3])⟩
      · refine V_aload_n f dX3_layDay_33 1 rfl ?_
        refine V_getR f dX3_layDay_34 lf_3_9 rfl zb_22 rfl ?_
        refine V_iload_n f dX3_layDay_37 3 rfl ?_
        refine V_ialdE (x := 0) f dX3_layDay_38 zb_23 (vb16 hb) (hw _ (vlt (vb16 hb))) ?_
        refine V_goto (tgt := 53) f dX3_layDay_39 (by decide) ?_
        refine V_istore f dX3_layDay_53 (by decide) rfl ?_
        refine V_aload_n f dX3_layDay_55 2 rfl ?_
        refine V_getR f dX3_layDay_56 lf_3_24 rfl zb_22 rfl ?_
        refine V_iload_n f dX3_layDay_59 3 rfl ?_
        refine V_iconst (v := 1) f dX3_layDay_60 (by decide) ?_
        refine V_iadd f dX3_layDay_61 ?_
        refine V_aload_n f dX3_layDay_62 2 rfl ?_
        refine V_getR f dX3_layDay_63 lf_3_24 rfl zb_22 rfl ?_
        refine V_iload_n f dX3_layDay_66 3 rfl ?_
        refine V_ialdE (x := M 27 (Int32.toNatClampNeg a)) f dX3_layDay_67 zb_27 (vk4 hk) rfl ?_
        refine V_iload f dX3_layDay_68 0 rfl ?_
        refine V_iadd f dX3_layDay_70 ?_
        refine V_iconst (v := 5) f dX3_layDay_71 (by decide) ?_
        refine V_iload_n f dX3_layDay_72 4 rfl ?_
        refine V_aload_n f dX3_layDay_73 2 rfl ?_
        refine V_getR f dX3_layDay_74 lf_3_18 rfl zb_22 rfl ?_
        refine V_iload_n f dX3_layDay_77 3 rfl ?_
        refine V_ialdE (x := M 25 (Int32.toNatClampNeg a)) f dX3_layDay_78 zb_25 (vk4 hk) rfl ?_
        refine V_isub f dX3_layDay_79 ?_
        refine V_mabs f dX3_layDay_80 ml_X3_71 ma_abs ma_ini mc_abs (by decide) (Nat.le_of_ble_eq_true rfl) (Nat.zero_le _) (Nat.zero_le _) ?_
        refine V_imul f dX3_layDay_83 ?_
        refine V_isub f dX3_layDay_84 ?_
        refine V_iast f dX3_layDay_85 zb_27 (vk5 hk) ?_
        refine V_aload_n f dX3_layDay_86 2 rfl ?_
        refine V_getR f dX3_layDay_87 lf_3_21 rfl zb_22 rfl ?_
        refine V_iload_n f dX3_layDay_90 3 rfl ?_
        refine V_iconst (v := 1) f dX3_layDay_91 (by decide) ?_
        refine V_iadd f dX3_layDay_92 ?_
        refine V_aload_n f dX3_layDay_93 2 rfl ?_
        refine V_getR f dX3_layDay_94 lf_3_21 rfl zb_22 rfl ?_
        refine V_iload_n f dX3_layDay_97 3 rfl ?_
        refine V_ialdE (x := M 26 (Int32.toNatClampNeg a)) f dX3_layDay_98 zb_26 (vk4 hk) (up_c (by decide) rfl) ?_
        refine V_iload_n f dX3_layDay_99 1 rfl ?_
        refine V_ior f dX3_layDay_100 ?_
        refine V_iast f dX3_layDay_101 zb_26 (vk5 hk) ?_
        refine V_aload_n f dX3_layDay_102 2 rfl ?_
        refine V_getR f dX3_layDay_103 lf_3_18 rfl zb_22 rfl ?_
        refine V_iload_n f dX3_layDay_106 3 rfl ?_
        refine V_iconst (v := 1) f dX3_layDay_107 (by decide) ?_
        refine V_iadd f dX3_layDay_108 ?_
        refine V_iload_n f dX3_layDay_109 4 rfl ?_
        refine V_iast f dX3_layDay_110 zb_25 (vk5 hk) ?_
        exact V_vret f q dX3_layDay_111 (Nat.zero_le _) (Nat.zero_le _) ⟨rfl, rfl, rfl, (by simp only [s1_X3_layDay, if_neg c1, if_neg c2, if_pos c3])⟩
    · exact absurd c2 (ib15 hb)
theorem up_n {M : MT} {i j k k' : Nat} {v : Int32} (h : j ≠ i) : up2 M i k v j k' = M j k' := up_c h rfl
def SI (a : Int32) (M : MT) : Prop := M 22 5 = a ∧ (∀ j, j < 16 → M 23 j = 0) ∧ (∀ j, j < 16 → M 24 j = 0) ∧ (∀ j, j < 4 → 0 ≤ (M 25 j).toInt ∧ (M 25 j).toInt ≤ 15) ∧ (∀ j : Nat, j < 4 → -(75 * (j : Int)) ≤ (M 27 j).toInt ∧ (M 27 j).toInt ≤ 0) ∧ M 27 0 = 0 ∧ M 25 0 = 0
def SZ (k : Nat) (M : MT) : Prop := ∀ j, j ≤ k → M 27 j = 0 ∧ M 25 j = 0
theorem absv {b c : Int32} (hb : 0 ≤ b.toInt ∧ b.toInt ≤ 15) (hc : 0 ≤ c.toInt ∧ c.toInt ≤ 15) : 0 ≤ (if 0 ≤ (b - c) then (b - c) else 0 - (b - c) : Int32).toInt ∧ (if 0 ≤ (b - c) then (b - c) else 0 - (b - c) : Int32).toInt ≤ 15 := by
  have e0 : (0 : Int32).toInt = 0 := by decide
  have e2 : (b - c).toInt = b.toInt - c.toInt := by rw [Int32.toInt_sub, Int.bmod_eq_of_le (by omega) (by omega)]
  split
  · rename_i h
    rw [Int32.le_iff_toInt_le] at h
    omega
  · rename_i h
    rw [Int32.le_iff_toInt_le] at h
    rw [Int32.toInt_sub, e0, e2, Int.bmod_eq_of_le (by omega) (by omega)]
    omega
theorem layv {s v : Int32} {k : Int} (hs : -(75 * k) ≤ s.toInt ∧ s.toInt ≤ 0) (hk : 0 ≤ k ∧ k ≤ 3) (hv : 0 ≤ v.toInt ∧ v.toInt ≤ 15) : -(75 * (k + 1)) ≤ ((s + 0) - 5 * v).toInt ∧ ((s + 0) - 5 * v).toInt ≤ 0 := by
  have e0 : (0 : Int32).toInt = 0 := by decide
  have e5 : (5 : Int32).toInt = 5 := by decide
  have a1 : (s + 0).toInt = s.toInt := by rw [Int32.toInt_add, e0, Int.bmod_eq_of_le (by omega) (by omega)]; omega
  have a2 : (5 * v).toInt = 5 * v.toInt := by rw [Int32.toInt_mul, e5, Int.bmod_eq_of_le (by omega) (by omega)]
  rw [Int32.toInt_sub, a1, a2, Int.bmod_eq_of_le (by omega) (by omega)]
  omega
theorem kn1 {a : Int32} (h : 0 ≤ a.toInt ∧ a.toInt ≤ 2) : (a + 1).toNatClampNeg = a.toNatClampNeg + 1 := by
  have := k1 h
  show (a + 1).toInt.toNat = a.toInt.toNat + 1
  omega
theorem lay_SI {d k b : Int32} {M : MT} (h : SI d M) (hk : 0 ≤ k.toInt ∧ k.toInt ≤ 2) (hb : 0 ≤ b.toInt ∧ b.toInt ≤ 15) : SI d (s1_X3_layDay M k b) := by
  obtain ⟨h1, h2, h3, h4, h5, h6, h7⟩ := h
  have hkn : k.toNatClampNeg < 4 := vlt (vk4 hk)
  have hki : (k.toNatClampNeg : Int) = k.toInt := by show ((k.toInt.toNat : Nat) : Int) = k.toInt; omega
  unfold s1_X3_layDay
  rw [kn1 hk]
  refine ⟨?_, fun j hj => ?_, fun j hj => ?_, fun j hj => ?_, fun j hj => ?_, ?_, ?_⟩
  · exact up_c (by decide) (up_c (by decide) (up_c (by decide) h1))
  · exact up_c (by decide) (up_c (by decide) (up_c (by decide) (h2 j hj)))
  · exact up_c (by decide) (up_c (by decide) (up_c (by decide) (h3 j hj)))
  · by_cases e : j = k.toNatClampNeg + 1
    · subst e
      rw [up_s]
      exact hb
    · rw [up_k e rfl, up_n (show (25 : Nat) ≠ 26 by decide), up_n (show (25 : Nat) ≠ 27 by decide)]
      exact h4 j hj
  · by_cases e : j = k.toNatClampNeg + 1
    · subst e
      rw [up_n (show (27 : Nat) ≠ 25 by decide), up_n (show (27 : Nat) ≠ 26 by decide), up_s]
      have := layv (h5 _ hkn) (by omega) (absv hb (h4 _ hkn))
      have e9 : ((k.toNatClampNeg + 1 : Nat) : Int) = (k.toNatClampNeg : Int) + 1 := by omega
      rw [e9]
      exact this
    · rw [up_n (show (27 : Nat) ≠ 25 by decide), up_n (show (27 : Nat) ≠ 26 by decide), up_k e rfl]
      exact h5 j hj
  · exact up_c (by decide) (up_c (by decide) (up_k (by omega) h6))
  · exact up_k (by omega) (up_c (by decide) (up_c (by decide) h7))
theorem lay_SZ {k : Int32} {M : MT} (h : SZ k.toNatClampNeg M) (hk : 0 ≤ k.toInt ∧ k.toInt ≤ 2) : SZ (k.toNatClampNeg + 1) (s1_X3_layDay M k 0) := by
  unfold s1_X3_layDay
  rw [kn1 hk]
  intro j hj
  have hz := h k.toNatClampNeg (Nat.le_refl _)
  by_cases e : j = k.toNatClampNeg + 1
  · subst e
    refine ⟨up_c (by decide) (up_c (by decide) ?_), up_s⟩
    rw [up_s, hz.1, hz.2]
    decide
  · exact ⟨up_c (by decide) (up_c (by decide) (up_k e (h j (by omega)).1)), up_k e (up_c (by decide) (up_c (by decide) (h j (by omega)).2))⟩
theorem lay_22 (M : MT) (k b : Int32) (i : Nat) : s1_X3_layDay M k b 22 i = M 22 i := by
  unfold s1_X3_layDay
  exact up_c (by decide) (up_c (by decide) (up_c (by decide) rfl))
theorem fcd {d : Int32} (h : 1 ≤ d.toInt ∧ d.toInt ≤ 3) : (d - 1).toInt = d.toInt - 1 := by
  have e1 : (1 : Int32).toInt = 1 := by decide
  rw [Int32.toInt_sub, e1, Int.bmod_eq_of_le (by omega) (by omega)]
theorem fcx {x : Int32} {n : Nat} (h : x.toInt = ((n + 1 : Nat) : Int)) (hn : n < 3) : (x + (-1)).toInt = (n : Int) := by
  have e1 : (-1 : Int32).toInt = -1 := by decide
  rw [Int32.toInt_add, e1, Int.bmod_eq_of_le (by omega) (by omega)]
  omega
theorem fc0 {x : Int32} (h : x.toInt = ((0 : Nat) : Int)) : x ≤ 0 := by
  have e0 : (0 : Int32).toInt = 0 := by decide
  rw [Int32.le_iff_toInt_le]; omega
theorem fcn {x : Int32} {n : Nat} (h : x.toInt = ((n + 1 : Nat) : Int)) : ¬ x ≤ 0 := by
  have e0 : (0 : Int32).toInt = 0 := by decide
  rw [Int32.le_iff_toInt_le]; omega
theorem fcz {x : Int32} (h : x.toInt = ((0 : Nat) : Int)) : x = 0 := Int32.toInt_inj.mp (by rw [h]; decide)
set_option maxHeartbeats 4000000 in
set_option maxRecDepth 100000 in
theorem c1_X3_firstChanged (l : Launch) (D : va_G) (cy : Nat → ClassId) (X : va_W) (ad : Nat → Nat) (M : MT) (a : Int32) (d : Int32) (h5 : M 22 5 = d) (hd : 1 ≤ d.toInt ∧ d.toInt ≤ 3) : CtP l yX3_firstChanged cX3_firstChanged 3 (some .int) (rK 1) D cy X ad ZB M [.ref (ad 22), .int a] (fun v M1 => ∃ r : Int32, v = some (.int r) ∧ M1 = M ∧ 0 ≤ r.toInt ∧ r.toInt < d.toInt ∧ (a = 0 → r = 0)) := by
  refine Ctr.of (by decide +kernel) (Nat.le_of_ble_eq_true rfl) ?_
  intro K f q hnm hl0 hD0 hy0 hX0
  show V K ad 0 0 ZB M 0 [(0, .ref (ad 22)), (1, .int a)] []
  have loop : ∀ (n : Nat) (x : Int32), x.toInt = (n : Int) → 0 ≤ x.toInt → x.toInt < d.toInt → V K ad 0 0 ZB M 7 [(2, .int x), (0, .ref (ad 22)), (1, .int a)] [] := by
    intro n
    induction n with
    | zero =>
      intro x hx h0 hl
      refine V_iload_n f dX3_firstChanged_7 0 rfl ?_
      refine V_if_le (tgt := 26) f dX3_firstChanged_8 (by decide) (fun _ => ?_) (fun h => absurd (fc0 hx) h)
      refine V_iload_n f dX3_firstChanged_26 0 rfl ?_
      exact V_iret f q dX3_firstChanged_27 rfl (Nat.zero_le _) (Nat.zero_le _) ⟨rfl, rfl, x, rfl, rfl, h0, hl, fun _ => fcz hx⟩
    | succ n ih =>
      intro x hx h0 hl
      refine V_iload_n f dX3_firstChanged_7 0 rfl ?_
      refine V_if_le (tgt := 26) f dX3_firstChanged_8 (by decide) (fun h => absurd h (fcn hx)) (fun _ => ?_)
      refine V_aload_n f dX3_firstChanged_11 1 rfl ?_
      refine V_iload_n f dX3_firstChanged_12 2 rfl ?_
      refine V_iload_n f dX3_firstChanged_13 0 rfl ?_
      refine V_cVi (As := [.int a, .int x]) (rest := []) f dX3_firstChanged_14 lk_X3_49 ml_X3_49 ins_X3_bayIn sel_X3_bayIn zb_22 (by decide) rfl (c_X3_bayIn (kl K) (kD K) (ky K) (kX K) ad M a x) rfl (Nat.le_of_ble_eq_true rfl) rfl ⟨by decide, by decide⟩ ⟨Nat.zero_le _, Nat.zero_le _⟩ rfl rfl ?_
      refine V_if_ne (tgt := 26) f dX3_firstChanged_17 (by decide) (fun c1 => ?_) (fun c1 => ?_)
      · refine V_iload_n f dX3_firstChanged_26 0 rfl ?_
        exact V_iret f q dX3_firstChanged_27 rfl (Nat.zero_le _) (Nat.zero_le _) ⟨rfl, rfl, x, rfl, rfl, h0, hl, fun ea => absurd (by rw [ea]; exact bayIn_0 h5 hd ⟨h0, hl⟩) c1⟩
      · refine V_iinc (v := x + (-1)) f dX3_firstChanged_20 0 rfl rfl (by decide) rfl ?_
        refine V_goto (tgt := 7) f dX3_firstChanged_23 (by decide) ?_
        exact ih (x + (-1)) (fcx hx (by omega)) (by have := fcx hx (by omega); omega) (by have := fcx hx (by omega); omega)
  refine V_aload_n f dX3_firstChanged_0 0 rfl ?_
  refine V_getE (x := d) f dX3_firstChanged_1 lf_3_27 rfl zb_22 h5 ?_
  refine V_iconst (v := 1) f dX3_firstChanged_4 (by decide) ?_
  refine V_isub f dX3_firstChanged_5 ?_
  refine V_istore_n f dX3_firstChanged_6 rfl (by decide) rfl ?_
  exact loop (d - 1).toInt.toNat (d - 1) (by have := fcd hd; omega) (by have := fcd hd; omega) (by have := fcd hd; omega)

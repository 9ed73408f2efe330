/-- what day does to what the parts ask: its answer and TODAY -/
def DP (M : MT) (a b e : Int32) (v : Option Value) (M1 : MT) : Prop := InvB M1 ∧ M1 0 8 = M 0 8 ∧ M1 0 11 = M 0 11 ∧ (M1 0 9 = M 0 9 ∧ M1 0 14 = M 0 14 ∧ ∀ i, dP i → M1 i = M i) ∧ ((v = some (.int (-1)) ∧ M1 0 10 = M 0 10 ∧ ((s_X8_within M a 0 10) = 0 ∨ (s_X8_within M b 0 10) = 0 ∨ (s_X8_within M e 0 50) = 0 ∨ ¬ (M 0 10) < 1000)) ∨ (v = some (.int ((M 0 10) + 1)) ∧ M1 0 10 = (M 0 10) + 1 ∧ ¬ (s_X8_within M a 0 10) = 0 ∧ ¬ (s_X8_within M b 0 10) = 0 ∧ ¬ (s_X8_within M e 0 50) = 0 ∧ (M 0 10) < 1000))
theorem day_a {M M1 M2 : MT} {a b e : Int32} (h1 : Kp dP M M1) (h2 : Kp dP M1 M2) (w1 : ¬ (s_X8_within M a 0 10) = 0) (w2 : ¬ (s_X8_within M b 0 10) = 0) (w3 : ¬ (s_X8_within M e 0 50) = 0) (w4 : (M 0 10) < 1000) : DP M a b e (some (.int ((M2 0 10) + 1))) (up2 M2 0 10 ((M2 0 10) + 1)) := by
  have e8 : M2 0 8 = M 0 8 := h2.2.1.trans h1.2.1
  have e10 : M2 0 10 = M 0 10 := h2.2.2.1.trans h1.2.2.1
  have e11 : M2 0 11 = M 0 11 := h2.2.2.2.1.trans h1.2.2.2.1
  have t := Kp_trans h1 h2
  refine ⟨InvB_0 h2.1 (by decide) _, up_k (by decide) e8, up_k (by decide) e11, ⟨up_k (by decide) t.2.2.2.2.1, up_k (by decide) t.2.2.2.2.2.1, fun i hi => (upo (by unfold dP at hi; omega)).trans (t.2.2.2.2.2.2 i hi)⟩, Or.inr ⟨by rw [e10], ?_, w1, w2, w3, w4⟩⟩
  rw [up_s, e10]
theorem day_b {M M1 M2 M3 : MT} {a b e : Int32} (h1 : Kp dP M M1) (h2 : Kp dP M1 M2) (h3 : Kp dP (up2 M2 0 10 ((M2 0 10) + 1)) M3) (w1 : ¬ (s_X8_within M a 0 10) = 0) (w2 : ¬ (s_X8_within M b 0 10) = 0) (w3 : ¬ (s_X8_within M e 0 50) = 0) (w4 : (M 0 10) < 1000) : DP M a b e (some (.int (M3 0 10))) M3 := by
  obtain ⟨d1, d2, d3, ⟨d5, d6, d7⟩, d4⟩ := day_a (a := a) (b := b) (e := e) h1 h2 w1 w2 w3 w4
  have e10 : M2 0 10 = M 0 10 := h2.2.2.1.trans h1.2.2.1
  have t : M3 0 10 = M 0 10 + 1 := by rw [h3.2.2.1, up_s, e10]
  exact ⟨h3.1, h3.2.1.trans d2, h3.2.2.2.1.trans d3, ⟨h3.2.2.2.2.1.trans d5, h3.2.2.2.2.2.1.trans d6, fun i hi => (h3.2.2.2.2.2.2 i hi).trans (d7 i hi)⟩, Or.inr ⟨by rw [t], t, w1, w2, w3, w4⟩⟩
theorem InvB_t {M1 M2 : MT} (h2 : Kp dP M1 M2) (v : Int32) : InvB (up2 M2 0 10 v) := InvB_0 h2.1 (by decide) _
set_option maxHeartbeats 4000000 in
set_option maxRecDepth 100000 in
theorem c3_X8_day (l : Launch) (D : va_G) (cy : Nat → ClassId) (X : va_W) (ad : Nat → Nat) (M : MT) (a : Int32) (b : Int32) (e : Int32) (hI : InvB M) : CtP l yX8_day cX8_day 5 (some .int) (rK 5) D cy X ad ZB M [.ref (ad 0), .int a, .int b, .int e] (DP M a b e) := by
  refine Ctr.of (by decide +kernel) (Nat.le_of_ble_eq_true rfl) ?_
  intro K f q hnm hl0 hD0 hy0 hX0
  show V K ad 0 0 ZB M 0 [(0, .ref (ad 0)), (1, .int a), (2, .int b), (3, .int e)] []
  have loop2 : ¬ (s_X8_within M a 0 10) = 0 → ¬ (s_X8_within M b 0 10) = 0 → ¬ (s_X8_within M e 0 50) = 0 → (M 0 10) < 1000 → ∀ (n : Nat) (x : Int32) (M1 : MT), 0 ≤ x.toInt → x.toInt + (n : Nat) = 1000 → Kp dP M M1 → V K ad 0 0 ZB M1 74 [(4, .int x), (0, .ref (ad 0)), (1, .int a), (2, .int b), (3, .int e)] [] := by
    intro w1 w2 w3 w4 n
    induction n using Nat.strongRecOn with
    | ind n ih =>
      intro x M1 x0 hx hK1
      refine V_iload f dX8_day_74 0 rfl ?_
      refine V_aload_n f dX8_day_76 1 rfl ?_
      refine V_getE (x := M1 0 8) f dX8_day_77 lf_8_62 rfl zb_0 rfl ?_
      refine V_icmp_ge (tgt := 113) f dX8_day_80 (by decide) (fun c5 => ?_) (fun c5 => ?_)
      · refine V_aload_n f dX8_day_113 1 rfl ?_
        refine V_getR f dX8_day_114 lf_8_35 rfl zb_0 rfl ?_
        refine V_aload_n f dX8_day_117 1 rfl ?_
        refine V_getR f dX8_day_118 lf_8_17 rfl zb_0 rfl ?_
        refine V_aload_n f dX8_day_121 1 rfl ?_
        refine V_getE (x := M1 0 8) f dX8_day_122 lf_8_62 rfl zb_0 rfl ?_
        refine V_cVp (As := [.ref (ad 2), .int (M1 0 8)]) (rest := []) f dX8_day_125 lk_X8_179 ml_X8_179 ins_X4_takeWanted sel_X4_takeWanted zb_14 (by decide) rfl (c3_X4_takeWanted _ _ _ _ ad M1 (M1 0 8) hK1.1) rfl (Nat.le_of_ble_eq_true rfl) rfl ⟨by decide, by decide⟩ ⟨Nat.zero_le _, Nat.zero_le _⟩ rfl rfl (fun v6 Mx6 hp6 => ?_)
        obtain ⟨rfl, hK6⟩ := hp6
        show V K ad 0 0 ZB Mx6 128 [(4, .int x), (0, .ref (ad 0)), (1, .int a), (2, .int b), (3, .int e)] []
        refine V_aload_n f dX8_day_128 1 rfl ?_
        refine V_dup f dX8_day_129 rfl ?_
        refine V_getE (x := Mx6 0 10) f dX8_day_130 lf_8_69 rfl zb_0 rfl ?_
        refine V_iconst (v := 1) f dX8_day_133 (by decide) ?_
        refine V_iadd f dX8_day_134 ?_
        refine V_putI f dX8_day_135 lf_8_69 lp_8_10 rfl rfl rfl rfl zb_0 ?_
        refine V_aload_n f dX8_day_138 1 rfl ?_
        refine V_getE (x := (Mx6 0 10) + 1) f dX8_day_139 lf_8_69 rfl zb_0 up_s ?_
        refine V_bipush (v := 7) f dX8_day_142 (by decide) ?_
        refine V_irem f dX8_day_144 (by decide) ?_
        refine V_if_ne (tgt := 160) f dX8_day_145 (by decide) (fun c7 => ?_) (fun c7 => ?_)
        · refine V_aload_n f dX8_day_160 1 rfl ?_
          refine V_getE (x := (Mx6 0 10) + 1) f dX8_day_161 lf_8_69 rfl zb_0 up_s ?_
          exact V_iret f q dX8_day_164 rfl (Nat.zero_le _) (Nat.zero_le _) ⟨rfl, rfl, day_a hK1 hK6 w1 w2 w3 w4⟩
        · refine V_aload_n f dX8_day_148 1 rfl ?_
          refine V_aload_n f dX8_day_149 1 rfl ?_
          refine V_aload_n f dX8_day_150 1 rfl ?_
          refine V_getE (x := (Mx6 0 10) + 1) f dX8_day_151 lf_8_69 rfl zb_0 up_s ?_
          refine V_cVp (As := [.int ((Mx6 0 10) + 1)]) (rest := [.ref (ad 0)]) f dX8_day_154 lk_X8_101 ml_X8_101 ins_X8_lawOn sel_X8_lawOn zb_0 (by decide) rfl (c3_X8_lawOn _ _ _ _ ad (up2 Mx6 0 10 ((Mx6 0 10) + 1)) ((Mx6 0 10) + 1) (InvB_t hK6 _)) rfl (Nat.le_of_ble_eq_true rfl) rfl ⟨by decide, by decide⟩ ⟨Nat.zero_le _, Nat.zero_le _⟩ rfl rfl (fun v8 Mx8 hp8 => ?_)
          obtain ⟨j8, rfl, hj8, e8⟩ := hp8
          rw [e8]
          show V K ad 0 0 ZB (up2 Mx6 0 10 ((Mx6 0 10) + 1)) 157 [(4, .int x), (0, .ref (ad 0)), (1, .int a), (2, .int b), (3, .int e)] [.ref (ad j8), .ref (ad 0)]
          refine V_cVp (As := [.ref (ad j8)]) (rest := []) f dX8_day_157 lk_X8_183 ml_X8_183 ins_X8_applyLaw sel_X8_applyLaw zb_0 (by decide) rfl (c3_X8_applyLaw _ _ _ _ ad (up2 Mx6 0 10 ((Mx6 0 10) + 1)) j8 hj8 (InvB_t hK6 _)) rfl (Nat.le_of_ble_eq_true rfl) rfl ⟨by decide, by decide⟩ ⟨Nat.zero_le _, Nat.zero_le _⟩ rfl rfl (fun v9 Mx9 hp9 => ?_)
          obtain ⟨rfl, hK9⟩ := hp9
          show V K ad 0 0 ZB Mx9 160 [(4, .int x), (0, .ref (ad 0)), (1, .int a), (2, .int b), (3, .int e)] []
          refine V_aload_n f dX8_day_160 1 rfl ?_
          refine V_getE (x := Mx9 0 10) f dX8_day_161 lf_8_69 rfl zb_0 rfl ?_
          exact V_iret f q dX8_day_164 rfl (Nat.zero_le _) (Nat.zero_le _) ⟨rfl, rfl, day_b hK1 hK6 hK9 w1 w2 w3 w4⟩
      · refine V_aload_n f dX8_day_83 1 rfl ?_
        refine V_dup f dX8_day_84 rfl ?_
        refine V_getE (x := M1 0 13) f dX8_day_85 lf_8_78 rfl zb_0 rfl ?_
        refine V_aload_n f dX8_day_88 1 rfl ?_
        refine V_getR f dX8_day_89 lf_8_17 rfl zb_0 rfl ?_
        refine V_iload f dX8_day_92 0 rfl ?_
        refine V_aald (t0 := 5) f dX8_day_94 zb_2 (by decide) rfl (vinN x0 c5 hK1.1.1.2) (eStk (vlt (vinN x0 c5 hK1.1.1.2))) ?_
        refine V_iload_n f dX8_day_95 4 rfl ?_
        refine V_aload_n f dX8_day_96 1 rfl ?_
        refine V_getE (x := M1 0 10) f dX8_day_97 lf_8_69 rfl zb_0 rfl ?_
        refine V_cVi (As := [.int e, .int (M1 0 10)]) (rest := [.int (M1 0 13), .ref (ad 0)]) f dX8_day_100 lk_X8_175 ml_X8_175 ins_X5_glow sel_X5_glow (zStk (vlt (vinN x0 c5 hK1.1.1.2))) (by decide) rfl (c_X5_glow (kl K) (kD K) (ky K) (kX K) ad M1 (44 + Int32.toNatClampNeg x) e (M1 0 10) (zStk (vlt (vinN x0 c5 hK1.1.1.2)))) rfl (Nat.le_of_ble_eq_true rfl) rfl ⟨by decide, by decide⟩ ⟨Nat.zero_le _, Nat.zero_le _⟩ rfl rfl ?_
        refine V_iadd f dX8_day_103 ?_
        refine V_putI f dX8_day_104 lf_8_78 lp_8_13 rfl rfl rfl rfl zb_0 ?_
        refine V_iinc (v := x + 1) f dX8_day_107 0 rfl rfl (by decide) rfl ?_
        refine V_goto (tgt := 74) f dX8_day_110 (by decide) ?_
        obtain ⟨k9, e9, y0, y1⟩ := lo_inc x0 hx c5 (by have := hK1.1.1.2; omega)
        exact ih k9 (by omega) (x + 1) _ y0 y1 (Kp_0 (Kp_glow hK1 _ _ _ (nr44 (vlt (vinN x0 c5 hK1.1.1.2)))) (by decide) _)
  have loop1 : ¬ (s_X8_within M a 0 10) = 0 → ¬ (s_X8_within M b 0 10) = 0 → ¬ (s_X8_within M e 0 50) = 0 → (M 0 10) < 1000 → ∀ (q c : Nat) (x : Int32) (M1 : MT), c + q = 16 → x.toInt = c → Kp dP M M1 → V K ad 0 0 ZB M1 45 [(4, .int x), (0, .ref (ad 0)), (1, .int a), (2, .int b), (3, .int e)] [] := by
    intro w1 w2 w3 w4 q9
    induction q9 with
    | zero =>
      intro c x M1 hb hx hK1
      obtain rfl : c = 16 := by omega
      refine V_iload f dX8_day_45 0 rfl ?_
      refine V_bipush (v := 16) f dX8_day_47 (by decide) ?_
      refine V_icmp_ge (tgt := 71) f dX8_day_49 (by decide) (fun _ => ?_) (fun h => absurd (lq_ge hx (y := 16) (n := 16) (by decide) rfl) h)
      refine V_iconst (v := 0) f dX8_day_71 (by decide) ?_
      refine V_istore f dX8_day_72 (by decide) rfl ?_
      exact loop2 w1 w2 w3 w4 1000 0 M1 (by decide) (by decide) hK1
    | succ q9 ih =>
      intro c x M1 hb hx hK1
      obtain ⟨hbl, hin, hnat, hx1⟩ := lq_lt hx hb (by decide)
      refine V_iload f dX8_day_45 0 rfl ?_
      refine V_bipush (v := 16) f dX8_day_47 (by decide) ?_
      refine V_icmp_ge (tgt := 71) f dX8_day_49 (by decide) (fun h => absurd h (lq_nge hx (y := 16) (by decide) hb)) (fun _ => ?_)
      refine V_aload_n f dX8_day_52 1 rfl ?_
      refine V_getR f dX8_day_53 lf_8_11 rfl zb_0 rfl ?_
      refine V_iload f dX8_day_56 0 rfl ?_
      refine V_aald (t0 := 3) f dX8_day_58 zb_1 (by decide) rfl hin (eBay (vlt hin)) ?_
      refine V_iload_n f dX8_day_59 2 rfl ?_
      refine V_iload_n f dX8_day_60 3 rfl ?_
      refine V_iload_n f dX8_day_61 4 rfl ?_
      refine V_cVv (As := [.int a, .int b, .int e]) (rest := []) f dX8_day_62 lk_X8_171 ml_X8_171 ins_X0_weather sel_X0_weather (zBay (vlt hin)) (by decide) rfl (c_X0_weather (kl K) (kD K) (ky K) (kX K) ad M1 (28 + Int32.toNatClampNeg x) a b e (zBay (vlt hin))) rfl (Nat.le_of_ble_eq_true rfl) rfl ⟨by decide, by decide⟩ ⟨Nat.zero_le _, Nat.zero_le _⟩ rfl rfl ?_
      refine V_iinc (v := x + 1) f dX8_day_65 0 rfl rfl (by decide) rfl ?_
      refine V_goto (tgt := 45) f dX8_day_68 (by decide) ?_
      exact ih (c + 1) (x + 1) _ (by omega) hx1 (Kp_weather hK1 _ _ _ _ (nr28 (vlt hin)))
  refine V_iload_n f dX8_day_0 1 rfl ?_
  refine V_iconst (v := 0) f dX8_day_1 (by decide) ?_
  refine V_bipush (v := 10) f dX8_day_2 (by decide) ?_
  refine V_cSi (As := [.int a, .int 0, .int 10]) (rest := []) f dX8_day_4 lk_X8_90 ml_X8_90 sta_X8_within (c_X8_within (kl K) (kD K) (ky K) (kX K) ad M a 0 10) rfl (Nat.le_of_ble_eq_true rfl) rfl ⟨by decide, by decide⟩ ⟨Nat.zero_le _, Nat.zero_le _⟩ rfl rfl ?_
  refine V_if_eq (tgt := 40) f dX8_day_7 (by decide) (fun c1 => ?_) (fun c1 => ?_)
  · refine V_iconst (v := (-1)) f dX8_day_40 (by decide) ?_
    exact V_iret f q dX8_day_41 rfl (Nat.zero_le _) (Nat.zero_le _) ⟨rfl, rfl, hI, rfl, rfl, ⟨rfl, rfl, fun _ _ => rfl⟩, Or.inl ⟨rfl, rfl, Or.inl c1⟩⟩
  · refine V_iload_n f dX8_day_10 2 rfl ?_
    refine V_iconst (v := 0) f dX8_day_11 (by decide) ?_
    refine V_bipush (v := 10) f dX8_day_12 (by decide) ?_
    refine V_cSi (As := [.int b, .int 0, .int 10]) (rest := []) f dX8_day_14 lk_X8_90 ml_X8_90 sta_X8_within (c_X8_within (kl K) (kD K) (ky K) (kX K) ad M b 0 10) rfl (Nat.le_of_ble_eq_true rfl) rfl ⟨by decide, by decide⟩ ⟨Nat.zero_le _, Nat.zero_le _⟩ rfl rfl ?_
    refine V_if_eq (tgt := 40) f dX8_day_17 (by decide) (fun c2 => ?_) (fun c2 => ?_)
    · refine V_iconst (v := (-1)) f dX8_day_40 (by decide) ?_
      exact V_iret f q dX8_day_41 rfl (Nat.zero_le _) (Nat.zero_le _) ⟨rfl, rfl, hI, rfl, rfl, ⟨rfl, rfl, fun _ _ => rfl⟩, Or.inl ⟨rfl, rfl, Or.inr (Or.inl c2)⟩⟩
    · refine V_iload_n f dX8_day_20 3 rfl ?_
      refine V_iconst (v := 0) f dX8_day_21 (by decide) ?_
      refine V_bipush (v := 50) f dX8_day_22 (by decide) ?_
      refine V_cSi (As := [.int e, .int 0, .int 50]) (rest := []) f dX8_day_24 lk_X8_90 ml_X8_90 sta_X8_within (c_X8_within (kl K) (kD K) (ky K) (kX K) ad M e 0 50) rfl (Nat.le_of_ble_eq_true rfl) rfl ⟨by decide, by decide⟩ ⟨Nat.zero_le _, Nat.zero_le _⟩ rfl rfl ?_
      refine V_if_eq (tgt := 40) f dX8_day_27 (by decide) (fun c3 => ?_) (fun c3 => ?_)
      · refine V_iconst (v := (-1)) f dX8_day_40 (by decide) ?_
        exact V_iret f q dX8_day_41 rfl (Nat.zero_le _) (Nat.zero_le _) ⟨rfl, rfl, hI, rfl, rfl, ⟨rfl, rfl, fun _ _ => rfl⟩, Or.inl ⟨rfl, rfl, Or.inr (Or.inr (Or.inl c3))⟩⟩
      · refine V_aload_n f dX8_day_30 0 rfl ?_
        refine V_getE (x := M 0 10) f dX8_day_31 lf_8_69 rfl zb_0 rfl ?_
        refine V_sipush (v := 1000) f dX8_day_34 (by decide) ?_
        refine V_icmp_lt (tgt := 42) f dX8_day_37 (by decide) (fun c4 => ?_) (fun c4 => ?_)
        · refine V_iconst (v := 0) f dX8_day_42 (by decide) ?_
          refine V_istore f dX8_day_43 (by decide) rfl ?_
          exact loop1 c1 c2 c3 c4 16 0 0 M rfl (by decide) (Kp_refl hI)
        · refine V_iconst (v := (-1)) f dX8_day_40 (by decide) ?_
          exact V_iret f q dX8_day_41 rfl (Nat.zero_le _) (Nat.zero_le _) ⟨rfl, rfl, hI, rfl, rfl, ⟨rfl, rfl, fun _ _ => rfl⟩, Or.inl ⟨rfl, rfl, Or.inr (Or.inr (Or.inr c4))⟩⟩

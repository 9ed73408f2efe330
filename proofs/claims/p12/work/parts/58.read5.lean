theorem Kp_trans {P : Nat → Prop} {M0 M M1 : MT} (h : Kp P M0 M) (g : Kp P M M1) : Kp P M0 M1 := ⟨g.1, g.2.1.trans h.2.1, g.2.2.1.trans h.2.2.1, g.2.2.2.1.trans h.2.2.2.1, g.2.2.2.2.1.trans h.2.2.2.2.1, g.2.2.2.2.2.1.trans h.2.2.2.2.2.1, fun i hi => (g.2.2.2.2.2.2 i hi).trans (h.2.2.2.2.2.2 i hi)⟩
theorem b_take (M : MT) (a : Int32) : (s_X2_take M a).1 = 0 ∨ (s_X2_take M a).1 = 1 := by
  unfold s_X2_take
  by_cases q : (s_X7_codeAt M (M 17 1)) = a
  · rw [if_pos q]; exact Or.inr rfl
  · rw [if_neg q]; exact Or.inl rfl
set_option maxHeartbeats 4000000 in
set_option maxRecDepth 100000 in
theorem c3_X2_readRule (l : Launch) (D : va_G) (cy : Nat → ClassId) (X : va_W) (ad : Nat → Nat) (M : MT) (i : Nat) (hz : LawZ i) (hI : InvB M) : CtP l yX2_readRule cX2_readRule 4 (some .boolean) (rK 3) D cy X ad ZB M [.ref (ad 17), .ref (ad i)] (fun v M1 => (∃ r : Int32, v = some (.int r) ∧ (r = 0 ∨ r = 1)) ∧ Kp rP M M1) := by
  refine Ctr.of (by decide +kernel) (Nat.le_of_ble_eq_true rfl) ?_
  intro K f q hnm hl0 hD0 hy0 hX0
  show V K ad 0 0 ZB M 0 [(0, .ref (ad 17)), (1, .ref (ad i))] []
  refine V_iconst (v := 0) f dX2_readRule_0 (by decide) ?_
  refine V_istore_n f dX2_readRule_1 rfl (by decide) rfl ?_
  refine V_iload_n f dX2_readRule_2 0 rfl ?_
  refine V_iconst (v := 3) f dX2_readRule_3 (by decide) ?_
  refine V_icmp_ge (tgt := 16) f dX2_readRule_4 (by decide) (fun h => absurd h (by decide)) (fun _ => ?_)
  refine V_aload_n f dX2_readRule_7 1 rfl ?_
  refine V_aload_n f dX2_readRule_8 2 rfl ?_
  refine V_iload_n f dX2_readRule_9 0 rfl ?_
  refine V_cVp (As := [.ref (ad i), .int 0]) (rest := []) f dX2_readRule_10 lk_X2_65 ml_X2_65 ins_X2_readTest sel_X2_readTest zb_17 (by decide) rfl (c3_X2_readTest _ _ _ _ ad M i 0 hz ((Kp_refl (P := rP) hI).1)) rfl (Nat.le_of_ble_eq_true rfl) rfl ⟨by decide, by decide⟩ ⟨Nat.zero_le _, Nat.zero_le _⟩ rfl rfl (fun v1 Mx1 hp1 => ?_)
  obtain ⟨⟨r1, rfl, hr1⟩, hK1⟩ := hp1
  show V K ad 0 0 ZB Mx1 13 [(2, .int 0), (0, .ref (ad 17)), (1, .ref (ad i))] [.int r1]
  refine V_if_ne (tgt := 18) f dX2_readRule_13 (by decide) (fun c2 => ?_) (fun c2 => ?_)
  · refine V_iinc (v := 1) f dX2_readRule_18 0 rfl (by decide) (by decide) rfl ?_
    refine V_aload_n f dX2_readRule_21 1 rfl ?_
    refine V_bipush (v := 7) f dX2_readRule_22 (by decide) ?_
    refine V_cVi (As := [.int 7]) (rest := []) f dX2_readRule_24 lk_X2_41 ml_X2_41 ins_X2_take sel_X2_take zb_17 (by decide) rfl (c_X2_take (kl K) (kD K) (ky K) (kX K) ad Mx1 7 ((Kp_trans (Kp_refl (P := rP) hI) hK1).1.2.2.2.1.2)) rfl (Nat.le_of_ble_eq_true rfl) rfl ⟨by decide, by decide⟩ ⟨Nat.zero_le _, Nat.zero_le _⟩ rfl rfl ?_
    refine V_if_ne (tgt := 2) f dX2_readRule_27 (by decide) (fun c3 => ?_) (fun c3 => ?_)
    · refine V_iload_n f dX2_readRule_2 0 rfl ?_
      refine V_iconst (v := 3) f dX2_readRule_3 (by decide) ?_
      refine V_icmp_ge (tgt := 16) f dX2_readRule_4 (by decide) (fun h => absurd h (by decide)) (fun _ => ?_)
      refine V_aload_n f dX2_readRule_7 1 rfl ?_
      refine V_aload_n f dX2_readRule_8 2 rfl ?_
      refine V_iload_n f dX2_readRule_9 0 rfl ?_
      refine V_cVp (As := [.ref (ad i), .int 1]) (rest := []) f dX2_readRule_10 lk_X2_65 ml_X2_65 ins_X2_readTest sel_X2_readTest zb_17 (by decide) rfl (c3_X2_readTest _ _ _ _ ad ((s_X2_take Mx1 7).2) i 1 hz ((Kp_take (Kp_trans (Kp_refl (P := rP) hI) hK1)).1)) rfl (Nat.le_of_ble_eq_true rfl) rfl ⟨by decide, by decide⟩ ⟨Nat.zero_le _, Nat.zero_le _⟩ rfl rfl (fun v4 Mx4 hp4 => ?_)
      obtain ⟨⟨r4, rfl, hr4⟩, hK4⟩ := hp4
      show V K ad 0 0 ZB Mx4 13 [(2, .int 1), (0, .ref (ad 17)), (1, .ref (ad i))] [.int r4]
      refine V_if_ne (tgt := 18) f dX2_readRule_13 (by decide) (fun c5 => ?_) (fun c5 => ?_)
      · refine V_iinc (v := 2) f dX2_readRule_18 0 rfl (by decide) (by decide) rfl ?_
        refine V_aload_n f dX2_readRule_21 1 rfl ?_
        refine V_bipush (v := 7) f dX2_readRule_22 (by decide) ?_
        refine V_cVi (As := [.int 7]) (rest := []) f dX2_readRule_24 lk_X2_41 ml_X2_41 ins_X2_take sel_X2_take zb_17 (by decide) rfl (c_X2_take (kl K) (kD K) (ky K) (kX K) ad Mx4 7 ((Kp_trans (Kp_take (Kp_trans (Kp_refl (P := rP) hI) hK1)) hK4).1.2.2.2.1.2)) rfl (Nat.le_of_ble_eq_true rfl) rfl ⟨by decide, by decide⟩ ⟨Nat.zero_le _, Nat.zero_le _⟩ rfl rfl ?_
        refine V_if_ne (tgt := 2) f dX2_readRule_27 (by decide) (fun c6 => ?_) (fun c6 => ?_)
        · refine V_iload_n f dX2_readRule_2 0 rfl ?_
          refine V_iconst (v := 3) f dX2_readRule_3 (by decide) ?_
          refine V_icmp_ge (tgt := 16) f dX2_readRule_4 (by decide) (fun h => absurd h (by decide)) (fun _ => ?_)
          refine V_aload_n f dX2_readRule_7 1 rfl ?_
          refine V_aload_n f dX2_readRule_8 2 rfl ?_
          refine V_iload_n f dX2_readRule_9 0 rfl ?_
          refine V_cVp (As := [.ref (ad i), .int 2]) (rest := []) f dX2_readRule_10 lk_X2_65 ml_X2_65 ins_X2_readTest sel_X2_readTest zb_17 (by decide) rfl (c3_X2_readTest _ _ _ _ ad ((s_X2_take Mx4 7).2) i 2 hz ((Kp_take (Kp_trans (Kp_take (Kp_trans (Kp_refl (P := rP) hI) hK1)) hK4)).1)) rfl (Nat.le_of_ble_eq_true rfl) rfl ⟨by decide, by decide⟩ ⟨Nat.zero_le _, Nat.zero_le _⟩ rfl rfl (fun v7 Mx7 hp7 => ?_)
          obtain ⟨⟨r7, rfl, hr7⟩, hK7⟩ := hp7
          show V K ad 0 0 ZB Mx7 13 [(2, .int 2), (0, .ref (ad 17)), (1, .ref (ad i))] [.int r7]
          refine V_if_ne (tgt := 18) f dX2_readRule_13 (by decide) (fun c8 => ?_) (fun c8 => ?_)
          · refine V_iinc (v := 3) f dX2_readRule_18 0 rfl (by decide) (by decide) rfl ?_
            refine V_aload_n f dX2_readRule_21 1 rfl ?_
            refine V_bipush (v := 7) f dX2_readRule_22 (by decide) ?_
            refine V_cVi (As := [.int 7]) (rest := []) f dX2_readRule_24 lk_X2_41 ml_X2_41 ins_X2_take sel_X2_take zb_17 (by decide) rfl (c_X2_take (kl K) (kD K) (ky K) (kX K) ad Mx7 7 ((Kp_trans (Kp_take (Kp_trans (Kp_take (Kp_trans (Kp_refl (P := rP) hI) hK1)) hK4)) hK7).1.2.2.2.1.2)) rfl (Nat.le_of_ble_eq_true rfl) rfl ⟨by decide, by decide⟩ ⟨Nat.zero_le _, Nat.zero_le _⟩ rfl rfl ?_
            refine V_if_ne (tgt := 2) f dX2_readRule_27 (by decide) (fun c9 => ?_) (fun c9 => ?_)
            · refine V_iload_n f dX2_readRule_2 0 rfl ?_
              refine V_iconst (v := 3) f dX2_readRule_3 (by decide) ?_
              refine V_icmp_ge (tgt := 16) f dX2_readRule_4 (by decide) (fun _ => ?_) (fun h => absurd (by decide) h)
              refine V_iconst (v := 0) f dX2_readRule_16 (by decide) ?_
              exact V_iret f q dX2_readRule_17 rfl (Nat.zero_le _) (Nat.zero_le _) ⟨rfl, rfl, ⟨0, rfl, Or.inl rfl⟩, (Kp_take (Kp_trans (Kp_take (Kp_trans (Kp_take (Kp_trans (Kp_refl (P := rP) hI) hK1)) hK4)) hK7))⟩
            · refine V_aload_n f dX2_readRule_30 1 rfl ?_
              refine V_bipush (v := 8) f dX2_readRule_31 (by decide) ?_
              refine V_cVi (As := [.int 8]) (rest := []) f dX2_readRule_33 lk_X2_41 ml_X2_41 ins_X2_take sel_X2_take zb_17 (by decide) rfl (c_X2_take (kl K) (kD K) (ky K) (kX K) ad ((s_X2_take Mx7 7).2) 8 ((Kp_take (Kp_trans (Kp_take (Kp_trans (Kp_take (Kp_trans (Kp_refl (P := rP) hI) hK1)) hK4)) hK7)).1.2.2.2.1.2)) rfl (Nat.le_of_ble_eq_true rfl) rfl ⟨by decide, by decide⟩ ⟨Nat.zero_le _, Nat.zero_le _⟩ rfl rfl ?_
              refine V_if_ne (tgt := 41) f dX2_readRule_36 (by decide) (fun c10 => ?_) (fun c10 => ?_)
              · refine V_aload_n f dX2_readRule_41 1 rfl ?_
                refine V_bipush (v := 9) f dX2_readRule_42 (by decide) ?_
                refine V_bipush (v := 10) f dX2_readRule_44 (by decide) ?_
                refine V_bipush (v := 11) f dX2_readRule_46 (by decide) ?_
                refine V_cVi (As := [.int 9, .int 10, .int 11]) (rest := []) f dX2_readRule_48 lk_X2_69 ml_X2_69 ins_X2_takeOneOf sel_X2_takeOneOf zb_17 (by decide) rfl (c_X2_takeOneOf (kl K) (kD K) (ky K) (kX K) ad ((s_X2_take ((s_X2_take Mx7 7).2) 8).2) 9 10 11 ((Kp_take (Kp_take (Kp_trans (Kp_take (Kp_trans (Kp_take (Kp_trans (Kp_refl (P := rP) hI) hK1)) hK4)) hK7))).1.2.2.2.1.2)) rfl (Nat.le_of_ble_eq_true rfl) rfl ⟨by decide, by decide⟩ ⟨Nat.zero_le _, Nat.zero_le _⟩ rfl rfl ?_
                refine V_istore_n f dX2_readRule_51 rfl (by decide) rfl ?_
                refine V_iload_n f dX2_readRule_52 0 rfl ?_
                refine V_iconst (v := (-1)) f dX2_readRule_53 (by decide) ?_
                refine V_icmp_eq (tgt := 66) f dX2_readRule_54 (by decide) (fun c11 => ?_) (fun c11 => ?_)
                · refine V_iconst (v := 0) f dX2_readRule_66 (by decide) ?_
                  exact V_iret f q dX2_readRule_67 rfl (Nat.zero_le _) (Nat.zero_le _) ⟨rfl, rfl, ⟨0, rfl, Or.inl rfl⟩, (Kp_takeOneOf (Kp_take (Kp_take (Kp_trans (Kp_take (Kp_trans (Kp_take (Kp_trans (Kp_refl (P := rP) hI) hK1)) hK4)) hK7))))⟩
                · refine V_aload_n f dX2_readRule_57 2 rfl ?_
                  refine V_bipush (v := 59) f dX2_readRule_58 (by decide) ?_
                  refine V_cVi (As := [.int 59]) (rest := []) f dX2_readRule_60 lk_X2_41 ml_X2_41 ins_X2_take sel_X2_take zb_17 (by decide) rfl (c_X2_take (kl K) (kD K) (ky K) (kX K) ad ((s_X2_takeOneOf ((s_X2_take ((s_X2_take Mx7 7).2) 8).2) 9 10 11).2) 59 ((Kp_takeOneOf (Kp_take (Kp_take (Kp_trans (Kp_take (Kp_trans (Kp_take (Kp_trans (Kp_refl (P := rP) hI) hK1)) hK4)) hK7)))).1.2.2.2.1.2)) rfl (Nat.le_of_ble_eq_true rfl) rfl ⟨by decide, by decide⟩ ⟨Nat.zero_le _, Nat.zero_le _⟩ rfl rfl ?_
                  refine V_if_ne (tgt := 68) f dX2_readRule_63 (by decide) (fun c12 => ?_) (fun c12 => ?_)
                  · refine V_aload_n f dX2_readRule_68 3 rfl ?_
                    refine V_iload_n f dX2_readRule_69 1 rfl ?_
                    refine V_iload_n f dX2_readRule_70 0 rfl ?_
                    refine V_cVv (As := [.int 3, .int ((s_X2_takeOneOf ((s_X2_take ((s_X2_take Mx7 7).2) 8).2) 9 10 11).1)]) (rest := []) f dX2_readRule_71 lk_X2_73 ml_X2_73 ins_X1_addRule sel_X1_addRule (zL hz) (by decide) rfl (c_X1_addRule (kl K) (kD K) (ky K) (kX K) ad ((s_X2_take ((s_X2_takeOneOf ((s_X2_take ((s_X2_take Mx7 7).2) 8).2) 9 10 11).2) 59).2) i 3 ((s_X2_takeOneOf ((s_X2_take ((s_X2_take Mx7 7).2) 8).2) 9 10 11).1) hz ((Kp_take (Kp_takeOneOf (Kp_take (Kp_take (Kp_trans (Kp_take (Kp_trans (Kp_take (Kp_trans (Kp_refl (P := rP) hI) hK1)) hK4)) hK7))))).1.2.2.2.2 _ hz)) rfl (Nat.le_of_ble_eq_true rfl) rfl ⟨by decide, by decide⟩ ⟨Nat.zero_le _, Nat.zero_le _⟩ rfl rfl ?_
                    refine V_iconst (v := 1) f dX2_readRule_74 (by decide) ?_
                    exact V_iret f q dX2_readRule_75 rfl (Nat.zero_le _) (Nat.zero_le _) ⟨rfl, rfl, ⟨1, rfl, Or.inr rfl⟩, (Kp_addRule (Kp_take (Kp_takeOneOf (Kp_take (Kp_take (Kp_trans (Kp_take (Kp_trans (Kp_take (Kp_trans (Kp_refl (P := rP) hI) hK1)) hK4)) hK7))))) hz _ _)⟩
                  · refine V_iconst (v := 0) f dX2_readRule_66 (by decide) ?_
                    exact V_iret f q dX2_readRule_67 rfl (Nat.zero_le _) (Nat.zero_le _) ⟨rfl, rfl, ⟨0, rfl, Or.inl rfl⟩, (Kp_take (Kp_takeOneOf (Kp_take (Kp_take (Kp_trans (Kp_take (Kp_trans (Kp_take (Kp_trans (Kp_refl (P := rP) hI) hK1)) hK4)) hK7)))))⟩
              · refine V_iconst (v := 0) f dX2_readRule_39 (by decide) ?_
                exact V_iret f q dX2_readRule_40 rfl (Nat.zero_le _) (Nat.zero_le _) ⟨rfl, rfl, ⟨0, rfl, Or.inl rfl⟩, (Kp_take (Kp_take (Kp_trans (Kp_take (Kp_trans (Kp_take (Kp_trans (Kp_refl (P := rP) hI) hK1)) hK4)) hK7)))⟩
          · refine V_iconst (v := 0) f dX2_readRule_16 (by decide) ?_
            exact V_iret f q dX2_readRule_17 rfl (Nat.zero_le _) (Nat.zero_le _) ⟨rfl, rfl, ⟨0, rfl, Or.inl rfl⟩, (Kp_trans (Kp_take (Kp_trans (Kp_take (Kp_trans (Kp_refl (P := rP) hI) hK1)) hK4)) hK7)⟩
        · refine V_aload_n f dX2_readRule_30 1 rfl ?_
          refine V_bipush (v := 8) f dX2_readRule_31 (by decide) ?_
          refine V_cVi (As := [.int 8]) (rest := []) f dX2_readRule_33 lk_X2_41 ml_X2_41 ins_X2_take sel_X2_take zb_17 (by decide) rfl (c_X2_take (kl K) (kD K) (ky K) (kX K) ad ((s_X2_take Mx4 7).2) 8 ((Kp_take (Kp_trans (Kp_take (Kp_trans (Kp_refl (P := rP) hI) hK1)) hK4)).1.2.2.2.1.2)) rfl (Nat.le_of_ble_eq_true rfl) rfl ⟨by decide, by decide⟩ ⟨Nat.zero_le _, Nat.zero_le _⟩ rfl rfl ?_
          refine V_if_ne (tgt := 41) f dX2_readRule_36 (by decide) (fun c13 => ?_) (fun c13 => ?_)
          · refine V_aload_n f dX2_readRule_41 1 rfl ?_
            refine V_bipush (v := 9) f dX2_readRule_42 (by decide) ?_
            refine V_bipush (v := 10) f dX2_readRule_44 (by decide) ?_
            refine V_bipush (v := 11) f dX2_readRule_46 (by decide) ?_
            refine V_cVi (As := [.int 9, .int 10, .int 11]) (rest := []) f dX2_readRule_48 lk_X2_69 ml_X2_69 ins_X2_takeOneOf sel_X2_takeOneOf zb_17 (by decide) rfl (c_X2_takeOneOf (kl K) (kD K) (ky K) (kX K) ad ((s_X2_take ((s_X2_take Mx4 7).2) 8).2) 9 10 11 ((Kp_take (Kp_take (Kp_trans (Kp_take (Kp_trans (Kp_refl (P := rP) hI) hK1)) hK4))).1.2.2.2.1.2)) rfl (Nat.le_of_ble_eq_true rfl) rfl ⟨by decide, by decide⟩ ⟨Nat.zero_le _, Nat.zero_le _⟩ rfl rfl ?_
            refine V_istore_n f dX2_readRule_51 rfl (by decide) rfl ?_
            refine V_iload_n f dX2_readRule_52 0 rfl ?_
            refine V_iconst (v := (-1)) f dX2_readRule_53 (by decide) ?_
            refine V_icmp_eq (tgt := 66) f dX2_readRule_54 (by decide) (fun c14 => ?_) (fun c14 => ?_)
            · refine V_iconst (v := 0) f dX2_readRule_66 (by decide) ?_
              exact V_iret f q dX2_readRule_67 rfl (Nat.zero_le _) (Nat.zero_le _) ⟨rfl, rfl, ⟨0, rfl, Or.inl rfl⟩, (Kp_takeOneOf (Kp_take (Kp_take (Kp_trans (Kp_take (Kp_trans (Kp_refl (P := rP) hI) hK1)) hK4))))⟩
            · refine V_aload_n f dX2_readRule_57 2 rfl ?_
              refine V_bipush (v := 59) f dX2_readRule_58 (by decide) ?_
              refine V_cVi (As := [.int 59]) (rest := []) f dX2_readRule_60 lk_X2_41 ml_X2_41 ins_X2_take sel_X2_take zb_17 (by decide) rfl (c_X2_take (kl K) (kD K) (ky K) (kX K) ad ((s_X2_takeOneOf ((s_X2_take ((s_X2_take Mx4 7).2) 8).2) 9 10 11).2) 59 ((Kp_takeOneOf (Kp_take (Kp_take (Kp_trans (Kp_take (Kp_trans (Kp_refl (P := rP) hI) hK1)) hK4)))).1.2.2.2.1.2)) rfl (Nat.le_of_ble_eq_true rfl) rfl ⟨by decide, by decide⟩ ⟨Nat.zero_le _, Nat.zero_le _⟩ rfl rfl ?_
              refine V_if_ne (tgt := 68) f dX2_readRule_63 (by decide) (fun c15 => ?_) (fun c15 => ?_)
              · refine V_aload_n f dX2_readRule_68 3 rfl ?_
                refine V_iload_n f dX2_readRule_69 1 rfl ?_
                refine V_iload_n f dX2_readRule_70 0 rfl ?_
                refine V_cVv (As := [.int 2, .int ((s_X2_takeOneOf ((s_X2_take ((s_X2_take Mx4 7).2) 8).2) 9 10 11).1)]) (rest := []) f dX2_readRule_71 lk_X2_73 ml_X2_73 ins_X1_addRule sel_X1_addRule (zL hz) (by decide) rfl (c_X1_addRule (kl K) (kD K) (ky K) (kX K) ad ((s_X2_take ((s_X2_takeOneOf ((s_X2_take ((s_X2_take Mx4 7).2) 8).2) 9 10 11).2) 59).2) i 2 ((s_X2_takeOneOf ((s_X2_take ((s_X2_take Mx4 7).2) 8).2) 9 10 11).1) hz ((Kp_take (Kp_takeOneOf (Kp_take (Kp_take (Kp_trans (Kp_take (Kp_trans (Kp_refl (P := rP) hI) hK1)) hK4))))).1.2.2.2.2 _ hz)) rfl (Nat.le_of_ble_eq_true rfl) rfl ⟨by decide, by decide⟩ ⟨Nat.zero_le _, Nat.zero_le _⟩ rfl rfl ?_
                refine V_iconst (v := 1) f dX2_readRule_74 (by decide) ?_
                exact V_iret f q dX2_readRule_75 rfl (Nat.zero_le _) (Nat.zero_le _) ⟨rfl, rfl, ⟨1, rfl, Or.inr rfl⟩, (Kp_addRule (Kp_take (Kp_takeOneOf (Kp_take (Kp_take (Kp_trans (Kp_take (Kp_trans (Kp_refl (P := rP) hI) hK1)) hK4))))) hz _ _)⟩
              · refine V_iconst (v := 0) f dX2_readRule_66 (by decide) ?_
                exact V_iret f q dX2_readRule_67 rfl (Nat.zero_le _) (Nat.zero_le _) ⟨rfl, rfl, ⟨0, rfl, Or.inl rfl⟩, (Kp_take (Kp_takeOneOf (Kp_take (Kp_take (Kp_trans (Kp_take (Kp_trans (Kp_refl (P := rP) hI) hK1)) hK4)))))⟩
          · refine V_iconst (v := 0) f dX2_readRule_39 (by decide) ?_
            exact V_iret f q dX2_readRule_40 rfl (Nat.zero_le _) (Nat.zero_le _) ⟨rfl, rfl, ⟨0, rfl, Or.inl rfl⟩, (Kp_take (Kp_take (Kp_trans (Kp_take (Kp_trans (Kp_refl (P := rP) hI) hK1)) hK4)))⟩
      · refine V_iconst (v := 0) f dX2_readRule_16 (by decide) ?_
        exact V_iret f q dX2_readRule_17 rfl (Nat.zero_le _) (Nat.zero_le _) ⟨rfl, rfl, ⟨0, rfl, Or.inl rfl⟩, (Kp_trans (Kp_take (Kp_trans (Kp_refl (P := rP) hI) hK1)) hK4)⟩
    · refine V_aload_n f dX2_readRule_30 1 rfl ?_
      refine V_bipush (v := 8) f dX2_readRule_31 (by decide) ?_
      refine V_cVi (As := [.int 8]) (rest := []) f dX2_readRule_33 lk_X2_41 ml_X2_41 ins_X2_take sel_X2_take zb_17 (by decide) rfl (c_X2_take (kl K) (kD K) (ky K) (kX K) ad ((s_X2_take Mx1 7).2) 8 ((Kp_take (Kp_trans (Kp_refl (P := rP) hI) hK1)).1.2.2.2.1.2)) rfl (Nat.le_of_ble_eq_true rfl) rfl ⟨by decide, by decide⟩ ⟨Nat.zero_le _, Nat.zero_le _⟩ rfl rfl ?_
      refine V_if_ne (tgt := 41) f dX2_readRule_36 (by decide) (fun c16 => ?_) (fun c16 => ?_)
      · refine V_aload_n f dX2_readRule_41 1 rfl ?_
        refine V_bipush (v := 9) f dX2_readRule_42 (by decide) ?_
        refine V_bipush (v := 10) f dX2_readRule_44 (by decide) ?_
        refine V_bipush (v := 11) f dX2_readRule_46 (by decide) ?_
        refine V_cVi (As := [.int 9, .int 10, .int 11]) (rest := []) f dX2_readRule_48 lk_X2_69 ml_X2_69 ins_X2_takeOneOf sel_X2_takeOneOf zb_17 (by decide) rfl (c_X2_takeOneOf (kl K) (kD K) (ky K) (kX K) ad ((s_X2_take ((s_X2_take Mx1 7).2) 8).2) 9 10 11 ((Kp_take (Kp_take (Kp_trans (Kp_refl (P := rP) hI) hK1))).1.2.2.2.1.2)) rfl (Nat.le_of_ble_eq_true rfl) rfl ⟨by decide, by decide⟩ ⟨Nat.zero_le _, Nat.zero_le _⟩ rfl rfl ?_
        refine V_istore_n f dX2_readRule_51 rfl (by decide) rfl ?_
        refine V_iload_n f dX2_readRule_52 0 rfl ?_
        refine V_iconst (v := (-1)) f dX2_readRule_53 (by decide) ?_
        refine V_icmp_eq (tgt := 66) f dX2_readRule_54 (by decide) (fun c17 => ?_) (fun c17 => ?_)
        · refine V_iconst (v := 0) f dX2_readRule_66 (by decide) ?_
          exact V_iret f q dX2_readRule_67 rfl (Nat.zero_le _) (Nat.zero_le _) ⟨rfl, rfl, ⟨0, rfl, Or.inl rfl⟩, (Kp_takeOneOf (Kp_take (Kp_take (Kp_trans (Kp_refl (P := rP) hI) hK1))))⟩
        · refine V_aload_n f dX2_readRule_57 2 rfl ?_
          refine V_bipush (v := 59) f dX2_readRule_58 (by decide) ?_
          refine V_cVi (As := [.int 59]) (rest := []) f dX2_readRule_60 lk_X2_41 ml_X2_41 ins_X2_take sel_X2_take zb_17 (by decide) rfl (c_X2_take (kl K) (kD K) (ky K) (kX K) ad ((s_X2_takeOneOf ((s_X2_take ((s_X2_take Mx1 7).2) 8).2) 9 10 11).2) 59 ((Kp_takeOneOf (Kp_take (Kp_take (Kp_trans (Kp_refl (P := rP) hI) hK1)))).1.2.2.2.1.2)) rfl (Nat.le_of_ble_eq_true rfl) rfl ⟨by decide, by decide⟩ ⟨Nat.zero_le _, Nat.zero_le _⟩ rfl rfl ?_
          refine V_if_ne (tgt := 68) f dX2_readRule_63 (by decide) (fun c18 => ?_) (fun c18 => ?_)
          · refine V_aload_n f dX2_readRule_68 3 rfl ?_
            refine V_iload_n f dX2_readRule_69 1 rfl ?_
            refine V_iload_n f dX2_readRule_70 0 rfl ?_
            refine V_cVv (As := [.int 1, .int ((s_X2_takeOneOf ((s_X2_take ((s_X2_take Mx1 7).2) 8).2) 9 10 11).1)]) (rest := []) f dX2_readRule_71 lk_X2_73 ml_X2_73 ins_X1_addRule sel_X1_addRule (zL hz) (by decide) rfl (c_X1_addRule (kl K) (kD K) (ky K) (kX K) ad ((s_X2_take ((s_X2_takeOneOf ((s_X2_take ((s_X2_take Mx1 7).2) 8).2) 9 10 11).2) 59).2) i 1 ((s_X2_takeOneOf ((s_X2_take ((s_X2_take Mx1 7).2) 8).2) 9 10 11).1) hz ((Kp_take (Kp_takeOneOf (Kp_take (Kp_take (Kp_trans (Kp_refl (P := rP) hI) hK1))))).1.2.2.2.2 _ hz)) rfl (Nat.le_of_ble_eq_true rfl) rfl ⟨by decide, by decide⟩ ⟨Nat.zero_le _, Nat.zero_le _⟩ rfl rfl ?_
            refine V_iconst (v := 1) f dX2_readRule_74 (by decide) ?_
            exact V_iret f q dX2_readRule_75 rfl (Nat.zero_le _) (Nat.zero_le _) ⟨rfl, rfl, ⟨1, rfl, Or.inr rfl⟩, (Kp_addRule (Kp_take (Kp_takeOneOf (Kp_take (Kp_take (Kp_trans (Kp_refl (P := rP) hI) hK1))))) hz _ _)⟩
          · refine V_iconst (v := 0) f dX2_readRule_66 (by decide) ?_
            exact V_iret f q dX2_readRule_67 rfl (Nat.zero_le _) (Nat.zero_le _) ⟨rfl, rfl, ⟨0, rfl, Or.inl rfl⟩, (Kp_take (Kp_takeOneOf (Kp_take (Kp_take (Kp_trans (Kp_refl (P := rP) hI) hK1)))))⟩
      · refine V_iconst (v := 0) f dX2_readRule_39 (by decide) ?_
        exact V_iret f q dX2_readRule_40 rfl (Nat.zero_le _) (Nat.zero_le _) ⟨rfl, rfl, ⟨0, rfl, Or.inl rfl⟩, (Kp_take (Kp_take (Kp_trans (Kp_refl (P := rP) hI) hK1)))⟩
  · refine V_iconst (v := 0) f dX2_readRule_16 (by decide) ?_
    exact V_iret f q dX2_readRule_17 rfl (Nat.zero_le _) (Nat.zero_le _) ⟨rfl, rfl, ⟨0, rfl, Or.inl rfl⟩, (Kp_trans (Kp_refl (P := rP) hI) hK1)⟩
set_option maxHeartbeats 4000000 in
set_option maxRecDepth 100000 in
theorem c3_X2_readStatement (l : Launch) (D : va_G) (cy : Nat → ClassId) (X : va_W) (ad : Nat → Nat) (M : MT) (i : Nat) (hz : LawZ i) (hI : InvB M) : CtP l yX2_readStatement cX2_readStatement 2 (some .boolean) (rK 4) D cy X ad ZB M [.ref (ad 17), .ref (ad i)] (fun v M1 => (∃ r : Int32, v = some (.int r) ∧ (r = 0 ∨ r = 1)) ∧ Kp rP M M1) := by
  refine Ctr.of (by decide +kernel) (Nat.le_of_ble_eq_true rfl) ?_
  intro K f q hnm hl0 hD0 hy0 hX0
  show V K ad 0 0 ZB M 0 [(0, .ref (ad 17)), (1, .ref (ad i))] []
  refine V_aload_n f dX2_readStatement_0 0 rfl ?_
  refine V_iconst (v := 1) f dX2_readStatement_1 (by decide) ?_
  refine V_cVi (As := [.int 1]) (rest := []) f dX2_readStatement_2 lk_X2_41 ml_X2_41 ins_X2_take sel_X2_take zb_17 (by decide) rfl (c_X2_take (kl K) (kD K) (ky K) (kX K) ad M 1 ((Kp_refl (P := rP) hI).1.2.2.2.1.2)) rfl (Nat.le_of_ble_eq_true rfl) rfl ⟨by decide, by decide⟩ ⟨Nat.zero_le _, Nat.zero_le _⟩ rfl rfl ?_
  refine V_if_eq (tgt := 39) f dX2_readStatement_5 (by decide) (fun c1 => ?_) (fun c1 => ?_)
  · refine V_aload_n f dX2_readStatement_39 0 rfl ?_
    refine V_iconst (v := 2) f dX2_readStatement_40 (by decide) ?_
    refine V_cVi (As := [.int 2]) (rest := []) f dX2_readStatement_41 lk_X2_41 ml_X2_41 ins_X2_take sel_X2_take zb_17 (by decide) rfl (c_X2_take (kl K) (kD K) (ky K) (kX K) ad ((s_X2_take M 1).2) 2 ((Kp_take (Kp_refl (P := rP) hI)).1.2.2.2.1.2)) rfl (Nat.le_of_ble_eq_true rfl) rfl ⟨by decide, by decide⟩ ⟨Nat.zero_le _, Nat.zero_le _⟩ rfl rfl ?_
    refine V_if_eq (tgt := 78) f dX2_readStatement_44 (by decide) (fun c2 => ?_) (fun c2 => ?_)
    · refine V_aload_n f dX2_readStatement_78 0 rfl ?_
      refine V_iconst (v := 3) f dX2_readStatement_79 (by decide) ?_
      refine V_cVi (As := [.int 3]) (rest := []) f dX2_readStatement_80 lk_X2_41 ml_X2_41 ins_X2_take sel_X2_take zb_17 (by decide) rfl (c_X2_take (kl K) (kD K) (ky K) (kX K) ad ((s_X2_take ((s_X2_take M 1).2) 2).2) 3 ((Kp_take (Kp_take (Kp_refl (P := rP) hI))).1.2.2.2.1.2)) rfl (Nat.le_of_ble_eq_true rfl) rfl ⟨by decide, by decide⟩ ⟨Nat.zero_le _, Nat.zero_le _⟩ rfl rfl ?_
      refine V_if_eq (tgt := 92) f dX2_readStatement_83 (by decide) (fun c3 => ?_) (fun c3 => ?_)
      · refine V_aload_n f dX2_readStatement_92 0 rfl ?_
        refine V_bipush (v := 6) f dX2_readStatement_93 (by decide) ?_
        refine V_cVi (As := [.int 6]) (rest := []) f dX2_readStatement_95 lk_X2_41 ml_X2_41 ins_X2_take sel_X2_take zb_17 (by decide) rfl (c_X2_take (kl K) (kD K) (ky K) (kX K) ad ((s_X2_take ((s_X2_take ((s_X2_take M 1).2) 2).2) 3).2) 6 ((Kp_take (Kp_take (Kp_take (Kp_refl (P := rP) hI)))).1.2.2.2.1.2)) rfl (Nat.le_of_ble_eq_true rfl) rfl ⟨by decide, by decide⟩ ⟨Nat.zero_le _, Nat.zero_le _⟩ rfl rfl ?_
        refine V_if_eq (tgt := 113) f dX2_readStatement_98 (by decide) (fun c4 => ?_) (fun c4 => ?_)
        · refine V_iconst (v := 0) f dX2_readStatement_113 (by decide) ?_
          exact V_iret f q dX2_readStatement_114 rfl (Nat.zero_le _) (Nat.zero_le _) ⟨rfl, rfl, ⟨0, rfl, Or.inl rfl⟩, (Kp_take (Kp_take (Kp_take (Kp_take (Kp_refl (P := rP) hI)))))⟩
        · refine V_aload_n f dX2_readStatement_101 0 rfl ?_
          refine V_aload_n f dX2_readStatement_102 1 rfl ?_
          refine V_cVp (As := [.ref (ad i)]) (rest := []) f dX2_readStatement_103 lk_X2_58 ml_X2_58 ins_X2_readRule sel_X2_readRule zb_17 (by decide) rfl (c3_X2_readRule _ _ _ _ ad ((s_X2_take ((s_X2_take ((s_X2_take ((s_X2_take M 1).2) 2).2) 3).2) 6).2) i hz ((Kp_take (Kp_take (Kp_take (Kp_take (Kp_refl (P := rP) hI))))).1)) rfl (Nat.le_of_ble_eq_true rfl) rfl ⟨by decide, by decide⟩ ⟨Nat.zero_le _, Nat.zero_le _⟩ rfl rfl (fun v5 Mx5 hp5 => ?_)
          obtain ⟨⟨r5, rfl, hr5⟩, hK5⟩ := hp5
          show V K ad 0 0 ZB Mx5 106 [(0, .ref (ad 17)), (1, .ref (ad i))] [.int r5]
          refine V_if_eq (tgt := 113) f dX2_readStatement_106 (by decide) (fun c6 => ?_) (fun c6 => ?_)
          · refine V_iconst (v := 0) f dX2_readStatement_113 (by decide) ?_
            exact V_iret f q dX2_readStatement_114 rfl (Nat.zero_le _) (Nat.zero_le _) ⟨rfl, rfl, ⟨0, rfl, Or.inl rfl⟩, (Kp_trans (Kp_take (Kp_take (Kp_take (Kp_take (Kp_refl (P := rP) hI))))) hK5)⟩
          · refine V_iconst (v := 1) f dX2_readStatement_109 (by decide) ?_
            refine V_goto (tgt := 114) f dX2_readStatement_110 (by decide) ?_
            exact V_iret f q dX2_readStatement_114 rfl (Nat.zero_le _) (Nat.zero_le _) ⟨rfl, rfl, ⟨1, rfl, Or.inr rfl⟩, (Kp_trans (Kp_take (Kp_take (Kp_take (Kp_take (Kp_refl (P := rP) hI))))) hK5)⟩
      · refine V_aload_n f dX2_readStatement_86 0 rfl ?_
        refine V_aload_n f dX2_readStatement_87 1 rfl ?_
        refine V_cVp (As := [.ref (ad i)]) (rest := []) f dX2_readStatement_88 lk_X2_55 ml_X2_55 ins_X2_readClosing sel_X2_readClosing zb_17 (by decide) rfl (c3_X2_readClosing _ _ _ _ ad ((s_X2_take ((s_X2_take ((s_X2_take M 1).2) 2).2) 3).2) i hz ((Kp_take (Kp_take (Kp_take (Kp_refl (P := rP) hI)))).1)) rfl (Nat.le_of_ble_eq_true rfl) rfl ⟨by decide, by decide⟩ ⟨Nat.zero_le _, Nat.zero_le _⟩ rfl rfl (fun v7 Mx7 hp7 => ?_)
        obtain ⟨⟨r7, rfl, hr7⟩, hK7⟩ := hp7
        show V K ad 0 0 ZB Mx7 91 [(0, .ref (ad 17)), (1, .ref (ad i))] [.int r7]
        exact V_iret f q dX2_readStatement_91 (nbz hr7) (Nat.zero_le _) (Nat.zero_le _) ⟨rfl, rfl, ⟨r7, rfl, hr7⟩, (Kp_trans (Kp_take (Kp_take (Kp_take (Kp_refl (P := rP) hI)))) hK7)⟩
    · refine V_aload_n f dX2_readStatement_47 1 rfl ?_
      refine V_aload_n f dX2_readStatement_48 0 rfl ?_
      refine V_cVi (As := []) (rest := [.ref (ad i)]) f dX2_readStatement_49 lk_X2_45 ml_X2_45 ins_X2_takeNumber sel_X2_takeNumber zb_17 (by decide) rfl (c_X2_takeNumber (kl K) (kD K) (ky K) (kX K) ad ((s_X2_take ((s_X2_take M 1).2) 2).2) ((Kp_take (Kp_take (Kp_refl (P := rP) hI))).1.2.2.2.1.2)) rfl (Nat.le_of_ble_eq_true rfl) rfl ⟨by decide, by decide⟩ ⟨Nat.zero_le _, Nat.zero_le _⟩ rfl rfl ?_
      refine V_putI f dX2_readStatement_52 lf_2_52 lp_1_3 rfl rfl rfl rfl (zL hz) ?_
      refine V_aload_n f dX2_readStatement_55 1 rfl ?_
      refine V_getE (x := (s_X2_takeNumber ((s_X2_take ((s_X2_take M 1).2) 2).2)).1) f dX2_readStatement_56 lf_2_52 rfl (zL hz) up_s ?_
      refine V_iconst (v := (-1)) f dX2_readStatement_59 (by decide) ?_
      refine V_icmp_eq (tgt := 76) f dX2_readStatement_60 (by decide) (fun c8 => ?_) (fun c8 => ?_)
      · refine V_iconst (v := 0) f dX2_readStatement_76 (by decide) ?_
        exact V_iret f q dX2_readStatement_77 rfl (Nat.zero_le _) (Nat.zero_le _) ⟨rfl, rfl, ⟨0, rfl, Or.inl rfl⟩, (Kp_lim (Kp_takeNumber (Kp_take (Kp_take (Kp_refl (P := rP) hI)))) hz (by decide) _)⟩
      · refine V_aload_n f dX2_readStatement_63 0 rfl ?_
        refine V_bipush (v := 59) f dX2_readStatement_64 (by decide) ?_
        refine V_cVi (As := [.int 59]) (rest := []) f dX2_readStatement_66 lk_X2_41 ml_X2_41 ins_X2_take sel_X2_take zb_17 (by decide) rfl (c_X2_take (kl K) (kD K) (ky K) (kX K) ad (up2 (s_X2_takeNumber ((s_X2_take ((s_X2_take M 1).2) 2).2)).2 i 3 ((s_X2_takeNumber ((s_X2_take ((s_X2_take M 1).2) 2).2)).1)) 59 ((Kp_lim (Kp_takeNumber (Kp_take (Kp_take (Kp_refl (P := rP) hI)))) hz (by decide) _).1.2.2.2.1.2)) rfl (Nat.le_of_ble_eq_true rfl) rfl ⟨by decide, by decide⟩ ⟨Nat.zero_le _, Nat.zero_le _⟩ rfl rfl ?_
        refine V_if_eq (tgt := 76) f dX2_readStatement_69 (by decide) (fun c9 => ?_) (fun c9 => ?_)
        · refine V_iconst (v := 0) f dX2_readStatement_76 (by decide) ?_
          exact V_iret f q dX2_readStatement_77 rfl (Nat.zero_le _) (Nat.zero_le _) ⟨rfl, rfl, ⟨0, rfl, Or.inl rfl⟩, (Kp_take (Kp_lim (Kp_takeNumber (Kp_take (Kp_take (Kp_refl (P := rP) hI)))) hz (by decide) _))⟩
        · refine V_iconst (v := 1) f dX2_readStatement_72 (by decide) ?_
          refine V_goto (tgt := 77) f dX2_readStatement_73 (by decide) ?_
          exact V_iret f q dX2_readStatement_77 rfl (Nat.zero_le _) (Nat.zero_le _) ⟨rfl, rfl, ⟨1, rfl, Or.inr rfl⟩, (Kp_take (Kp_lim (Kp_takeNumber (Kp_take (Kp_take (Kp_refl (P := rP) hI)))) hz (by decide) _))⟩
  · refine V_aload_n f dX2_readStatement_8 1 rfl ?_
    refine V_aload_n f dX2_readStatement_9 0 rfl ?_
    refine V_cVi (As := []) (rest := [.ref (ad i)]) f dX2_readStatement_10 lk_X2_45 ml_X2_45 ins_X2_takeNumber sel_X2_takeNumber zb_17 (by decide) rfl (c_X2_takeNumber (kl K) (kD K) (ky K) (kX K) ad ((s_X2_take M 1).2) ((Kp_take (Kp_refl (P := rP) hI)).1.2.2.2.1.2)) rfl (Nat.le_of_ble_eq_true rfl) rfl ⟨by decide, by decide⟩ ⟨Nat.zero_le _, Nat.zero_le _⟩ rfl rfl ?_
    refine V_putI f dX2_readStatement_13 lf_2_49 lp_1_2 rfl rfl rfl rfl (zL hz) ?_
    refine V_aload_n f dX2_readStatement_16 1 rfl ?_
    refine V_getE (x := (s_X2_takeNumber ((s_X2_take M 1).2)).1) f dX2_readStatement_17 lf_2_49 rfl (zL hz) up_s ?_
    refine V_iconst (v := (-1)) f dX2_readStatement_20 (by decide) ?_
    refine V_icmp_eq (tgt := 37) f dX2_readStatement_21 (by decide) (fun c10 => ?_) (fun c10 => ?_)
    · refine V_iconst (v := 0) f dX2_readStatement_37 (by decide) ?_
      exact V_iret f q dX2_readStatement_38 rfl (Nat.zero_le _) (Nat.zero_le _) ⟨rfl, rfl, ⟨0, rfl, Or.inl rfl⟩, (Kp_lim (Kp_takeNumber (Kp_take (Kp_refl (P := rP) hI))) hz (by decide) _)⟩
    · refine V_aload_n f dX2_readStatement_24 0 rfl ?_
      refine V_bipush (v := 59) f dX2_readStatement_25 (by decide) ?_
      refine V_cVi (As := [.int 59]) (rest := []) f dX2_readStatement_27 lk_X2_41 ml_X2_41 ins_X2_take sel_X2_take zb_17 (by decide) rfl (c_X2_take (kl K) (kD K) (ky K) (kX K) ad (up2 (s_X2_takeNumber ((s_X2_take M 1).2)).2 i 2 ((s_X2_takeNumber ((s_X2_take M 1).2)).1)) 59 ((Kp_lim (Kp_takeNumber (Kp_take (Kp_refl (P := rP) hI))) hz (by decide) _).1.2.2.2.1.2)) rfl (Nat.le_of_ble_eq_true rfl) rfl ⟨by decide, by decide⟩ ⟨Nat.zero_le _, Nat.zero_le _⟩ rfl rfl ?_
      refine V_if_eq (tgt := 37) f dX2_readStatement_30 (by decide) (fun c11 => ?_) (fun c11 => ?_)
      · refine V_iconst (v := 0) f dX2_readStatement_37 (by decide) ?_
        exact V_iret f q dX2_readStatement_38 rfl (Nat.zero_le _) (Nat.zero_le _) ⟨rfl, rfl, ⟨0, rfl, Or.inl rfl⟩, (Kp_take (Kp_lim (Kp_takeNumber (Kp_take (Kp_refl (P := rP) hI))) hz (by decide) _))⟩
      · refine V_iconst (v := 1) f dX2_readStatement_33 (by decide) ?_
        refine V_goto (tgt := 38) f dX2_readStatement_34 (by decide) ?_
        exact V_iret f q dX2_readStatement_38 rfl (Nat.zero_le _) (Nat.zero_le _) ⟨rfl, rfl, ⟨1, rfl, Or.inr rfl⟩, (Kp_take (Kp_lim (Kp_takeNumber (Kp_take (Kp_refl (P := rP) hI))) hz (by decide) _))⟩

set_option maxHeartbeats 4000000 in
set_option maxRecDepth 100000 in
theorem c4_X2_take (l : Launch) (D : va_G) (cy : Nat → ClassId) (X : va_W) (ad : Nat → Nat) (M : MT) (a : Int32) (T : Nat → Int32) (N p : Nat) (hC : txC T N M p) (hI : InvB M) (ha : ¬ (0 : Int32) ∈ [a]) : CtP l yX2_take cX2_take 2 (some .boolean) (rK 1) D cy X ad ZB M [.ref (ad 17), .int a] (fun v M1 => (txtc T N p ∈ [a] ∧ v = some (.int 1) ∧ txC T N M1 (txnx T N p) ∧ CN M M1) ∨ (¬ txtc T N p ∈ [a] ∧ v = some (.int 0) ∧ txC T N M1 p ∧ CN M M1)) := by
  refine Ctr.of (by decide +kernel) (Nat.le_of_ble_eq_true rfl) ?_
  intro K f q hnm hl0 hD0 hy0 hX0
  show V K ad 0 0 ZB M 0 [(0, .ref (ad 17)), (1, .int a)] []
  refine V_aload_n f dX2_take_0 0 rfl ?_
  refine V_getR f dX2_take_1 lf_2_20 rfl zb_17 rfl ?_
  refine V_aload_n f dX2_take_4 0 rfl ?_
  refine V_getE (x := M 17 1) f dX2_take_5 lf_2_9 rfl zb_17 rfl ?_
  refine V_cVi (As := [.int (M 17 1)]) (rest := []) f dX2_take_8 lk_X2_30 ml_X2_30 ins_X7_codeAt sel_X7_codeAt zb_18 (by decide) rfl (c_X7_codeAt (kl K) (kD K) (ky K) (kX K) ad M (M 17 1) hI.2.2.2.1.2) rfl (Nat.le_of_ble_eq_true rfl) rfl ⟨by decide, by decide⟩ ⟨Nat.zero_le _, Nat.zero_le _⟩ rfl rfl ?_
  refine V_iload_n f dX2_take_11 1 rfl ?_
  refine V_icmp_eq (tgt := 17) f dX2_take_12 (by decide) (fun c1 => ?_) (fun c1 => ?_)
  · refine V_aload_n f dX2_take_17 0 rfl ?_
    refine V_dup f dX2_take_18 rfl ?_
    refine V_getE (x := M 17 1) f dX2_take_19 lf_2_9 rfl zb_17 rfl ?_
    refine V_iconst (v := 1) f dX2_take_22 (by decide) ?_
    refine V_iadd f dX2_take_23 ?_
    refine V_putI f dX2_take_24 lf_2_9 lp_2_1 rfl rfl rfl rfl zb_17 ?_
    refine V_iconst (v := 1) f dX2_take_27 (by decide) ?_
    exact V_iret f q dX2_take_28 rfl (Nat.zero_le _) (Nat.zero_le _) ⟨rfl, rfl, Or.inl ⟨(tk_y hC (List.mem_singleton.mpr c1) ha).1, rfl, (tk_y hC (List.mem_singleton.mpr c1) ha).2⟩⟩
  · refine V_iconst (v := 0) f dX2_take_15 (by decide) ?_
    exact V_iret f q dX2_take_16 rfl (Nat.zero_le _) (Nat.zero_le _) ⟨rfl, rfl, Or.inr ⟨(tk_n hC (fun g => c1 (List.mem_singleton.mp g))).1, rfl, hC, CN_refl M⟩⟩
set_option maxHeartbeats 4000000 in
set_option maxRecDepth 100000 in
theorem c4_X2_takeNumber (l : Launch) (D : va_G) (cy : Nat → ClassId) (X : va_W) (ad : Nat → Nat) (M : MT) (T : Nat → Int32) (N p : Nat) (hC : txC T N M p) (hI : InvB M) : CtP l yX2_takeNumber cX2_takeNumber 1 (some .int) (rK 1) D cy X ad ZB M [.ref (ad 17)] (fun v M1 => (txtc T N p ∈ [15] ∧ v = some (.int (txtv T N p)) ∧ txC T N M1 (txnx T N p) ∧ CN M M1) ∨ (¬ txtc T N p ∈ [15] ∧ v = some (.int (-1)) ∧ txC T N M1 p ∧ CN M M1)) := by
  refine Ctr.of (by decide +kernel) (Nat.le_of_ble_eq_true rfl) ?_
  intro K f q hnm hl0 hD0 hy0 hX0
  show V K ad 0 0 ZB M 0 [(0, .ref (ad 17))] []
  refine V_aload_n f dX2_takeNumber_0 0 rfl ?_
  refine V_getR f dX2_takeNumber_1 lf_2_20 rfl zb_17 rfl ?_
  refine V_aload_n f dX2_takeNumber_4 0 rfl ?_
  refine V_getE (x := M 17 1) f dX2_takeNumber_5 lf_2_9 rfl zb_17 rfl ?_
  refine V_cVi (As := [.int (M 17 1)]) (rest := []) f dX2_takeNumber_8 lk_X2_30 ml_X2_30 ins_X7_codeAt sel_X7_codeAt zb_18 (by decide) rfl (c_X7_codeAt (kl K) (kD K) (ky K) (kX K) ad M (M 17 1) hI.2.2.2.1.2) rfl (Nat.le_of_ble_eq_true rfl) rfl ⟨by decide, by decide⟩ ⟨Nat.zero_le _, Nat.zero_le _⟩ rfl rfl ?_
  refine V_bipush (v := 15) f dX2_takeNumber_11 (by decide) ?_
  refine V_icmp_eq (tgt := 18) f dX2_takeNumber_13 (by decide) (fun c1 => ?_) (fun c1 => ?_)
  · refine V_aload_n f dX2_takeNumber_18 0 rfl ?_
    refine V_dup f dX2_takeNumber_19 rfl ?_
    refine V_getE (x := M 17 1) f dX2_takeNumber_20 lf_2_9 rfl zb_17 rfl ?_
    refine V_iconst (v := 1) f dX2_takeNumber_23 (by decide) ?_
    refine V_iadd f dX2_takeNumber_24 ?_
    refine V_putI f dX2_takeNumber_25 lf_2_9 lp_2_1 rfl rfl rfl rfl zb_17 ?_
    refine V_aload_n f dX2_takeNumber_28 0 rfl ?_
    refine V_getR f dX2_takeNumber_29 lf_2_20 rfl zb_17 rfl ?_
    refine V_aload_n f dX2_takeNumber_32 0 rfl ?_
    refine V_getE (x := (M 17 1) + 1) f dX2_takeNumber_33 lf_2_9 rfl zb_17 up_s ?_
    refine V_iconst (v := 1) f dX2_takeNumber_36 (by decide) ?_
    refine V_isub f dX2_takeNumber_37 ?_
    refine V_cVi (As := [.int (((M 17 1) + 1) - 1)]) (rest := []) f dX2_takeNumber_38 lk_X2_80 ml_X2_80 ins_X7_valueAt sel_X7_valueAt zb_18 (by decide) rfl (c_X7_valueAt (kl K) (kD K) (ky K) (kX K) ad (up2 M 17 1 ((M 17 1) + 1)) (((M 17 1) + 1) - 1) (by rw [show (up2 M 17 1 ((M 17 1) + 1)) 18 1 = M 18 1 from (up_c (by decide) rfl)]; exact hI.2.2.2.1.2)) rfl (Nat.le_of_ble_eq_true rfl) rfl ⟨by decide, by decide⟩ ⟨Nat.zero_le _, Nat.zero_le _⟩ rfl rfl ?_
    exact V_iret f q dX2_takeNumber_41 rfl (Nat.zero_le _) (Nat.zero_le _) ⟨rfl, rfl, Or.inl ⟨(tk_y hC (List.mem_singleton.mpr c1) (by decide)).1, by rw [tk_v hC c1], (tk_y hC (List.mem_singleton.mpr c1) (by decide)).2⟩⟩
  · refine V_iconst (v := (-1)) f dX2_takeNumber_16 (by decide) ?_
    exact V_iret f q dX2_takeNumber_17 rfl (Nat.zero_le _) (Nat.zero_le _) ⟨rfl, rfl, Or.inr ⟨(tk_n hC (fun g => c1 (List.mem_singleton.mp g))).1, rfl, hC, CN_refl M⟩⟩
set_option maxHeartbeats 4000000 in
set_option maxRecDepth 100000 in
theorem c4_X2_takeOneOf (l : Launch) (D : va_G) (cy : Nat → ClassId) (X : va_W) (ad : Nat → Nat) (M : MT) (a : Int32) (b : Int32) (e : Int32) (T : Nat → Int32) (N p : Nat) (hC : txC T N M p) (hI : InvB M) (ha : ¬ (0 : Int32) ∈ [a, b, e]) : CtP l yX2_takeOneOf cX2_takeOneOf 5 (some .int) (rK 1) D cy X ad ZB M [.ref (ad 17), .int a, .int b, .int e] (fun v M1 => (txtc T N p ∈ [a, b, e] ∧ v = some (.int (txtc T N p)) ∧ txC T N M1 (txnx T N p) ∧ CN M M1) ∨ (¬ txtc T N p ∈ [a, b, e] ∧ v = some (.int (-1)) ∧ txC T N M1 p ∧ CN M M1)) := by
  refine Ctr.of (by decide +kernel) (Nat.le_of_ble_eq_true rfl) ?_
  intro K f q hnm hl0 hD0 hy0 hX0
  show V K ad 0 0 ZB M 0 [(0, .ref (ad 17)), (1, .int a), (2, .int b), (3, .int e)] []
  refine V_aload_n f dX2_takeOneOf_0 0 rfl ?_
  refine V_getR f dX2_takeOneOf_1 lf_2_20 rfl zb_17 rfl ?_
  refine V_aload_n f dX2_takeOneOf_4 0 rfl ?_
  refine V_getE (x := M 17 1) f dX2_takeOneOf_5 lf_2_9 rfl zb_17 rfl ?_
  refine V_cVi (As := [.int (M 17 1)]) (rest := []) f dX2_takeOneOf_8 lk_X2_30 ml_X2_30 ins_X7_codeAt sel_X7_codeAt zb_18 (by decide) rfl (c_X7_codeAt (kl K) (kD K) (ky K) (kX K) ad M (M 17 1) hI.2.2.2.1.2) rfl (Nat.le_of_ble_eq_true rfl) rfl ⟨by decide, by decide⟩ ⟨Nat.zero_le _, Nat.zero_le _⟩ rfl rfl ?_
  refine V_istore f dX2_takeOneOf_11 (by decide) rfl ?_
  refine V_iload f dX2_takeOneOf_13 0 rfl ?_
  refine V_iload_n f dX2_takeOneOf_15 2 rfl ?_
  refine V_icmp_eq (tgt := 33) f dX2_takeOneOf_16 (by decide) (fun c1 => ?_) (fun c1 => ?_)
  · refine V_aload_n f dX2_takeOneOf_33 1 rfl ?_
    refine V_dup f dX2_takeOneOf_34 rfl ?_
    refine V_getE (x := M 17 1) f dX2_takeOneOf_35 lf_2_9 rfl zb_17 rfl ?_
    refine V_iconst (v := 1) f dX2_takeOneOf_38 (by decide) ?_
    refine V_iadd f dX2_takeOneOf_39 ?_
    refine V_putI f dX2_takeOneOf_40 lf_2_9 lp_2_1 rfl rfl rfl rfl zb_17 ?_
    refine V_iload f dX2_takeOneOf_43 0 rfl ?_
    exact V_iret f q dX2_takeOneOf_45 rfl (Nat.zero_le _) (Nat.zero_le _) ⟨rfl, rfl, Or.inl ⟨(tk_y hC (List.mem_cons.mpr (Or.inl c1)) ha).1, by rw [txC_code hC], (tk_y hC (List.mem_cons.mpr (Or.inl c1)) ha).2⟩⟩
  · refine V_iload f dX2_takeOneOf_19 0 rfl ?_
    refine V_iload_n f dX2_takeOneOf_21 3 rfl ?_
    refine V_icmp_eq (tgt := 33) f dX2_takeOneOf_22 (by decide) (fun c2 => ?_) (fun c2 => ?_)
    · refine V_aload_n f dX2_takeOneOf_33 1 rfl ?_
      refine V_dup f dX2_takeOneOf_34 rfl ?_
      refine V_getE (x := M 17 1) f dX2_takeOneOf_35 lf_2_9 rfl zb_17 rfl ?_
      refine V_iconst (v := 1) f dX2_takeOneOf_38 (by decide) ?_
      refine V_iadd f dX2_takeOneOf_39 ?_
      refine V_putI f dX2_takeOneOf_40 lf_2_9 lp_2_1 rfl rfl rfl rfl zb_17 ?_
      refine V_iload f dX2_takeOneOf_43 0 rfl ?_
      exact V_iret f q dX2_takeOneOf_45 rfl (Nat.zero_le _) (Nat.zero_le _) ⟨rfl, rfl, Or.inl ⟨(tk_y hC (List.mem_cons_of_mem _ (List.mem_cons.mpr (Or.inl c2))) ha).1, by rw [txC_code hC], (tk_y hC (List.mem_cons_of_mem _ (List.mem_cons.mpr (Or.inl c2))) ha).2⟩⟩
    · refine V_iload f dX2_takeOneOf_25 0 rfl ?_
      refine V_iload_n f dX2_takeOneOf_27 4 rfl ?_
      refine V_icmp_eq (tgt := 33) f dX2_takeOneOf_28 (by decide) (fun c3 => ?_) (fun c3 => ?_)
      · refine V_aload_n f dX2_takeOneOf_33 1 rfl ?_
        refine V_dup f dX2_takeOneOf_34 rfl ?_
        refine V_getE (x := M 17 1) f dX2_takeOneOf_35 lf_2_9 rfl zb_17 rfl ?_
        refine V_iconst (v := 1) f dX2_takeOneOf_38 (by decide) ?_
        refine V_iadd f dX2_takeOneOf_39 ?_
        refine V_putI f dX2_takeOneOf_40 lf_2_9 lp_2_1 rfl rfl rfl rfl zb_17 ?_
        refine V_iload f dX2_takeOneOf_43 0 rfl ?_
        exact V_iret f q dX2_takeOneOf_45 rfl (Nat.zero_le _) (Nat.zero_le _) ⟨rfl, rfl, Or.inl ⟨(tk_y hC (List.mem_cons_of_mem _ (List.mem_cons_of_mem _ (List.mem_singleton.mpr c3))) ha).1, by rw [txC_code hC], (tk_y hC (List.mem_cons_of_mem _ (List.mem_cons_of_mem _ (List.mem_singleton.mpr c3))) ha).2⟩⟩
      · refine V_iconst (v := (-1)) f dX2_takeOneOf_31 (by decide) ?_
        exact V_iret f q dX2_takeOneOf_32 rfl (Nat.zero_le _) (Nat.zero_le _) ⟨rfl, rfl, Or.inr ⟨(tk_n hC (fun g => by rcases List.mem_cons.mp g with g | g; exact c1 g; rcases List.mem_cons.mp g with g | g; exact c2 g; exact c3 (List.mem_singleton.mp g))).1, rfl, hC, CN_refl M⟩⟩
set_option maxHeartbeats 4000000 in
set_option maxRecDepth 100000 in
theorem c4_X2_readTest (l : Launch) (D : va_G) (cy : Nat → ClassId) (X : va_W) (ad : Nat → Nat) (M : MT) (i : Nat) (a : Int32) (hz : LawZ i) (T : Nat → Int32) (N p : Nat) (hC : txC T N M p) (hI : InvB M) : CtP l yX2_readTest cX2_readTest 6 (some .boolean) (rK 2) D cy X ad ZB M [.ref (ad 17), .ref (ad i), .int a] (fun v M1 => (∃ q, txsq T N txTS p = (true, q) ∧ v = some (.int 1) ∧ txC T N M1 q ∧ CR i M M1) ∨ (∃ q, txsq T N txTS p = (false, q) ∧ v = some (.int 0) ∧ txC T N M1 q ∧ CR i M M1)) := by
  refine Ctr.of (by decide +kernel) (Nat.le_of_ble_eq_true rfl) ?_
  intro K f q hnm hl0 hD0 hy0 hX0
  show V K ad 0 0 ZB M 0 [(0, .ref (ad 17)), (1, .ref (ad i)), (2, .int a)] []
  refine V_aload_n f dX2_readTest_0 0 rfl ?_
  refine V_bipush (v := 12) f dX2_readTest_1 (by decide) ?_
  refine V_bipush (v := 13) f dX2_readTest_3 (by decide) ?_
  refine V_bipush (v := 14) f dX2_readTest_5 (by decide) ?_
  refine V_cVp (As := [.int 12, .int 13, .int 14]) (rest := []) f dX2_readTest_7 lk_X2_69 ml_X2_69 ins_X2_takeOneOf sel_X2_takeOneOf zb_17 (by decide) rfl (c4_X2_takeOneOf _ _ _ _ ad M 12 13 14 T N p hC (((CR_refl (i := i) hI)).1) (by decide)) rfl (Nat.le_of_ble_eq_true rfl) rfl ⟨by decide, by decide⟩ ⟨Nat.zero_le _, Nat.zero_le _⟩ rfl rfl (fun v1 Mx1 hp1 => ?_)
  rcases hp1 with ⟨h1, rfl, hC1, hN1⟩ | ⟨h1, rfl, hC1, hN1⟩
  · show V K ad 0 0 ZB Mx1 10 [(0, .ref (ad 17)), (1, .ref (ad i)), (2, .int a)] [.int (txtc T N p)]
    refine V_istore_n f dX2_readTest_10 rfl (by decide) rfl ?_
    refine V_iload_n f dX2_readTest_11 0 rfl ?_
    refine V_iconst (v := (-1)) f dX2_readTest_12 (by decide) ?_
    refine V_icmp_ne (tgt := 18) f dX2_readTest_13 (by decide) (fun _ => ?_) (fun h => absurd h (txne h1 (by decide)))
    refine V_aload_n f dX2_readTest_18 1 rfl ?_
    refine V_bipush (v := 60) f dX2_readTest_19 (by decide) ?_
    refine V_bipush (v := 62) f dX2_readTest_21 (by decide) ?_
    refine V_bipush (v := 61) f dX2_readTest_23 (by decide) ?_
    refine V_cVp (As := [.int 60, .int 62, .int 61]) (rest := []) f dX2_readTest_25 lk_X2_69 ml_X2_69 ins_X2_takeOneOf sel_X2_takeOneOf zb_17 (by decide) rfl (c4_X2_takeOneOf _ _ _ _ ad Mx1 60 62 61 T N (txnx T N p) hC1 (((CR_CN hz (CR_refl (i := i) hI) hN1)).1) (by decide)) rfl (Nat.le_of_ble_eq_true rfl) rfl ⟨by decide, by decide⟩ ⟨Nat.zero_le _, Nat.zero_le _⟩ rfl rfl (fun v2 Mx2 hp2 => ?_)
    rcases hp2 with ⟨h2, rfl, hC2, hN2⟩ | ⟨h2, rfl, hC2, hN2⟩
    · show V K ad 0 0 ZB Mx2 28 [(3, .int (txtc T N p)), (0, .ref (ad 17)), (1, .ref (ad i)), (2, .int a)] [.int (txtc T N (txnx T N p))]
      refine V_istore f dX2_readTest_28 (by decide) rfl ?_
      refine V_iload f dX2_readTest_30 0 rfl ?_
      refine V_iconst (v := (-1)) f dX2_readTest_32 (by decide) ?_
      refine V_icmp_ne (tgt := 38) f dX2_readTest_33 (by decide) (fun _ => ?_) (fun h => absurd h (txne h2 (by decide)))
      refine V_aload_n f dX2_readTest_38 2 rfl ?_
      refine V_cVp (As := []) (rest := []) f dX2_readTest_39 lk_X2_45 ml_X2_45 ins_X2_takeNumber sel_X2_takeNumber zb_17 (by decide) rfl (c4_X2_takeNumber _ _ _ _ ad Mx2 T N (txnx T N (txnx T N p)) hC2 (((CR_CN hz (CR_CN hz (CR_refl (i := i) hI) hN1) hN2)).1)) rfl (Nat.le_of_ble_eq_true rfl) rfl ⟨by decide, by decide⟩ ⟨Nat.zero_le _, Nat.zero_le _⟩ rfl rfl (fun v3 Mx3 hp3 => ?_)
      rcases hp3 with ⟨h3, rfl, hC3, hN3⟩ | ⟨h3, rfl, hC3, hN3⟩
      · show V K ad 0 0 ZB Mx3 42 [(4, .int (txtc T N (txnx T N p))), (3, .int (txtc T N p)), (0, .ref (ad 17)), (1, .ref (ad i)), (2, .int a)] [.int (txtv T N (txnx T N (txnx T N p)))]
        refine V_istore f dX2_readTest_42 (by decide) rfl ?_
        refine V_iload f dX2_readTest_44 0 rfl ?_
        refine V_iconst (v := (-1)) f dX2_readTest_46 (by decide) ?_
        refine V_icmp_ne (tgt := 52) f dX2_readTest_47 (by decide) (fun _ => ?_) (fun h => absurd h (txtv_n (List.mem_singleton.mp h3)))
        refine V_aload_n f dX2_readTest_52 4 rfl ?_
        refine V_iload_n f dX2_readTest_53 5 rfl ?_
        refine V_iload_n f dX2_readTest_54 2 rfl ?_
        refine V_iload f dX2_readTest_55 1 rfl ?_
        refine V_iload f dX2_readTest_57 0 rfl ?_
        refine V_cVv (As := [.int a, .int (txtc T N p), .int (txtc T N (txnx T N p)), .int (txtv T N (txnx T N (txnx T N p)))]) (rest := []) f dX2_readTest_59 lk_X2_77 ml_X2_77 ins_X1_putTest sel_X1_putTest (zL hz) (by decide) rfl (c_X1_putTest (kl K) (kD K) (ky K) (kX K) ad Mx3 i a (txtc T N p) (txtc T N (txnx T N p)) (txtv T N (txnx T N (txnx T N p))) hz (((CR_CN hz (CR_CN hz (CR_CN hz (CR_refl (i := i) hI) hN1) hN2) hN3)).1.2.2.2.2 _ hz)) rfl (Nat.le_of_ble_eq_true rfl) rfl ⟨by decide, by decide⟩ ⟨Nat.zero_le _, Nat.zero_le _⟩ rfl rfl ?_
        refine V_iconst (v := 1) f dX2_readTest_62 (by decide) ?_
        exact V_iret f q dX2_readTest_63 rfl (Nat.zero_le _) (Nat.zero_le _) ⟨rfl, rfl, Or.inl ⟨(txnx T N (txnx T N (txnx T N p))), (txsq_y h1).trans ((txsq_y h2).trans ((txsq_y h3).trans (rfl))), rfl, (txC_w hz hC3 (fun j hj => pt_fr _ _ _ _ _ _ (by omega))), (CR_pt hz (CR_CN hz (CR_CN hz (CR_CN hz (CR_refl (i := i) hI) hN1) hN2) hN3) _ _ _ _)⟩⟩
      · show V K ad 0 0 ZB Mx3 42 [(4, .int (txtc T N (txnx T N p))), (3, .int (txtc T N p)), (0, .ref (ad 17)), (1, .ref (ad i)), (2, .int a)] [.int (-1)]
        refine V_istore f dX2_readTest_42 (by decide) rfl ?_
        refine V_iload f dX2_readTest_44 0 rfl ?_
        refine V_iconst (v := (-1)) f dX2_readTest_46 (by decide) ?_
        refine V_icmp_ne (tgt := 52) f dX2_readTest_47 (by decide) (fun h => absurd (by decide) h) (fun _ => ?_)
        refine V_iconst (v := 0) f dX2_readTest_50 (by decide) ?_
        exact V_iret f q dX2_readTest_51 rfl (Nat.zero_le _) (Nat.zero_le _) ⟨rfl, rfl, Or.inr ⟨(txnx T N (txnx T N p)), (txsq_y h1).trans ((txsq_y h2).trans (txsq_n h3)), rfl, hC3, (CR_CN hz (CR_CN hz (CR_CN hz (CR_refl (i := i) hI) hN1) hN2) hN3)⟩⟩
    · show V K ad 0 0 ZB Mx2 28 [(3, .int (txtc T N p)), (0, .ref (ad 17)), (1, .ref (ad i)), (2, .int a)] [.int (-1)]
      refine V_istore f dX2_readTest_28 (by decide) rfl ?_
      refine V_iload f dX2_readTest_30 0 rfl ?_
      refine V_iconst (v := (-1)) f dX2_readTest_32 (by decide) ?_
      refine V_icmp_ne (tgt := 38) f dX2_readTest_33 (by decide) (fun h => absurd (by decide) h) (fun _ => ?_)
      refine V_iconst (v := 0) f dX2_readTest_36 (by decide) ?_
      exact V_iret f q dX2_readTest_37 rfl (Nat.zero_le _) (Nat.zero_le _) ⟨rfl, rfl, Or.inr ⟨(txnx T N p), (txsq_y h1).trans (txsq_n h2), rfl, hC2, (CR_CN hz (CR_CN hz (CR_refl (i := i) hI) hN1) hN2)⟩⟩
  · show V K ad 0 0 ZB Mx1 10 [(0, .ref (ad 17)), (1, .ref (ad i)), (2, .int a)] [.int (-1)]
    refine V_istore_n f dX2_readTest_10 rfl (by decide) rfl ?_
    refine V_iload_n f dX2_readTest_11 0 rfl ?_
    refine V_iconst (v := (-1)) f dX2_readTest_12 (by decide) ?_
    refine V_icmp_ne (tgt := 18) f dX2_readTest_13 (by decide) (fun h => absurd (by decide) h) (fun _ => ?_)
    refine V_iconst (v := 0) f dX2_readTest_16 (by decide) ?_
    exact V_iret f q dX2_readTest_17 rfl (Nat.zero_le _) (Nat.zero_le _) ⟨rfl, rfl, Or.inr ⟨p, txsq_n h1, rfl, hC1, (CR_CN hz (CR_refl (i := i) hI) hN1)⟩⟩
set_option maxHeartbeats 4000000 in
set_option maxRecDepth 100000 in
theorem c4_X2_readClosing (l : Launch) (D : va_G) (cy : Nat → ClassId) (X : va_W) (ad : Nat → Nat) (M : MT) (i : Nat) (hz : LawZ i) (T : Nat → Int32) (N p : Nat) (hC : txC T N M p) (hI : InvB M) (hl : (cB M i).2.2.length < 16) : CtP l yX2_readClosing cX2_readClosing 6 (some .boolean) (rK 2) D cy X ad ZB M [.ref (ad 17), .ref (ad i)] (fun v M1 => (∃ q, txsq T N (txCL ++ [[59]]) p = (true, q) ∧ v = some (.int 1) ∧ txC T N M1 q ∧ KQ i M (txcl T N p (cB M i)) M1) ∨ (∃ q, txsq T N (txCL ++ [[59]]) p = (false, q) ∧ v = some (.int 0) ∧ txC T N M1 q ∧ CQ i M M1)) := by
  refine Ctr.of (by decide +kernel) (Nat.le_of_ble_eq_true rfl) ?_
  intro K f q hnm hl0 hD0 hy0 hX0
  show V K ad 0 0 ZB M 0 [(0, .ref (ad 17)), (1, .ref (ad i))] []
  refine V_aload_n f dX2_readClosing_0 0 rfl ?_
  refine V_cVp (As := []) (rest := []) f dX2_readClosing_1 lk_X2_45 ml_X2_45 ins_X2_takeNumber sel_X2_takeNumber zb_17 (by decide) rfl (c4_X2_takeNumber _ _ _ _ ad M T N p hC (((KQ_0 (i := i) hI)).1.1)) rfl (Nat.le_of_ble_eq_true rfl) rfl ⟨by decide, by decide⟩ ⟨Nat.zero_le _, Nat.zero_le _⟩ rfl rfl (fun v1 Mx1 hp1 => ?_)
  rcases hp1 with ⟨h1, rfl, hC1, hN1⟩ | ⟨h1, rfl, hC1, hN1⟩
  · show V K ad 0 0 ZB Mx1 4 [(0, .ref (ad 17)), (1, .ref (ad i))] [.int (txtv T N p)]
    refine V_istore_n f dX2_readClosing_4 rfl (by decide) rfl ?_
    refine V_iload_n f dX2_readClosing_5 0 rfl ?_
    refine V_iconst (v := (-1)) f dX2_readClosing_6 (by decide) ?_
    refine V_icmp_eq (tgt := 18) f dX2_readClosing_7 (by decide) (fun h => absurd h (txtv_n (List.mem_singleton.mp h1))) (fun _ => ?_)
    refine V_aload_n f dX2_readClosing_10 1 rfl ?_
    refine V_iconst (v := 4) f dX2_readClosing_11 (by decide) ?_
    refine V_cVp (As := [.int 4]) (rest := []) f dX2_readClosing_12 lk_X2_41 ml_X2_41 ins_X2_take sel_X2_take zb_17 (by decide) rfl (c4_X2_take _ _ _ _ ad Mx1 4 T N (txnx T N p) hC1 (((KQ_CN hz (KQ_0 (i := i) hI) hN1)).1.1) (by decide)) rfl (Nat.le_of_ble_eq_true rfl) rfl ⟨by decide, by decide⟩ ⟨Nat.zero_le _, Nat.zero_le _⟩ rfl rfl (fun v2 Mx2 hp2 => ?_)
    rcases hp2 with ⟨h2, rfl, hC2, hN2⟩ | ⟨h2, rfl, hC2, hN2⟩
    · show V K ad 0 0 ZB Mx2 15 [(2, .int (txtv T N p)), (0, .ref (ad 17)), (1, .ref (ad i))] [.int 1]
      refine V_if_ne (tgt := 20) f dX2_readClosing_15 (by decide) (fun _ => ?_) (fun h => absurd h (by decide))
      refine V_aload_n f dX2_readClosing_20 1 rfl ?_
      refine V_cVp (As := []) (rest := []) f dX2_readClosing_21 lk_X2_45 ml_X2_45 ins_X2_takeNumber sel_X2_takeNumber zb_17 (by decide) rfl (c4_X2_takeNumber _ _ _ _ ad Mx2 T N (txnx T N (txnx T N p)) hC2 (((KQ_CN hz (KQ_CN hz (KQ_0 (i := i) hI) hN1) hN2)).1.1)) rfl (Nat.le_of_ble_eq_true rfl) rfl ⟨by decide, by decide⟩ ⟨Nat.zero_le _, Nat.zero_le _⟩ rfl rfl (fun v3 Mx3 hp3 => ?_)
      rcases hp3 with ⟨h3, rfl, hC3, hN3⟩ | ⟨h3, rfl, hC3, hN3⟩
      · show V K ad 0 0 ZB Mx3 24 [(2, .int (txtv T N p)), (0, .ref (ad 17)), (1, .ref (ad i))] [.int (txtv T N (txnx T N (txnx T N p)))]
        refine V_istore_n f dX2_readClosing_24 rfl (by decide) rfl ?_
        refine V_iload_n f dX2_readClosing_25 0 rfl ?_
        refine V_iconst (v := (-1)) f dX2_readClosing_26 (by decide) ?_
        refine V_icmp_eq (tgt := 38) f dX2_readClosing_27 (by decide) (fun h => absurd h (txtv_n (List.mem_singleton.mp h3))) (fun _ => ?_)
        refine V_aload_n f dX2_readClosing_30 2 rfl ?_
        refine V_iconst (v := 5) f dX2_readClosing_31 (by decide) ?_
        refine V_cVp (As := [.int 5]) (rest := []) f dX2_readClosing_32 lk_X2_41 ml_X2_41 ins_X2_take sel_X2_take zb_17 (by decide) rfl (c4_X2_take _ _ _ _ ad Mx3 5 T N (txnx T N (txnx T N (txnx T N p))) hC3 (((KQ_CN hz (KQ_CN hz (KQ_CN hz (KQ_0 (i := i) hI) hN1) hN2) hN3)).1.1) (by decide)) rfl (Nat.le_of_ble_eq_true rfl) rfl ⟨by decide, by decide⟩ ⟨Nat.zero_le _, Nat.zero_le _⟩ rfl rfl (fun v4 Mx4 hp4 => ?_)
        rcases hp4 with ⟨h4, rfl, hC4, hN4⟩ | ⟨h4, rfl, hC4, hN4⟩
        · show V K ad 0 0 ZB Mx4 35 [(3, .int (txtv T N (txnx T N (txnx T N p)))), (2, .int (txtv T N p)), (0, .ref (ad 17)), (1, .ref (ad i))] [.int 1]
          refine V_if_ne (tgt := 40) f dX2_readClosing_35 (by decide) (fun _ => ?_) (fun h => absurd h (by decide))
          refine V_aload_n f dX2_readClosing_40 2 rfl ?_
          refine V_cVp (As := []) (rest := []) f dX2_readClosing_41 lk_X2_45 ml_X2_45 ins_X2_takeNumber sel_X2_takeNumber zb_17 (by decide) rfl (c4_X2_takeNumber _ _ _ _ ad Mx4 T N (txnx T N (txnx T N (txnx T N (txnx T N p)))) hC4 (((KQ_CN hz (KQ_CN hz (KQ_CN hz (KQ_CN hz (KQ_0 (i := i) hI) hN1) hN2) hN3) hN4)).1.1)) rfl (Nat.le_of_ble_eq_true rfl) rfl ⟨by decide, by decide⟩ ⟨Nat.zero_le _, Nat.zero_le _⟩ rfl rfl (fun v5 Mx5 hp5 => ?_)
          rcases hp5 with ⟨h5, rfl, hC5, hN5⟩ | ⟨h5, rfl, hC5, hN5⟩
          · show V K ad 0 0 ZB Mx5 44 [(3, .int (txtv T N (txnx T N (txnx T N p)))), (2, .int (txtv T N p)), (0, .ref (ad 17)), (1, .ref (ad i))] [.int (txtv T N (txnx T N (txnx T N (txnx T N (txnx T N p)))))]
            refine V_istore f dX2_readClosing_44 (by decide) rfl ?_
            refine V_iload f dX2_readClosing_46 0 rfl ?_
            refine V_iconst (v := (-1)) f dX2_readClosing_48 (by decide) ?_
            refine V_icmp_eq (tgt := 60) f dX2_readClosing_49 (by decide) (fun h => absurd h (txtv_n (List.mem_singleton.mp h5))) (fun _ => ?_)
            refine V_aload_n f dX2_readClosing_52 3 rfl ?_
            refine V_iconst (v := 4) f dX2_readClosing_53 (by decide) ?_
            refine V_cVp (As := [.int 4]) (rest := []) f dX2_readClosing_54 lk_X2_41 ml_X2_41 ins_X2_take sel_X2_take zb_17 (by decide) rfl (c4_X2_take _ _ _ _ ad Mx5 4 T N (txnx T N (txnx T N (txnx T N (txnx T N (txnx T N p))))) hC5 (((KQ_CN hz (KQ_CN hz (KQ_CN hz (KQ_CN hz (KQ_CN hz (KQ_0 (i := i) hI) hN1) hN2) hN3) hN4) hN5)).1.1) (by decide)) rfl (Nat.le_of_ble_eq_true rfl) rfl ⟨by decide, by decide⟩ ⟨Nat.zero_le _, Nat.zero_le _⟩ rfl rfl (fun v6 Mx6 hp6 => ?_)
            rcases hp6 with ⟨h6, rfl, hC6, hN6⟩ | ⟨h6, rfl, hC6, hN6⟩
            · show V K ad 0 0 ZB Mx6 57 [(4, .int (txtv T N (txnx T N (txnx T N (txnx T N (txnx T N p)))))), (3, .int (txtv T N (txnx T N (txnx T N p)))), (2, .int (txtv T N p)), (0, .ref (ad 17)), (1, .ref (ad i))] [.int 1]
              refine V_if_ne (tgt := 62) f dX2_readClosing_57 (by decide) (fun _ => ?_) (fun h => absurd h (by decide))
              refine V_aload_n f dX2_readClosing_62 3 rfl ?_
              refine V_cVp (As := []) (rest := []) f dX2_readClosing_63 lk_X2_45 ml_X2_45 ins_X2_takeNumber sel_X2_takeNumber zb_17 (by decide) rfl (c4_X2_takeNumber _ _ _ _ ad Mx6 T N (txnx T N (txnx T N (txnx T N (txnx T N (txnx T N (txnx T N p)))))) hC6 (((KQ_CN hz (KQ_CN hz (KQ_CN hz (KQ_CN hz (KQ_CN hz (KQ_CN hz (KQ_0 (i := i) hI) hN1) hN2) hN3) hN4) hN5) hN6)).1.1)) rfl (Nat.le_of_ble_eq_true rfl) rfl ⟨by decide, by decide⟩ ⟨Nat.zero_le _, Nat.zero_le _⟩ rfl rfl (fun v7 Mx7 hp7 => ?_)
              rcases hp7 with ⟨h7, rfl, hC7, hN7⟩ | ⟨h7, rfl, hC7, hN7⟩
              · show V K ad 0 0 ZB Mx7 66 [(4, .int (txtv T N (txnx T N (txnx T N (txnx T N (txnx T N p)))))), (3, .int (txtv T N (txnx T N (txnx T N p)))), (2, .int (txtv T N p)), (0, .ref (ad 17)), (1, .ref (ad i))] [.int (txtv T N (txnx T N (txnx T N (txnx T N (txnx T N (txnx T N (txnx T N p)))))))]
                refine V_istore f dX2_readClosing_66 (by decide) rfl ?_
                refine V_iload f dX2_readClosing_68 0 rfl ?_
                refine V_iconst (v := (-1)) f dX2_readClosing_70 (by decide) ?_
                refine V_icmp_eq (tgt := 83) f dX2_readClosing_71 (by decide) (fun h => absurd h (txtv_n (List.mem_singleton.mp h7))) (fun _ => ?_)
                refine V_aload_n f dX2_readClosing_74 4 rfl ?_
                refine V_bipush (v := 59) f dX2_readClosing_75 (by decide) ?_
                refine V_cVp (As := [.int 59]) (rest := []) f dX2_readClosing_77 lk_X2_41 ml_X2_41 ins_X2_take sel_X2_take zb_17 (by decide) rfl (c4_X2_take _ _ _ _ ad Mx7 59 T N (txnx T N (txnx T N (txnx T N (txnx T N (txnx T N (txnx T N (txnx T N p))))))) hC7 (((KQ_CN hz (KQ_CN hz (KQ_CN hz (KQ_CN hz (KQ_CN hz (KQ_CN hz (KQ_CN hz (KQ_0 (i := i) hI) hN1) hN2) hN3) hN4) hN5) hN6) hN7)).1.1) (by decide)) rfl (Nat.le_of_ble_eq_true rfl) rfl ⟨by decide, by decide⟩ ⟨Nat.zero_le _, Nat.zero_le _⟩ rfl rfl (fun v8 Mx8 hp8 => ?_)
                rcases hp8 with ⟨h8, rfl, hC8, hN8⟩ | ⟨h8, rfl, hC8, hN8⟩
                · show V K ad 0 0 ZB Mx8 80 [(5, .int (txtv T N (txnx T N (txnx T N (txnx T N (txnx T N (txnx T N (txnx T N p)))))))), (4, .int (txtv T N (txnx T N (txnx T N (txnx T N (txnx T N p)))))), (3, .int (txtv T N (txnx T N (txnx T N p)))), (2, .int (txtv T N p)), (0, .ref (ad 17)), (1, .ref (ad i))] [.int 1]
                  refine V_if_ne (tgt := 85) f dX2_readClosing_80 (by decide) (fun _ => ?_) (fun h => absurd h (by decide))
                  refine V_aload_n f dX2_readClosing_85 5 rfl ?_
                  refine V_iload_n f dX2_readClosing_86 3 rfl ?_
                  refine V_iload_n f dX2_readClosing_87 2 rfl ?_
                  refine V_iload f dX2_readClosing_88 1 rfl ?_
                  refine V_iload f dX2_readClosing_90 0 rfl ?_
                  refine V_cVv (As := [.int (txtv T N p), .int (txtv T N (txnx T N (txnx T N p))), .int (txtv T N (txnx T N (txnx T N (txnx T N (txnx T N p))))), .int (txtv T N (txnx T N (txnx T N (txnx T N (txnx T N (txnx T N (txnx T N p)))))))]) (rest := []) f dX2_readClosing_92 lk_X2_61 ml_X2_61 ins_X1_addClosing sel_X1_addClosing (zL hz) (by decide) rfl (c_X1_addClosing (kl K) (kD K) (ky K) (kX K) ad Mx8 i (txtv T N p) (txtv T N (txnx T N (txnx T N p))) (txtv T N (txnx T N (txnx T N (txnx T N (txnx T N p))))) (txtv T N (txnx T N (txnx T N (txnx T N (txnx T N (txnx T N (txnx T N p))))))) hz (((KQ_CN hz (KQ_CN hz (KQ_CN hz (KQ_CN hz (KQ_CN hz (KQ_CN hz (KQ_CN hz (KQ_CN hz (KQ_0 (i := i) hI) hN1) hN2) hN3) hN4) hN5) hN6) hN7) hN8)).1.1.2.2.2.2 _ hz)) rfl (Nat.le_of_ble_eq_true rfl) rfl ⟨by decide, by decide⟩ ⟨Nat.zero_le _, Nat.zero_le _⟩ rfl rfl ?_
                  refine V_iconst (v := 1) f dX2_readClosing_95 (by decide) ?_
                  exact V_iret f q dX2_readClosing_96 rfl (Nat.zero_le _) (Nat.zero_le _) ⟨rfl, rfl, Or.inl ⟨(txnx T N (txnx T N (txnx T N (txnx T N (txnx T N (txnx T N (txnx T N (txnx T N p)))))))), (txsq_y h1).trans ((txsq_y h2).trans ((txsq_y h3).trans ((txsq_y h4).trans ((txsq_y h5).trans ((txsq_y h6).trans ((txsq_y h7).trans ((txsq_y h8).trans (rfl)))))))), rfl, (txC_w hz hC8 (fun j hj => ac_fr _ _ _ _ _ _ (by omega))), (KQ_cl hz (KQ_CN hz (KQ_CN hz (KQ_CN hz (KQ_CN hz (KQ_CN hz (KQ_CN hz (KQ_CN hz (KQ_CN hz (KQ_0 (i := i) hI) hN1) hN2) hN3) hN4) hN5) hN6) hN7) hN8) hl _ _ _ _)⟩⟩
                · show V K ad 0 0 ZB Mx8 80 [(5, .int (txtv T N (txnx T N (txnx T N (txnx T N (txnx T N (txnx T N (txnx T N p)))))))), (4, .int (txtv T N (txnx T N (txnx T N (txnx T N (txnx T N p)))))), (3, .int (txtv T N (txnx T N (txnx T N p)))), (2, .int (txtv T N p)), (0, .ref (ad 17)), (1, .ref (ad i))] [.int 0]
                  refine V_if_ne (tgt := 85) f dX2_readClosing_80 (by decide) (fun h => absurd (by decide) h) (fun _ => ?_)
                  refine V_iconst (v := 0) f dX2_readClosing_83 (by decide) ?_
                  exact V_iret f q dX2_readClosing_84 rfl (Nat.zero_le _) (Nat.zero_le _) ⟨rfl, rfl, Or.inr ⟨(txnx T N (txnx T N (txnx T N (txnx T N (txnx T N (txnx T N (txnx T N p))))))), (txsq_y h1).trans ((txsq_y h2).trans ((txsq_y h3).trans ((txsq_y h4).trans ((txsq_y h5).trans ((txsq_y h6).trans ((txsq_y h7).trans (txsq_n h8))))))), rfl, hC8, ((KQ_CN hz (KQ_CN hz (KQ_CN hz (KQ_CN hz (KQ_CN hz (KQ_CN hz (KQ_CN hz (KQ_CN hz (KQ_0 (i := i) hI) hN1) hN2) hN3) hN4) hN5) hN6) hN7) hN8)).1⟩⟩
              · show V K ad 0 0 ZB Mx7 66 [(4, .int (txtv T N (txnx T N (txnx T N (txnx T N (txnx T N p)))))), (3, .int (txtv T N (txnx T N (txnx T N p)))), (2, .int (txtv T N p)), (0, .ref (ad 17)), (1, .ref (ad i))] [.int (-1)]
                refine V_istore f dX2_readClosing_66 (by decide) rfl ?_
                refine V_iload f dX2_readClosing_68 0 rfl ?_
                refine V_iconst (v := (-1)) f dX2_readClosing_70 (by decide) ?_
                refine V_icmp_eq (tgt := 83) f dX2_readClosing_71 (by decide) (fun _ => ?_) (fun h => absurd (by decide) h)
                refine V_iconst (v := 0) f dX2_readClosing_83 (by decide) ?_
                exact V_iret f q dX2_readClosing_84 rfl (Nat.zero_le _) (Nat.zero_le _) ⟨rfl, rfl, Or.inr ⟨(txnx T N (txnx T N (txnx T N (txnx T N (txnx T N (txnx T N p)))))), (txsq_y h1).trans ((txsq_y h2).trans ((txsq_y h3).trans ((txsq_y h4).trans ((txsq_y h5).trans ((txsq_y h6).trans (txsq_n h7)))))), rfl, hC7, ((KQ_CN hz (KQ_CN hz (KQ_CN hz (KQ_CN hz (KQ_CN hz (KQ_CN hz (KQ_CN hz (KQ_0 (i := i) hI) hN1) hN2) hN3) hN4) hN5) hN6) hN7)).1⟩⟩
            · show V K ad 0 0 ZB Mx6 57 [(4, .int (txtv T N (txnx T N (txnx T N (txnx T N (txnx T N p)))))), (3, .int (txtv T N (txnx T N (txnx T N p)))), (2, .int (txtv T N p)), (0, .ref (ad 17)), (1, .ref (ad i))] [.int 0]
              refine V_if_ne (tgt := 62) f dX2_readClosing_57 (by decide) (fun h => absurd (by decide) h) (fun _ => ?_)
              refine V_iconst (v := 0) f dX2_readClosing_60 (by decide) ?_
              exact V_iret f q dX2_readClosing_61 rfl (Nat.zero_le _) (Nat.zero_le _) ⟨rfl, rfl, Or.inr ⟨(txnx T N (txnx T N (txnx T N (txnx T N (txnx T N p))))), (txsq_y h1).trans ((txsq_y h2).trans ((txsq_y h3).trans ((txsq_y h4).trans ((txsq_y h5).trans (txsq_n h6))))), rfl, hC6, ((KQ_CN hz (KQ_CN hz (KQ_CN hz (KQ_CN hz (KQ_CN hz (KQ_CN hz (KQ_0 (i := i) hI) hN1) hN2) hN3) hN4) hN5) hN6)).1⟩⟩
          · show V K ad 0 0 ZB Mx5 44 [(3, .int (txtv T N (txnx T N (txnx T N p)))), (2, .int (txtv T N p)), (0, .ref (ad 17)), (1, .ref (ad i))] [.int (-1)]
            refine V_istore f dX2_readClosing_44 (by decide) rfl ?_
            refine V_iload f dX2_readClosing_46 0 rfl ?_
            refine V_iconst (v := (-1)) f dX2_readClosing_48 (by decide) ?_
            refine V_icmp_eq (tgt := 60) f dX2_readClosing_49 (by decide) (fun _ => ?_) (fun h => absurd (by decide) h)
            refine V_iconst (v := 0) f dX2_readClosing_60 (by decide) ?_
            exact V_iret f q dX2_readClosing_61 rfl (Nat.zero_le _) (Nat.zero_le _) ⟨rfl, rfl, Or.inr ⟨(txnx T N (txnx T N (txnx T N (txnx T N p)))), (txsq_y h1).trans ((txsq_y h2).trans ((txsq_y h3).trans ((txsq_y h4).trans (txsq_n h5)))), rfl, hC5, ((KQ_CN hz (KQ_CN hz (KQ_CN hz (KQ_CN hz (KQ_CN hz (KQ_0 (i := i) hI) hN1) hN2) hN3) hN4) hN5)).1⟩⟩
        · show V K ad 0 0 ZB Mx4 35 [(3, .int (txtv T N (txnx T N (txnx T N p)))), (2, .int (txtv T N p)), (0, .ref (ad 17)), (1, .ref (ad i))] [.int 0]
          refine V_if_ne (tgt := 40) f dX2_readClosing_35 (by decide) (fun h => absurd (by decide) h) (fun _ => ?_)
          refine V_iconst (v := 0) f dX2_readClosing_38 (by decide) ?_
          exact V_iret f q dX2_readClosing_39 rfl (Nat.zero_le _) (Nat.zero_le _) ⟨rfl, rfl, Or.inr ⟨(txnx T N (txnx T N (txnx T N p))), (txsq_y h1).trans ((txsq_y h2).trans ((txsq_y h3).trans (txsq_n h4))), rfl, hC4, ((KQ_CN hz (KQ_CN hz (KQ_CN hz (KQ_CN hz (KQ_0 (i := i) hI) hN1) hN2) hN3) hN4)).1⟩⟩
      · show V K ad 0 0 ZB Mx3 24 [(2, .int (txtv T N p)), (0, .ref (ad 17)), (1, .ref (ad i))] [.int (-1)]
        refine V_istore_n f dX2_readClosing_24 rfl (by decide) rfl ?_
        refine V_iload_n f dX2_readClosing_25 0 rfl ?_
        refine V_iconst (v := (-1)) f dX2_readClosing_26 (by decide) ?_
        refine V_icmp_eq (tgt := 38) f dX2_readClosing_27 (by decide) (fun _ => ?_) (fun h => absurd (by decide) h)
        refine V_iconst (v := 0) f dX2_readClosing_38 (by decide) ?_
        exact V_iret f q dX2_readClosing_39 rfl (Nat.zero_le _) (Nat.zero_le _) ⟨rfl, rfl, Or.inr ⟨(txnx T N (txnx T N p)), (txsq_y h1).trans ((txsq_y h2).trans (txsq_n h3)), rfl, hC3, ((KQ_CN hz (KQ_CN hz (KQ_CN hz (KQ_0 (i := i) hI) hN1) hN2) hN3)).1⟩⟩
    · show V K ad 0 0 ZB Mx2 15 [(2, .int (txtv T N p)), (0, .ref (ad 17)), (1, .ref (ad i))] [.int 0]
      refine V_if_ne (tgt := 20) f dX2_readClosing_15 (by decide) (fun h => absurd (by decide) h) (fun _ => ?_)
      refine V_iconst (v := 0) f dX2_readClosing_18 (by decide) ?_
      exact V_iret f q dX2_readClosing_19 rfl (Nat.zero_le _) (Nat.zero_le _) ⟨rfl, rfl, Or.inr ⟨(txnx T N p), (txsq_y h1).trans (txsq_n h2), rfl, hC2, ((KQ_CN hz (KQ_CN hz (KQ_0 (i := i) hI) hN1) hN2)).1⟩⟩
  · show V K ad 0 0 ZB Mx1 4 [(0, .ref (ad 17)), (1, .ref (ad i))] [.int (-1)]
    refine V_istore_n f dX2_readClosing_4 rfl (by decide) rfl ?_
    refine V_iload_n f dX2_readClosing_5 0 rfl ?_
    refine V_iconst (v := (-1)) f dX2_readClosing_6 (by decide) ?_
    refine V_icmp_eq (tgt := 18) f dX2_readClosing_7 (by decide) (fun _ => ?_) (fun h => absurd (by decide) h)
    refine V_iconst (v := 0) f dX2_readClosing_18 (by decide) ?_
    exact V_iret f q dX2_readClosing_19 rfl (Nat.zero_le _) (Nat.zero_le _) ⟨rfl, rfl, Or.inr ⟨p, txsq_n h1, rfl, hC1, ((KQ_CN hz (KQ_0 (i := i) hI) hN1)).1⟩⟩
set_option maxHeartbeats 4000000 in
set_option maxRecDepth 100000 in
theorem c4_X2_readRule (l : Launch) (D : va_G) (cy : Nat → ClassId) (X : va_W) (ad : Nat → Nat) (M : MT) (i : Nat) (hz : LawZ i) (T : Nat → Int32) (N p : Nat) (hC : txC T N M p) (hI : InvB M) : CtP l yX2_readRule cX2_readRule 4 (some .boolean) (rK 3) D cy X ad ZB M [.ref (ad 17), .ref (ad i)] (fun v M1 => (∃ q, txrl T N (txED ++ [[59]]) 3 p = (true, q) ∧ v = some (.int 1) ∧ txC T N M1 q ∧ CR i M M1) ∨ (∃ q, txrl T N (txED ++ [[59]]) 3 p = (false, q) ∧ v = some (.int 0) ∧ txC T N M1 q ∧ CR i M M1)) := by
  refine Ctr.of (by decide +kernel) (Nat.le_of_ble_eq_true rfl) ?_
  intro K f q hnm hl0 hD0 hy0 hX0
  show V K ad 0 0 ZB M 0 [(0, .ref (ad 17)), (1, .ref (ad i))] []
  refine V_iconst (v := 0) f dX2_readRule_0 (by decide) ?_
  refine V_istore_n f dX2_readRule_1 rfl (by decide) rfl ?_
  refine V_iload_n f dX2_readRule_2 0 rfl ?_
  refine V_iconst (v := 3) f dX2_readRule_3 (by decide) ?_
  refine V_icmp_ge (tgt := 16) f dX2_readRule_4 (by decide) (fun h => absurd h (by decide)) (fun _ => ?_)
  refine V_aload_n f dX2_readRule_7 1 rfl ?_
  refine V_aload_n f dX2_readRule_8 2 rfl ?_
  refine V_iload_n f dX2_readRule_9 0 rfl ?_
  refine V_cVp (As := [.ref (ad i), .int 0]) (rest := []) f dX2_readRule_10 lk_X2_65 ml_X2_65 ins_X2_readTest sel_X2_readTest zb_17 (by decide) rfl (c4_X2_readTest _ _ _ _ ad M i 0 hz T N p hC (((CR_refl (i := i) hI)).1)) rfl (Nat.le_of_ble_eq_true rfl) rfl ⟨by decide, by decide⟩ ⟨Nat.zero_le _, Nat.zero_le _⟩ rfl rfl (fun v1 Mx1 hp1 => ?_)
  rcases hp1 with ⟨q1, hq1, rfl, hC1, hR1⟩ | ⟨q1, hq1, rfl, hC1, hR1⟩
  · show V K ad 0 0 ZB Mx1 13 [(2, .int 0), (0, .ref (ad 17)), (1, .ref (ad i))] [.int 1]
    refine V_if_ne (tgt := 18) f dX2_readRule_13 (by decide) (fun _ => ?_) (fun h => absurd h (by decide))
    refine V_iinc (v := 1) f dX2_readRule_18 0 rfl (by decide) (by decide) rfl ?_
    refine V_aload_n f dX2_readRule_21 1 rfl ?_
    refine V_bipush (v := 7) f dX2_readRule_22 (by decide) ?_
    refine V_cVp (As := [.int 7]) (rest := []) f dX2_readRule_24 lk_X2_41 ml_X2_41 ins_X2_take sel_X2_take zb_17 (by decide) rfl (c4_X2_take _ _ _ _ ad Mx1 7 T N q1 hC1 (((CR_trans (CR_refl (i := i) hI) hR1)).1) (by decide)) rfl (Nat.le_of_ble_eq_true rfl) rfl ⟨by decide, by decide⟩ ⟨Nat.zero_le _, Nat.zero_le _⟩ rfl rfl (fun v2 Mx2 hp2 => ?_)
    rcases hp2 with ⟨h2, rfl, hC2, hN2⟩ | ⟨h2, rfl, hC2, hN2⟩
    · show V K ad 0 0 ZB Mx2 27 [(2, .int 1), (0, .ref (ad 17)), (1, .ref (ad i))] [.int 1]
      refine V_if_ne (tgt := 2) f dX2_readRule_27 (by decide) (fun _ => ?_) (fun h => absurd h (by decide))
      refine V_iload_n f dX2_readRule_2 0 rfl ?_
      refine V_iconst (v := 3) f dX2_readRule_3 (by decide) ?_
      refine V_icmp_ge (tgt := 16) f dX2_readRule_4 (by decide) (fun h => absurd h (by decide)) (fun _ => ?_)
      refine V_aload_n f dX2_readRule_7 1 rfl ?_
      refine V_aload_n f dX2_readRule_8 2 rfl ?_
      refine V_iload_n f dX2_readRule_9 0 rfl ?_
      refine V_cVp (As := [.ref (ad i), .int 1]) (rest := []) f dX2_readRule_10 lk_X2_65 ml_X2_65 ins_X2_readTest sel_X2_readTest zb_17 (by decide) rfl (c4_X2_readTest _ _ _ _ ad Mx2 i 1 hz T N (txnx T N q1) hC2 (((CR_CN hz (CR_trans (CR_refl (i := i) hI) hR1) hN2)).1)) rfl (Nat.le_of_ble_eq_true rfl) rfl ⟨by decide, by decide⟩ ⟨Nat.zero_le _, Nat.zero_le _⟩ rfl rfl (fun v3 Mx3 hp3 => ?_)
      rcases hp3 with ⟨q3, hq3, rfl, hC3, hR3⟩ | ⟨q3, hq3, rfl, hC3, hR3⟩
      · show V K ad 0 0 ZB Mx3 13 [(2, .int 1), (0, .ref (ad 17)), (1, .ref (ad i))] [.int 1]
        refine V_if_ne (tgt := 18) f dX2_readRule_13 (by decide) (fun _ => ?_) (fun h => absurd h (by decide))
        refine V_iinc (v := 2) f dX2_readRule_18 0 rfl (by decide) (by decide) rfl ?_
        refine V_aload_n f dX2_readRule_21 1 rfl ?_
        refine V_bipush (v := 7) f dX2_readRule_22 (by decide) ?_
        refine V_cVp (As := [.int 7]) (rest := []) f dX2_readRule_24 lk_X2_41 ml_X2_41 ins_X2_take sel_X2_take zb_17 (by decide) rfl (c4_X2_take _ _ _ _ ad Mx3 7 T N q3 hC3 (((CR_trans (CR_CN hz (CR_trans (CR_refl (i := i) hI) hR1) hN2) hR3)).1) (by decide)) rfl (Nat.le_of_ble_eq_true rfl) rfl ⟨by decide, by decide⟩ ⟨Nat.zero_le _, Nat.zero_le _⟩ rfl rfl (fun v4 Mx4 hp4 => ?_)
        rcases hp4 with ⟨h4, rfl, hC4, hN4⟩ | ⟨h4, rfl, hC4, hN4⟩
        · show V K ad 0 0 ZB Mx4 27 [(2, .int 2), (0, .ref (ad 17)), (1, .ref (ad i))] [.int 1]
          refine V_if_ne (tgt := 2) f dX2_readRule_27 (by decide) (fun _ => ?_) (fun h => absurd h (by decide))
          refine V_iload_n f dX2_readRule_2 0 rfl ?_
          refine V_iconst (v := 3) f dX2_readRule_3 (by decide) ?_
          refine V_icmp_ge (tgt := 16) f dX2_readRule_4 (by decide) (fun h => absurd h (by decide)) (fun _ => ?_)
          refine V_aload_n f dX2_readRule_7 1 rfl ?_
          refine V_aload_n f dX2_readRule_8 2 rfl ?_
          refine V_iload_n f dX2_readRule_9 0 rfl ?_
          refine V_cVp (As := [.ref (ad i), .int 2]) (rest := []) f dX2_readRule_10 lk_X2_65 ml_X2_65 ins_X2_readTest sel_X2_readTest zb_17 (by decide) rfl (c4_X2_readTest _ _ _ _ ad Mx4 i 2 hz T N (txnx T N q3) hC4 (((CR_CN hz (CR_trans (CR_CN hz (CR_trans (CR_refl (i := i) hI) hR1) hN2) hR3) hN4)).1)) rfl (Nat.le_of_ble_eq_true rfl) rfl ⟨by decide, by decide⟩ ⟨Nat.zero_le _, Nat.zero_le _⟩ rfl rfl (fun v5 Mx5 hp5 => ?_)
          rcases hp5 with ⟨q5, hq5, rfl, hC5, hR5⟩ | ⟨q5, hq5, rfl, hC5, hR5⟩
          · show V K ad 0 0 ZB Mx5 13 [(2, .int 2), (0, .ref (ad 17)), (1, .ref (ad i))] [.int 1]
            refine V_if_ne (tgt := 18) f dX2_readRule_13 (by decide) (fun _ => ?_) (fun h => absurd h (by decide))
            refine V_iinc (v := 3) f dX2_readRule_18 0 rfl (by decide) (by decide) rfl ?_
            refine V_aload_n f dX2_readRule_21 1 rfl ?_
            refine V_bipush (v := 7) f dX2_readRule_22 (by decide) ?_
            refine V_cVp (As := [.int 7]) (rest := []) f dX2_readRule_24 lk_X2_41 ml_X2_41 ins_X2_take sel_X2_take zb_17 (by decide) rfl (c4_X2_take _ _ _ _ ad Mx5 7 T N q5 hC5 (((CR_trans (CR_CN hz (CR_trans (CR_CN hz (CR_trans (CR_refl (i := i) hI) hR1) hN2) hR3) hN4) hR5)).1) (by decide)) rfl (Nat.le_of_ble_eq_true rfl) rfl ⟨by decide, by decide⟩ ⟨Nat.zero_le _, Nat.zero_le _⟩ rfl rfl (fun v6 Mx6 hp6 => ?_)
            rcases hp6 with ⟨h6, rfl, hC6, hN6⟩ | ⟨h6, rfl, hC6, hN6⟩
            · show V K ad 0 0 ZB Mx6 27 [(2, .int 3), (0, .ref (ad 17)), (1, .ref (ad i))] [.int 1]
              refine V_if_ne (tgt := 2) f dX2_readRule_27 (by decide) (fun _ => ?_) (fun h => absurd h (by decide))
              refine V_iload_n f dX2_readRule_2 0 rfl ?_
              refine V_iconst (v := 3) f dX2_readRule_3 (by decide) ?_
              refine V_icmp_ge (tgt := 16) f dX2_readRule_4 (by decide) (fun _ => ?_) (fun h => absurd (by decide) h)
              refine V_iconst (v := 0) f dX2_readRule_16 (by decide) ?_
              exact V_iret f q dX2_readRule_17 rfl (Nat.zero_le _) (Nat.zero_le _) ⟨rfl, rfl, Or.inr ⟨(txnx T N q5), (txrl_a hq1 h2).trans ((txrl_a hq3 h4).trans ((txrl_a hq5 h6).trans (rfl))), rfl, hC6, (CR_CN hz (CR_trans (CR_CN hz (CR_trans (CR_CN hz (CR_trans (CR_refl (i := i) hI) hR1) hN2) hR3) hN4) hR5) hN6)⟩⟩
            · show V K ad 0 0 ZB Mx6 27 [(2, .int 3), (0, .ref (ad 17)), (1, .ref (ad i))] [.int 0]
              refine V_if_ne (tgt := 2) f dX2_readRule_27 (by decide) (fun h => absurd (by decide) h) (fun _ => ?_)
              refine V_aload_n f dX2_readRule_30 1 rfl ?_
              refine V_bipush (v := 8) f dX2_readRule_31 (by decide) ?_
              refine V_cVp (As := [.int 8]) (rest := []) f dX2_readRule_33 lk_X2_41 ml_X2_41 ins_X2_take sel_X2_take zb_17 (by decide) rfl (c4_X2_take _ _ _ _ ad Mx6 8 T N q5 hC6 (((CR_CN hz (CR_trans (CR_CN hz (CR_trans (CR_CN hz (CR_trans (CR_refl (i := i) hI) hR1) hN2) hR3) hN4) hR5) hN6)).1) (by decide)) rfl (Nat.le_of_ble_eq_true rfl) rfl ⟨by decide, by decide⟩ ⟨Nat.zero_le _, Nat.zero_le _⟩ rfl rfl (fun v7 Mx7 hp7 => ?_)
              rcases hp7 with ⟨h7, rfl, hC7, hN7⟩ | ⟨h7, rfl, hC7, hN7⟩
              · show V K ad 0 0 ZB Mx7 36 [(2, .int 3), (0, .ref (ad 17)), (1, .ref (ad i))] [.int 1]
                refine V_if_ne (tgt := 41) f dX2_readRule_36 (by decide) (fun _ => ?_) (fun h => absurd h (by decide))
                refine V_aload_n f dX2_readRule_41 1 rfl ?_
                refine V_bipush (v := 9) f dX2_readRule_42 (by decide) ?_
                refine V_bipush (v := 10) f dX2_readRule_44 (by decide) ?_
                refine V_bipush (v := 11) f dX2_readRule_46 (by decide) ?_
                refine V_cVp (As := [.int 9, .int 10, .int 11]) (rest := []) f dX2_readRule_48 lk_X2_69 ml_X2_69 ins_X2_takeOneOf sel_X2_takeOneOf zb_17 (by decide) rfl (c4_X2_takeOneOf _ _ _ _ ad Mx7 9 10 11 T N (txnx T N q5) hC7 (((CR_CN hz (CR_CN hz (CR_trans (CR_CN hz (CR_trans (CR_CN hz (CR_trans (CR_refl (i := i) hI) hR1) hN2) hR3) hN4) hR5) hN6) hN7)).1) (by decide)) rfl (Nat.le_of_ble_eq_true rfl) rfl ⟨by decide, by decide⟩ ⟨Nat.zero_le _, Nat.zero_le _⟩ rfl rfl (fun v8 Mx8 hp8 => ?_)
                rcases hp8 with ⟨h8, rfl, hC8, hN8⟩ | ⟨h8, rfl, hC8, hN8⟩
                · show V K ad 0 0 ZB Mx8 51 [(2, .int 3), (0, .ref (ad 17)), (1, .ref (ad i))] [.int (txtc T N (txnx T N q5))]
                  refine V_istore_n f dX2_readRule_51 rfl (by decide) rfl ?_
                  refine V_iload_n f dX2_readRule_52 0 rfl ?_
                  refine V_iconst (v := (-1)) f dX2_readRule_53 (by decide) ?_
                  refine V_icmp_eq (tgt := 66) f dX2_readRule_54 (by decide) (fun h => absurd h (txne h8 (by decide))) (fun _ => ?_)
                  refine V_aload_n f dX2_readRule_57 2 rfl ?_
                  refine V_bipush (v := 59) f dX2_readRule_58 (by decide) ?_
                  refine V_cVp (As := [.int 59]) (rest := []) f dX2_readRule_60 lk_X2_41 ml_X2_41 ins_X2_take sel_X2_take zb_17 (by decide) rfl (c4_X2_take _ _ _ _ ad Mx8 59 T N (txnx T N (txnx T N q5)) hC8 (((CR_CN hz (CR_CN hz (CR_CN hz (CR_trans (CR_CN hz (CR_trans (CR_CN hz (CR_trans (CR_refl (i := i) hI) hR1) hN2) hR3) hN4) hR5) hN6) hN7) hN8)).1) (by decide)) rfl (Nat.le_of_ble_eq_true rfl) rfl ⟨by decide, by decide⟩ ⟨Nat.zero_le _, Nat.zero_le _⟩ rfl rfl (fun v9 Mx9 hp9 => ?_)
                  rcases hp9 with ⟨h9, rfl, hC9, hN9⟩ | ⟨h9, rfl, hC9, hN9⟩
                  · show V K ad 0 0 ZB Mx9 63 [(3, .int (txtc T N (txnx T N q5))), (2, .int 3), (0, .ref (ad 17)), (1, .ref (ad i))] [.int 1]
                    refine V_if_ne (tgt := 68) f dX2_readRule_63 (by decide) (fun _ => ?_) (fun h => absurd h (by decide))
                    refine V_aload_n f dX2_readRule_68 3 rfl ?_
                    refine V_iload_n f dX2_readRule_69 1 rfl ?_
                    refine V_iload_n f dX2_readRule_70 0 rfl ?_
                    refine V_cVv (As := [.int 3, .int (txtc T N (txnx T N q5))]) (rest := []) f dX2_readRule_71 lk_X2_73 ml_X2_73 ins_X1_addRule sel_X1_addRule (zL hz) (by decide) rfl (c_X1_addRule (kl K) (kD K) (ky K) (kX K) ad Mx9 i 3 (txtc T N (txnx T N q5)) hz (((CR_CN hz (CR_CN hz (CR_CN hz (CR_CN hz (CR_trans (CR_CN hz (CR_trans (CR_CN hz (CR_trans (CR_refl (i := i) hI) hR1) hN2) hR3) hN4) hR5) hN6) hN7) hN8) hN9)).1.2.2.2.2 _ hz)) rfl (Nat.le_of_ble_eq_true rfl) rfl ⟨by decide, by decide⟩ ⟨Nat.zero_le _, Nat.zero_le _⟩ rfl rfl ?_
                    refine V_iconst (v := 1) f dX2_readRule_74 (by decide) ?_
                    exact V_iret f q dX2_readRule_75 rfl (Nat.zero_le _) (Nat.zero_le _) ⟨rfl, rfl, Or.inl ⟨(txnx T N (txnx T N (txnx T N q5))), (txrl_a hq1 h2).trans ((txrl_a hq3 h4).trans ((txrl_e hq5 h6).trans ((txsq_y h7).trans ((txsq_y h8).trans ((txsq_y h9).trans (rfl)))))), rfl, (txC_w hz hC9 (fun j hj => ar_fr _ _ _ _ (by omega))), (CR_ar hz (CR_CN hz (CR_CN hz (CR_CN hz (CR_CN hz (CR_trans (CR_CN hz (CR_trans (CR_CN hz (CR_trans (CR_refl (i := i) hI) hR1) hN2) hR3) hN4) hR5) hN6) hN7) hN8) hN9) _ _)⟩⟩
                  · show V K ad 0 0 ZB Mx9 63 [(3, .int (txtc T N (txnx T N q5))), (2, .int 3), (0, .ref (ad 17)), (1, .ref (ad i))] [.int 0]
                    refine V_if_ne (tgt := 68) f dX2_readRule_63 (by decide) (fun h => absurd (by decide) h) (fun _ => ?_)
                    refine V_iconst (v := 0) f dX2_readRule_66 (by decide) ?_
                    exact V_iret f q dX2_readRule_67 rfl (Nat.zero_le _) (Nat.zero_le _) ⟨rfl, rfl, Or.inr ⟨(txnx T N (txnx T N q5)), (txrl_a hq1 h2).trans ((txrl_a hq3 h4).trans ((txrl_e hq5 h6).trans ((txsq_y h7).trans ((txsq_y h8).trans (txsq_n h9))))), rfl, hC9, (CR_CN hz (CR_CN hz (CR_CN hz (CR_CN hz (CR_trans (CR_CN hz (CR_trans (CR_CN hz (CR_trans (CR_refl (i := i) hI) hR1) hN2) hR3) hN4) hR5) hN6) hN7) hN8) hN9)⟩⟩
                · show V K ad 0 0 ZB Mx8 51 [(2, .int 3), (0, .ref (ad 17)), (1, .ref (ad i))] [.int (-1)]
                  refine V_istore_n f dX2_readRule_51 rfl (by decide) rfl ?_
                  refine V_iload_n f dX2_readRule_52 0 rfl ?_
                  refine V_iconst (v := (-1)) f dX2_readRule_53 (by decide) ?_
                  refine V_icmp_eq (tgt := 66) f dX2_readRule_54 (by decide) (fun _ => ?_) (fun h => absurd (by decide) h)
                  refine V_iconst (v := 0) f dX2_readRule_66 (by decide) ?_
                  exact V_iret f q dX2_readRule_67 rfl (Nat.zero_le _) (Nat.zero_le _) ⟨rfl, rfl, Or.inr ⟨(txnx T N q5), (txrl_a hq1 h2).trans ((txrl_a hq3 h4).trans ((txrl_e hq5 h6).trans ((txsq_y h7).trans (txsq_n h8)))), rfl, hC8, (CR_CN hz (CR_CN hz (CR_CN hz (CR_trans (CR_CN hz (CR_trans (CR_CN hz (CR_trans (CR_refl (i := i) hI) hR1) hN2) hR3) hN4) hR5) hN6) hN7) hN8)⟩⟩
              · show V K ad 0 0 ZB Mx7 36 [(2, .int 3), (0, .ref (ad 17)), (1, .ref (ad i))] [.int 0]
                refine V_if_ne (tgt := 41) f dX2_readRule_36 (by decide) (fun h => absurd (by decide) h) (fun _ => ?_)
                refine V_iconst (v := 0) f dX2_readRule_39 (by decide) ?_
                exact V_iret f q dX2_readRule_40 rfl (Nat.zero_le _) (Nat.zero_le _) ⟨rfl, rfl, Or.inr ⟨q5, (txrl_a hq1 h2).trans ((txrl_a hq3 h4).trans ((txrl_e hq5 h6).trans (txsq_n h7))), rfl, hC7, (CR_CN hz (CR_CN hz (CR_trans (CR_CN hz (CR_trans (CR_CN hz (CR_trans (CR_refl (i := i) hI) hR1) hN2) hR3) hN4) hR5) hN6) hN7)⟩⟩
          · show V K ad 0 0 ZB Mx5 13 [(2, .int 2), (0, .ref (ad 17)), (1, .ref (ad i))] [.int 0]
            refine V_if_ne (tgt := 18) f dX2_readRule_13 (by decide) (fun h => absurd (by decide) h) (fun _ => ?_)
            refine V_iconst (v := 0) f dX2_readRule_16 (by decide) ?_
            exact V_iret f q dX2_readRule_17 rfl (Nat.zero_le _) (Nat.zero_le _) ⟨rfl, rfl, Or.inr ⟨q5, (txrl_a hq1 h2).trans ((txrl_a hq3 h4).trans (txrl_n hq5)), rfl, hC5, (CR_trans (CR_CN hz (CR_trans (CR_CN hz (CR_trans (CR_refl (i := i) hI) hR1) hN2) hR3) hN4) hR5)⟩⟩
        · show V K ad 0 0 ZB Mx4 27 [(2, .int 2), (0, .ref (ad 17)), (1, .ref (ad i))] [.int 0]
          refine V_if_ne (tgt := 2) f dX2_readRule_27 (by decide) (fun h => absurd (by decide) h) (fun _ => ?_)
          refine V_aload_n f dX2_readRule_30 1 rfl ?_
          refine V_bipush (v := 8) f dX2_readRule_31 (by decide) ?_
          refine V_cVp (As := [.int 8]) (rest := []) f dX2_readRule_33 lk_X2_41 ml_X2_41 ins_X2_take sel_X2_take zb_17 (by decide) rfl (c4_X2_take _ _ _ _ ad Mx4 8 T N q3 hC4 (((CR_CN hz (CR_trans (CR_CN hz (CR_trans (CR_refl (i := i) hI) hR1) hN2) hR3) hN4)).1) (by decide)) rfl (Nat.le_of_ble_eq_true rfl) rfl ⟨by decide, by decide⟩ ⟨Nat.zero_le _, Nat.zero_le _⟩ rfl rfl (fun v10 Mx10 hp10 => ?_)
          rcases hp10 with ⟨h10, rfl, hC10, hN10⟩ | ⟨h10, rfl, hC10, hN10⟩
          · show V K ad 0 0 ZB Mx10 36 [(2, .int 2), (0, .ref (ad 17)), (1, .ref (ad i))] [.int 1]
            refine V_if_ne (tgt := 41) f dX2_readRule_36 (by decide) (fun _ => ?_) (fun h => absurd h (by decide))
            refine V_aload_n f dX2_readRule_41 1 rfl ?_
            refine V_bipush (v := 9) f dX2_readRule_42 (by decide) ?_
            refine V_bipush (v := 10) f dX2_readRule_44 (by decide) ?_
            refine V_bipush (v := 11) f dX2_readRule_46 (by decide) ?_
            refine V_cVp (As := [.int 9, .int 10, .int 11]) (rest := []) f dX2_readRule_48 lk_X2_69 ml_X2_69 ins_X2_takeOneOf sel_X2_takeOneOf zb_17 (by decide) rfl (c4_X2_takeOneOf _ _ _ _ ad Mx10 9 10 11 T N (txnx T N q3) hC10 (((CR_CN hz (CR_CN hz (CR_trans (CR_CN hz (CR_trans (CR_refl (i := i) hI) hR1) hN2) hR3) hN4) hN10)).1) (by decide)) rfl (Nat.le_of_ble_eq_true rfl) rfl ⟨by decide, by decide⟩ ⟨Nat.zero_le _, Nat.zero_le _⟩ rfl rfl (fun v11 Mx11 hp11 => ?_)
            rcases hp11 with ⟨h11, rfl, hC11, hN11⟩ | ⟨h11, rfl, hC11, hN11⟩
            · show V K ad 0 0 ZB Mx11 51 [(2, .int 2), (0, .ref (ad 17)), (1, .ref (ad i))] [.int (txtc T N (txnx T N q3))]
              refine V_istore_n f dX2_readRule_51 rfl (by decide) rfl ?_
              refine V_iload_n f dX2_readRule_52 0 rfl ?_
              refine V_iconst (v := (-1)) f dX2_readRule_53 (by decide) ?_
              refine V_icmp_eq (tgt := 66) f dX2_readRule_54 (by decide) (fun h => absurd h (txne h11 (by decide))) (fun _ => ?_)
              refine V_aload_n f dX2_readRule_57 2 rfl ?_
              refine V_bipush (v := 59) f dX2_readRule_58 (by decide) ?_
              refine V_cVp (As := [.int 59]) (rest := []) f dX2_readRule_60 lk_X2_41 ml_X2_41 ins_X2_take sel_X2_take zb_17 (by decide) rfl (c4_X2_take _ _ _ _ ad Mx11 59 T N (txnx T N (txnx T N q3)) hC11 (((CR_CN hz (CR_CN hz (CR_CN hz (CR_trans (CR_CN hz (CR_trans (CR_refl (i := i) hI) hR1) hN2) hR3) hN4) hN10) hN11)).1) (by decide)) rfl (Nat.le_of_ble_eq_true rfl) rfl ⟨by decide, by decide⟩ ⟨Nat.zero_le _, Nat.zero_le _⟩ rfl rfl (fun v12 Mx12 hp12 => ?_)
              rcases hp12 with ⟨h12, rfl, hC12, hN12⟩ | ⟨h12, rfl, hC12, hN12⟩
              · show V K ad 0 0 ZB Mx12 63 [(3, .int (txtc T N (txnx T N q3))), (2, .int 2), (0, .ref (ad 17)), (1, .ref (ad i))] [.int 1]
                refine V_if_ne (tgt := 68) f dX2_readRule_63 (by decide) (fun _ => ?_) (fun h => absurd h (by decide))
                refine V_aload_n f dX2_readRule_68 3 rfl ?_
                refine V_iload_n f dX2_readRule_69 1 rfl ?_
                refine V_iload_n f dX2_readRule_70 0 rfl ?_
                refine V_cVv (As := [.int 2, .int (txtc T N (txnx T N q3))]) (rest := []) f dX2_readRule_71 lk_X2_73 ml_X2_73 ins_X1_addRule sel_X1_addRule (zL hz) (by decide) rfl (c_X1_addRule (kl K) (kD K) (ky K) (kX K) ad Mx12 i 2 (txtc T N (txnx T N q3)) hz (((CR_CN hz (CR_CN hz (CR_CN hz (CR_CN hz (CR_trans (CR_CN hz (CR_trans (CR_refl (i := i) hI) hR1) hN2) hR3) hN4) hN10) hN11) hN12)).1.2.2.2.2 _ hz)) rfl (Nat.le_of_ble_eq_true rfl) rfl ⟨by decide, by decide⟩ ⟨Nat.zero_le _, Nat.zero_le _⟩ rfl rfl ?_
                refine V_iconst (v := 1) f dX2_readRule_74 (by decide) ?_
                exact V_iret f q dX2_readRule_75 rfl (Nat.zero_le _) (Nat.zero_le _) ⟨rfl, rfl, Or.inl ⟨(txnx T N (txnx T N (txnx T N q3))), (txrl_a hq1 h2).trans ((txrl_e hq3 h4).trans ((txsq_y h10).trans ((txsq_y h11).trans ((txsq_y h12).trans (rfl))))), rfl, (txC_w hz hC12 (fun j hj => ar_fr _ _ _ _ (by omega))), (CR_ar hz (CR_CN hz (CR_CN hz (CR_CN hz (CR_CN hz (CR_trans (CR_CN hz (CR_trans (CR_refl (i := i) hI) hR1) hN2) hR3) hN4) hN10) hN11) hN12) _ _)⟩⟩
              · show V K ad 0 0 ZB Mx12 63 [(3, .int (txtc T N (txnx T N q3))), (2, .int 2), (0, .ref (ad 17)), (1, .ref (ad i))] [.int 0]
                refine V_if_ne (tgt := 68) f dX2_readRule_63 (by decide) (fun h => absurd (by decide) h) (fun _ => ?_)
                refine V_iconst (v := 0) f dX2_readRule_66 (by decide) ?_
                exact V_iret f q dX2_readRule_67 rfl (Nat.zero_le _) (Nat.zero_le _) ⟨rfl, rfl, Or.inr ⟨(txnx T N (txnx T N q3)), (txrl_a hq1 h2).trans ((txrl_e hq3 h4).trans ((txsq_y h10).trans ((txsq_y h11).trans (txsq_n h12)))), rfl, hC12, (CR_CN hz (CR_CN hz (CR_CN hz (CR_CN hz (CR_trans (CR_CN hz (CR_trans (CR_refl (i := i) hI) hR1) hN2) hR3) hN4) hN10) hN11) hN12)⟩⟩
            · show V K ad 0 0 ZB Mx11 51 [(2, .int 2), (0, .ref (ad 17)), (1, .ref (ad i))] [.int (-1)]
              refine V_istore_n f dX2_readRule_51 rfl (by decide) rfl ?_
              refine V_iload_n f dX2_readRule_52 0 rfl ?_
              refine V_iconst (v := (-1)) f dX2_readRule_53 (by decide) ?_
              refine V_icmp_eq (tgt := 66) f dX2_readRule_54 (by decide) (fun _ => ?_) (fun h => absurd (by decide) h)
              refine V_iconst (v := 0) f dX2_readRule_66 (by decide) ?_
              exact V_iret f q dX2_readRule_67 rfl (Nat.zero_le _) (Nat.zero_le _) ⟨rfl, rfl, Or.inr ⟨(txnx T N q3), (txrl_a hq1 h2).trans ((txrl_e hq3 h4).trans ((txsq_y h10).trans (txsq_n h11))), rfl, hC11, (CR_CN hz (CR_CN hz (CR_CN hz (CR_trans (CR_CN hz (CR_trans (CR_refl (i := i) hI) hR1) hN2) hR3) hN4) hN10) hN11)⟩⟩
          · show V K ad 0 0 ZB Mx10 36 [(2, .int 2), (0, .ref (ad 17)), (1, .ref (ad i))] [.int 0]
            refine V_if_ne (tgt := 41) f dX2_readRule_36 (by decide) (fun h => absurd (by decide) h) (fun _ => ?_)
            refine V_iconst (v := 0) f dX2_readRule_39 (by decide) ?_
            exact V_iret f q dX2_readRule_40 rfl (Nat.zero_le _) (Nat.zero_le _) ⟨rfl, rfl, Or.inr ⟨q3, (txrl_a hq1 h2).trans ((txrl_e hq3 h4).trans (txsq_n h10)), rfl, hC10, (CR_CN hz (CR_CN hz (CR_trans (CR_CN hz (CR_trans (CR_refl (i := i) hI) hR1) hN2) hR3) hN4) hN10)⟩⟩
      · show V K ad 0 0 ZB Mx3 13 [(2, .int 1), (0, .ref (ad 17)), (1, .ref (ad i))] [.int 0]
        refine V_if_ne (tgt := 18) f dX2_readRule_13 (by decide) (fun h => absurd (by decide) h) (fun _ => ?_)
        refine V_iconst (v := 0) f dX2_readRule_16 (by decide) ?_
        exact V_iret f q dX2_readRule_17 rfl (Nat.zero_le _) (Nat.zero_le _) ⟨rfl, rfl, Or.inr ⟨q3, (txrl_a hq1 h2).trans (txrl_n hq3), rfl, hC3, (CR_trans (CR_CN hz (CR_trans (CR_refl (i := i) hI) hR1) hN2) hR3)⟩⟩
    · show V K ad 0 0 ZB Mx2 27 [(2, .int 1), (0, .ref (ad 17)), (1, .ref (ad i))] [.int 0]
      refine V_if_ne (tgt := 2) f dX2_readRule_27 (by decide) (fun h => absurd (by decide) h) (fun _ => ?_)
      refine V_aload_n f dX2_readRule_30 1 rfl ?_
      refine V_bipush (v := 8) f dX2_readRule_31 (by decide) ?_
      refine V_cVp (As := [.int 8]) (rest := []) f dX2_readRule_33 lk_X2_41 ml_X2_41 ins_X2_take sel_X2_take zb_17 (by decide) rfl (c4_X2_take _ _ _ _ ad Mx2 8 T N q1 hC2 (((CR_CN hz (CR_trans (CR_refl (i := i) hI) hR1) hN2)).1) (by decide)) rfl (Nat.le_of_ble_eq_true rfl) rfl ⟨by decide, by decide⟩ ⟨Nat.zero_le _, Nat.zero_le _⟩ rfl rfl (fun v13 Mx13 hp13 => ?_)
      rcases hp13 with ⟨h13, rfl, hC13, hN13⟩ | ⟨h13, rfl, hC13, hN13⟩
      · show V K ad 0 0 ZB Mx13 36 [(2, .int 1), (0, .ref (ad 17)), (1, .ref (ad i))] [.int 1]
        refine V_if_ne (tgt := 41) f dX2_readRule_36 (by decide) (fun _ => ?_) (fun h => absurd h (by decide))
        refine V_aload_n f dX2_readRule_41 1 rfl ?_
        refine V_bipush (v := 9) f dX2_readRule_42 (by decide) ?_
        refine V_bipush (v := 10) f dX2_readRule_44 (by decide) ?_
        refine V_bipush (v := 11) f dX2_readRule_46 (by decide) ?_
        refine V_cVp (As := [.int 9, .int 10, .int 11]) (rest := []) f dX2_readRule_48 lk_X2_69 ml_X2_69 ins_X2_takeOneOf sel_X2_takeOneOf zb_17 (by decide) rfl (c4_X2_takeOneOf _ _ _ _ ad Mx13 9 10 11 T N (txnx T N q1) hC13 (((CR_CN hz (CR_CN hz (CR_trans (CR_refl (i := i) hI) hR1) hN2) hN13)).1) (by decide)) rfl (Nat.le_of_ble_eq_true rfl) rfl ⟨by decide, by decide⟩ ⟨Nat.zero_le _, Nat.zero_le _⟩ rfl rfl (fun v14 Mx14 hp14 => ?_)
        rcases hp14 with ⟨h14, rfl, hC14, hN14⟩ | ⟨h14, rfl, hC14, hN14⟩
        · show V K ad 0 0 ZB Mx14 51 [(2, .int 1), (0, .ref (ad 17)), (1, .ref (ad i))] [.int (txtc T N (txnx T N q1))]
          refine V_istore_n f dX2_readRule_51 rfl (by decide) rfl ?_
          refine V_iload_n f dX2_readRule_52 0 rfl ?_
          refine V_iconst (v := (-1)) f dX2_readRule_53 (by decide) ?_
          refine V_icmp_eq (tgt := 66) f dX2_readRule_54 (by decide) (fun h => absurd h (txne h14 (by decide))) (fun _ => ?_)
          refine V_aload_n f dX2_readRule_57 2 rfl ?_
          refine V_bipush (v := 59) f dX2_readRule_58 (by decide) ?_
          refine V_cVp (As := [.int 59]) (rest := []) f dX2_readRule_60 lk_X2_41 ml_X2_41 ins_X2_take sel_X2_take zb_17 (by decide) rfl (c4_X2_take _ _ _ _ ad Mx14 59 T N (txnx T N (txnx T N q1)) hC14 (((CR_CN hz (CR_CN hz (CR_CN hz (CR_trans (CR_refl (i := i) hI) hR1) hN2) hN13) hN14)).1) (by decide)) rfl (Nat.le_of_ble_eq_true rfl) rfl ⟨by decide, by decide⟩ ⟨Nat.zero_le _, Nat.zero_le _⟩ rfl rfl (fun v15 Mx15 hp15 => ?_)
          rcases hp15 with ⟨h15, rfl, hC15, hN15⟩ | ⟨h15, rfl, hC15, hN15⟩
          · show V K ad 0 0 ZB Mx15 63 [(3, .int (txtc T N (txnx T N q1))), (2, .int 1), (0, .ref (ad 17)), (1, .ref (ad i))] [.int 1]
            refine V_if_ne (tgt := 68) f dX2_readRule_63 (by decide) (fun _ => ?_) (fun h => absurd h (by decide))
            refine V_aload_n f dX2_readRule_68 3 rfl ?_
            refine V_iload_n f dX2_readRule_69 1 rfl ?_
            refine V_iload_n f dX2_readRule_70 0 rfl ?_
            refine V_cVv (As := [.int 1, .int (txtc T N (txnx T N q1))]) (rest := []) f dX2_readRule_71 lk_X2_73 ml_X2_73 ins_X1_addRule sel_X1_addRule (zL hz) (by decide) rfl (c_X1_addRule (kl K) (kD K) (ky K) (kX K) ad Mx15 i 1 (txtc T N (txnx T N q1)) hz (((CR_CN hz (CR_CN hz (CR_CN hz (CR_CN hz (CR_trans (CR_refl (i := i) hI) hR1) hN2) hN13) hN14) hN15)).1.2.2.2.2 _ hz)) rfl (Nat.le_of_ble_eq_true rfl) rfl ⟨by decide, by decide⟩ ⟨Nat.zero_le _, Nat.zero_le _⟩ rfl rfl ?_
            refine V_iconst (v := 1) f dX2_readRule_74 (by decide) ?_
            exact V_iret f q dX2_readRule_75 rfl (Nat.zero_le _) (Nat.zero_le _) ⟨rfl, rfl, Or.inl ⟨(txnx T N (txnx T N (txnx T N q1))), (txrl_e hq1 h2).trans ((txsq_y h13).trans ((txsq_y h14).trans ((txsq_y h15).trans (rfl)))), rfl, (txC_w hz hC15 (fun j hj => ar_fr _ _ _ _ (by omega))), (CR_ar hz (CR_CN hz (CR_CN hz (CR_CN hz (CR_CN hz (CR_trans (CR_refl (i := i) hI) hR1) hN2) hN13) hN14) hN15) _ _)⟩⟩
          · show V K ad 0 0 ZB Mx15 63 [(3, .int (txtc T N (txnx T N q1))), (2, .int 1), (0, .ref (ad 17)), (1, .ref (ad i))] [.int 0]
            refine V_if_ne (tgt := 68) f dX2_readRule_63 (by decide) (fun h => absurd (by decide) h) (fun _ => ?_)
            refine V_iconst (v := 0) f dX2_readRule_66 (by decide) ?_
            exact V_iret f q dX2_readRule_67 rfl (Nat.zero_le _) (Nat.zero_le _) ⟨rfl, rfl, Or.inr ⟨(txnx T N (txnx T N q1)), (txrl_e hq1 h2).trans ((txsq_y h13).trans ((txsq_y h14).trans (txsq_n h15))), rfl, hC15, (CR_CN hz (CR_CN hz (CR_CN hz (CR_CN hz (CR_trans (CR_refl (i := i) hI) hR1) hN2) hN13) hN14) hN15)⟩⟩
        · show V K ad 0 0 ZB Mx14 51 [(2, .int 1), (0, .ref (ad 17)), (1, .ref (ad i))] [.int (-1)]
          refine V_istore_n f dX2_readRule_51 rfl (by decide) rfl ?_
          refine V_iload_n f dX2_readRule_52 0 rfl ?_
          refine V_iconst (v := (-1)) f dX2_readRule_53 (by decide) ?_
          refine V_icmp_eq (tgt := 66) f dX2_readRule_54 (by decide) (fun _ => ?_) (fun h => absurd (by decide) h)
          refine V_iconst (v := 0) f dX2_readRule_66 (by decide) ?_
          exact V_iret f q dX2_readRule_67 rfl (Nat.zero_le _) (Nat.zero_le _) ⟨rfl, rfl, Or.inr ⟨(txnx T N q1), (txrl_e hq1 h2).trans ((txsq_y h13).trans (txsq_n h14)), rfl, hC14, (CR_CN hz (CR_CN hz (CR_CN hz (CR_trans (CR_refl (i := i) hI) hR1) hN2) hN13) hN14)⟩⟩
      · show V K ad 0 0 ZB Mx13 36 [(2, .int 1), (0, .ref (ad 17)), (1, .ref (ad i))] [.int 0]
        refine V_if_ne (tgt := 41) f dX2_readRule_36 (by decide) (fun h => absurd (by decide) h) (fun _ => ?_)
        refine V_iconst (v := 0) f dX2_readRule_39 (by decide) ?_
        exact V_iret f q dX2_readRule_40 rfl (Nat.zero_le _) (Nat.zero_le _) ⟨rfl, rfl, Or.inr ⟨q1, (txrl_e hq1 h2).trans (txsq_n h13), rfl, hC13, (CR_CN hz (CR_CN hz (CR_trans (CR_refl (i := i) hI) hR1) hN2) hN13)⟩⟩
  · show V K ad 0 0 ZB Mx1 13 [(2, .int 0), (0, .ref (ad 17)), (1, .ref (ad i))] [.int 0]
    refine V_if_ne (tgt := 18) f dX2_readRule_13 (by decide) (fun h => absurd (by decide) h) (fun _ => ?_)
    refine V_iconst (v := 0) f dX2_readRule_16 (by decide) ?_
    exact V_iret f q dX2_readRule_17 rfl (Nat.zero_le _) (Nat.zero_le _) ⟨rfl, rfl, Or.inr ⟨q1, txrl_n hq1, rfl, hC1, (CR_trans (CR_refl (i := i) hI) hR1)⟩⟩
theorem KQ_f {i : Nat} {M0 M M1 : MT} {c : txCT} (h : KQ i M0 c M) (k : CQ i M M1) : CQ i M0 M1 := CQ_trans h.1 k
set_option maxHeartbeats 4000000 in
set_option maxRecDepth 100000 in
theorem c4_X2_readStatement (l : Launch) (D : va_G) (cy : Nat → ClassId) (X : va_W) (ad : Nat → Nat) (M : MT) (i : Nat) (hz : LawZ i) (T : Nat → Int32) (N p : Nat) (hC : txC T N M p) (hI : InvB M) (hl : (cB M i).2.2.length < 16) : CtP l yX2_readStatement cX2_readStatement 2 (some .boolean) (rK 4) D cy X ad ZB M [.ref (ad 17), .ref (ad i)] (fun v M1 => (∃ q, txst T N p = (true, q) ∧ v = some (.int 1) ∧ txC T N M1 q ∧ KQ i M (txef T N p (cB M i)) M1) ∨ (∃ q, txst T N p = (false, q) ∧ v = some (.int 0) ∧ txC T N M1 q ∧ CQ i M M1)) := by
  refine Ctr.of (by decide +kernel) (Nat.le_of_ble_eq_true rfl) ?_
  intro K f q hnm hl0 hD0 hy0 hX0
  show V K ad 0 0 ZB M 0 [(0, .ref (ad 17)), (1, .ref (ad i))] []
  refine V_aload_n f dX2_readStatement_0 0 rfl ?_
  refine V_iconst (v := 1) f dX2_readStatement_1 (by decide) ?_
  refine V_cVp (As := [.int 1]) (rest := []) f dX2_readStatement_2 lk_X2_41 ml_X2_41 ins_X2_take sel_X2_take zb_17 (by decide) rfl (c4_X2_take _ _ _ _ ad M 1 T N p hC (((KQ_0 (i := i) hI)).1.1) (by decide)) rfl (Nat.le_of_ble_eq_true rfl) rfl ⟨by decide, by decide⟩ ⟨Nat.zero_le _, Nat.zero_le _⟩ rfl rfl (fun v1 Mx1 hp1 => ?_)
  rcases hp1 with ⟨h1, rfl, hC1, hN1⟩ | ⟨h1, rfl, hC1, hN1⟩
  · show V K ad 0 0 ZB Mx1 5 [(0, .ref (ad 17)), (1, .ref (ad i))] [.int 1]
    refine V_if_eq (tgt := 39) f dX2_readStatement_5 (by decide) (fun h => absurd h (by decide)) (fun _ => ?_)
    refine V_aload_n f dX2_readStatement_8 1 rfl ?_
    refine V_aload_n f dX2_readStatement_9 0 rfl ?_
    refine V_cVp (As := []) (rest := [.ref (ad i)]) f dX2_readStatement_10 lk_X2_45 ml_X2_45 ins_X2_takeNumber sel_X2_takeNumber zb_17 (by decide) rfl (c4_X2_takeNumber _ _ _ _ ad Mx1 T N (txnx T N p) hC1 (((KQ_CN hz (KQ_0 (i := i) hI) hN1)).1.1)) rfl (Nat.le_of_ble_eq_true rfl) rfl ⟨by decide, by decide⟩ ⟨Nat.zero_le _, Nat.zero_le _⟩ rfl rfl (fun v2 Mx2 hp2 => ?_)
    rcases hp2 with ⟨h2, rfl, hC2, hN2⟩ | ⟨h2, rfl, hC2, hN2⟩
    · show V K ad 0 0 ZB Mx2 13 [(0, .ref (ad 17)), (1, .ref (ad i))] [.int (txtv T N (txnx T N p)), .ref (ad i)]
      refine V_putI f dX2_readStatement_13 lf_2_49 lp_1_2 rfl rfl rfl rfl (zL hz) ?_
      refine V_aload_n f dX2_readStatement_16 1 rfl ?_
      refine V_getE (x := txtv T N (txnx T N p)) f dX2_readStatement_17 lf_2_49 rfl (zL hz) up_s ?_
      refine V_iconst (v := (-1)) f dX2_readStatement_20 (by decide) ?_
      refine V_icmp_eq (tgt := 37) f dX2_readStatement_21 (by decide) (fun h => absurd h (txtv_n (List.mem_singleton.mp h2))) (fun _ => ?_)
      refine V_aload_n f dX2_readStatement_24 0 rfl ?_
      refine V_bipush (v := 59) f dX2_readStatement_25 (by decide) ?_
      refine V_cVp (As := [.int 59]) (rest := []) f dX2_readStatement_27 lk_X2_41 ml_X2_41 ins_X2_take sel_X2_take zb_17 (by decide) rfl (c4_X2_take _ _ _ _ ad (up2 Mx2 i 2 (txtv T N (txnx T N p))) 59 T N (txnx T N (txnx T N p)) (txC_w hz hC2 (fun j hj => upo (by omega))) (((KQ_lim hz (KQ_CN hz (KQ_CN hz (KQ_0 (i := i) hI) hN1) hN2) _)).1.1) (by decide)) rfl (Nat.le_of_ble_eq_true rfl) rfl ⟨by decide, by decide⟩ ⟨Nat.zero_le _, Nat.zero_le _⟩ rfl rfl (fun v3 Mx3 hp3 => ?_)
      rcases hp3 with ⟨h3, rfl, hC3, hN3⟩ | ⟨h3, rfl, hC3, hN3⟩
      · show V K ad 0 0 ZB Mx3 30 [(0, .ref (ad 17)), (1, .ref (ad i))] [.int 1]
        refine V_if_eq (tgt := 37) f dX2_readStatement_30 (by decide) (fun h => absurd h (by decide)) (fun _ => ?_)
        refine V_iconst (v := 1) f dX2_readStatement_33 (by decide) ?_
        refine V_goto (tgt := 38) f dX2_readStatement_34 (by decide) ?_
        exact V_iret f q dX2_readStatement_38 rfl (Nat.zero_le _) (Nat.zero_le _) ⟨rfl, rfl, Or.inl ⟨(txnx T N (txnx T N (txnx T N p))), (txst_1 h1).trans ((txsq_y h2).trans ((txsq_y h3).trans (rfl))), rfl, hC3, ⟨(KQ_CN hz (KQ_lim hz (KQ_CN hz (KQ_CN hz (KQ_0 (i := i) hI) hN1) hN2) _) hN3).1, (KQ_CN hz (KQ_lim hz (KQ_CN hz (KQ_CN hz (KQ_0 (i := i) hI) hN1) hN2) _) hN3).2.trans (txef_1 h1 _).symm⟩⟩⟩
      · show V K ad 0 0 ZB Mx3 30 [(0, .ref (ad 17)), (1, .ref (ad i))] [.int 0]
        refine V_if_eq (tgt := 37) f dX2_readStatement_30 (by decide) (fun _ => ?_) (fun h => absurd (by decide) h)
        refine V_iconst (v := 0) f dX2_readStatement_37 (by decide) ?_
        exact V_iret f q dX2_readStatement_38 rfl (Nat.zero_le _) (Nat.zero_le _) ⟨rfl, rfl, Or.inr ⟨(txnx T N (txnx T N p)), (txst_1 h1).trans ((txsq_y h2).trans (txsq_n h3)), rfl, hC3, ((KQ_CN hz (KQ_lim hz (KQ_CN hz (KQ_CN hz (KQ_0 (i := i) hI) hN1) hN2) _) hN3)).1⟩⟩
    · show V K ad 0 0 ZB Mx2 13 [(0, .ref (ad 17)), (1, .ref (ad i))] [.int (-1), .ref (ad i)]
      refine V_putI f dX2_readStatement_13 lf_2_49 lp_1_2 rfl rfl rfl rfl (zL hz) ?_
      refine V_aload_n f dX2_readStatement_16 1 rfl ?_
      refine V_getE (x := (-1)) f dX2_readStatement_17 lf_2_49 rfl (zL hz) up_s ?_
      refine V_iconst (v := (-1)) f dX2_readStatement_20 (by decide) ?_
      refine V_icmp_eq (tgt := 37) f dX2_readStatement_21 (by decide) (fun _ => ?_) (fun h => absurd (by decide) h)
      refine V_iconst (v := 0) f dX2_readStatement_37 (by decide) ?_
      exact V_iret f q dX2_readStatement_38 rfl (Nat.zero_le _) (Nat.zero_le _) ⟨rfl, rfl, Or.inr ⟨(txnx T N p), (txst_1 h1).trans (txsq_n h2), rfl, (txC_w hz hC2 (fun j hj => upo (by omega))), ((KQ_lim hz (KQ_CN hz (KQ_CN hz (KQ_0 (i := i) hI) hN1) hN2) _)).1⟩⟩
  · show V K ad 0 0 ZB Mx1 5 [(0, .ref (ad 17)), (1, .ref (ad i))] [.int 0]
    refine V_if_eq (tgt := 39) f dX2_readStatement_5 (by decide) (fun _ => ?_) (fun h => absurd (by decide) h)
    refine V_aload_n f dX2_readStatement_39 0 rfl ?_
    refine V_iconst (v := 2) f dX2_readStatement_40 (by decide) ?_
    refine V_cVp (As := [.int 2]) (rest := []) f dX2_readStatement_41 lk_X2_41 ml_X2_41 ins_X2_take sel_X2_take zb_17 (by decide) rfl (c4_X2_take _ _ _ _ ad Mx1 2 T N p hC1 (((KQ_CN hz (KQ_0 (i := i) hI) hN1)).1.1) (by decide)) rfl (Nat.le_of_ble_eq_true rfl) rfl ⟨by decide, by decide⟩ ⟨Nat.zero_le _, Nat.zero_le _⟩ rfl rfl (fun v4 Mx4 hp4 => ?_)
    rcases hp4 with ⟨h4, rfl, hC4, hN4⟩ | ⟨h4, rfl, hC4, hN4⟩
    · show V K ad 0 0 ZB Mx4 44 [(0, .ref (ad 17)), (1, .ref (ad i))] [.int 1]
      refine V_if_eq (tgt := 78) f dX2_readStatement_44 (by decide) (fun h => absurd h (by decide)) (fun _ => ?_)
      refine V_aload_n f dX2_readStatement_47 1 rfl ?_
      refine V_aload_n f dX2_readStatement_48 0 rfl ?_
      refine V_cVp (As := []) (rest := [.ref (ad i)]) f dX2_readStatement_49 lk_X2_45 ml_X2_45 ins_X2_takeNumber sel_X2_takeNumber zb_17 (by decide) rfl (c4_X2_takeNumber _ _ _ _ ad Mx4 T N (txnx T N p) hC4 (((KQ_CN hz (KQ_CN hz (KQ_0 (i := i) hI) hN1) hN4)).1.1)) rfl (Nat.le_of_ble_eq_true rfl) rfl ⟨by decide, by decide⟩ ⟨Nat.zero_le _, Nat.zero_le _⟩ rfl rfl (fun v5 Mx5 hp5 => ?_)
      rcases hp5 with ⟨h5, rfl, hC5, hN5⟩ | ⟨h5, rfl, hC5, hN5⟩
      · show V K ad 0 0 ZB Mx5 52 [(0, .ref (ad 17)), (1, .ref (ad i))] [.int (txtv T N (txnx T N p)), .ref (ad i)]
        refine V_putI f dX2_readStatement_52 lf_2_52 lp_1_3 rfl rfl rfl rfl (zL hz) ?_
        refine V_aload_n f dX2_readStatement_55 1 rfl ?_
        refine V_getE (x := txtv T N (txnx T N p)) f dX2_readStatement_56 lf_2_52 rfl (zL hz) up_s ?_
        refine V_iconst (v := (-1)) f dX2_readStatement_59 (by decide) ?_
        refine V_icmp_eq (tgt := 76) f dX2_readStatement_60 (by decide) (fun h => absurd h (txtv_n (List.mem_singleton.mp h5))) (fun _ => ?_)
        refine V_aload_n f dX2_readStatement_63 0 rfl ?_
        refine V_bipush (v := 59) f dX2_readStatement_64 (by decide) ?_
        refine V_cVp (As := [.int 59]) (rest := []) f dX2_readStatement_66 lk_X2_41 ml_X2_41 ins_X2_take sel_X2_take zb_17 (by decide) rfl (c4_X2_take _ _ _ _ ad (up2 Mx5 i 3 (txtv T N (txnx T N p))) 59 T N (txnx T N (txnx T N p)) (txC_w hz hC5 (fun j hj => upo (by omega))) (((KQ_dep hz (KQ_CN hz (KQ_CN hz (KQ_CN hz (KQ_0 (i := i) hI) hN1) hN4) hN5) _)).1.1) (by decide)) rfl (Nat.le_of_ble_eq_true rfl) rfl ⟨by decide, by decide⟩ ⟨Nat.zero_le _, Nat.zero_le _⟩ rfl rfl (fun v6 Mx6 hp6 => ?_)
        rcases hp6 with ⟨h6, rfl, hC6, hN6⟩ | ⟨h6, rfl, hC6, hN6⟩
        · show V K ad 0 0 ZB Mx6 69 [(0, .ref (ad 17)), (1, .ref (ad i))] [.int 1]
          refine V_if_eq (tgt := 76) f dX2_readStatement_69 (by decide) (fun h => absurd h (by decide)) (fun _ => ?_)
          refine V_iconst (v := 1) f dX2_readStatement_72 (by decide) ?_
          refine V_goto (tgt := 77) f dX2_readStatement_73 (by decide) ?_
          exact V_iret f q dX2_readStatement_77 rfl (Nat.zero_le _) (Nat.zero_le _) ⟨rfl, rfl, Or.inl ⟨(txnx T N (txnx T N (txnx T N p))), (txst_2 h4).trans ((txsq_y h5).trans ((txsq_y h6).trans (rfl))), rfl, hC6, ⟨(KQ_CN hz (KQ_dep hz (KQ_CN hz (KQ_CN hz (KQ_CN hz (KQ_0 (i := i) hI) hN1) hN4) hN5) _) hN6).1, (KQ_CN hz (KQ_dep hz (KQ_CN hz (KQ_CN hz (KQ_CN hz (KQ_0 (i := i) hI) hN1) hN4) hN5) _) hN6).2.trans (txef_2 h4 _).symm⟩⟩⟩
        · show V K ad 0 0 ZB Mx6 69 [(0, .ref (ad 17)), (1, .ref (ad i))] [.int 0]
          refine V_if_eq (tgt := 76) f dX2_readStatement_69 (by decide) (fun _ => ?_) (fun h => absurd (by decide) h)
          refine V_iconst (v := 0) f dX2_readStatement_76 (by decide) ?_
          exact V_iret f q dX2_readStatement_77 rfl (Nat.zero_le _) (Nat.zero_le _) ⟨rfl, rfl, Or.inr ⟨(txnx T N (txnx T N p)), (txst_2 h4).trans ((txsq_y h5).trans (txsq_n h6)), rfl, hC6, ((KQ_CN hz (KQ_dep hz (KQ_CN hz (KQ_CN hz (KQ_CN hz (KQ_0 (i := i) hI) hN1) hN4) hN5) _) hN6)).1⟩⟩
      · show V K ad 0 0 ZB Mx5 52 [(0, .ref (ad 17)), (1, .ref (ad i))] [.int (-1), .ref (ad i)]
        refine V_putI f dX2_readStatement_52 lf_2_52 lp_1_3 rfl rfl rfl rfl (zL hz) ?_
        refine V_aload_n f dX2_readStatement_55 1 rfl ?_
        refine V_getE (x := (-1)) f dX2_readStatement_56 lf_2_52 rfl (zL hz) up_s ?_
        refine V_iconst (v := (-1)) f dX2_readStatement_59 (by decide) ?_
        refine V_icmp_eq (tgt := 76) f dX2_readStatement_60 (by decide) (fun _ => ?_) (fun h => absurd (by decide) h)
        refine V_iconst (v := 0) f dX2_readStatement_76 (by decide) ?_
        exact V_iret f q dX2_readStatement_77 rfl (Nat.zero_le _) (Nat.zero_le _) ⟨rfl, rfl, Or.inr ⟨(txnx T N p), (txst_2 h4).trans (txsq_n h5), rfl, (txC_w hz hC5 (fun j hj => upo (by omega))), ((KQ_dep hz (KQ_CN hz (KQ_CN hz (KQ_CN hz (KQ_0 (i := i) hI) hN1) hN4) hN5) _)).1⟩⟩
    · show V K ad 0 0 ZB Mx4 44 [(0, .ref (ad 17)), (1, .ref (ad i))] [.int 0]
      refine V_if_eq (tgt := 78) f dX2_readStatement_44 (by decide) (fun _ => ?_) (fun h => absurd (by decide) h)
      refine V_aload_n f dX2_readStatement_78 0 rfl ?_
      refine V_iconst (v := 3) f dX2_readStatement_79 (by decide) ?_
      refine V_cVp (As := [.int 3]) (rest := []) f dX2_readStatement_80 lk_X2_41 ml_X2_41 ins_X2_take sel_X2_take zb_17 (by decide) rfl (c4_X2_take _ _ _ _ ad Mx4 3 T N p hC4 (((KQ_CN hz (KQ_CN hz (KQ_0 (i := i) hI) hN1) hN4)).1.1) (by decide)) rfl (Nat.le_of_ble_eq_true rfl) rfl ⟨by decide, by decide⟩ ⟨Nat.zero_le _, Nat.zero_le _⟩ rfl rfl (fun v7 Mx7 hp7 => ?_)
      rcases hp7 with ⟨h7, rfl, hC7, hN7⟩ | ⟨h7, rfl, hC7, hN7⟩
      · show V K ad 0 0 ZB Mx7 83 [(0, .ref (ad 17)), (1, .ref (ad i))] [.int 1]
        refine V_if_eq (tgt := 92) f dX2_readStatement_83 (by decide) (fun h => absurd h (by decide)) (fun _ => ?_)
        refine V_aload_n f dX2_readStatement_86 0 rfl ?_
        refine V_aload_n f dX2_readStatement_87 1 rfl ?_
        refine V_cVp (As := [.ref (ad i)]) (rest := []) f dX2_readStatement_88 lk_X2_55 ml_X2_55 ins_X2_readClosing sel_X2_readClosing zb_17 (by decide) rfl (c4_X2_readClosing _ _ _ _ ad Mx7 i hz T N (txnx T N p) hC7 (((KQ_CN hz (KQ_CN hz (KQ_CN hz (KQ_0 (i := i) hI) hN1) hN4) hN7)).1.1) (by rw [((KQ_CN hz (KQ_CN hz (KQ_CN hz (KQ_0 (i := i) hI) hN1) hN4) hN7)).2]; exact hl)) rfl (Nat.le_of_ble_eq_true rfl) rfl ⟨by decide, by decide⟩ ⟨Nat.zero_le _, Nat.zero_le _⟩ rfl rfl (fun v8 Mx8 hp8 => ?_)
        rcases hp8 with ⟨q8, hq8, rfl, hC8, hR8⟩ | ⟨q8, hq8, rfl, hC8, hR8⟩
        · show V K ad 0 0 ZB Mx8 91 [(0, .ref (ad 17)), (1, .ref (ad i))] [.int 1]
          exact V_iret f q dX2_readStatement_91 rfl (Nat.zero_le _) (Nat.zero_le _) ⟨rfl, rfl, Or.inl ⟨q8, (txst_3 h7).trans (hq8), rfl, hC8, ⟨(KQ_g (g := txcl T N (txnx T N p)) (KQ_CN hz (KQ_CN hz (KQ_CN hz (KQ_0 (i := i) hI) hN1) hN4) hN7) hR8).1, (KQ_g (g := txcl T N (txnx T N p)) (KQ_CN hz (KQ_CN hz (KQ_CN hz (KQ_0 (i := i) hI) hN1) hN4) hN7) hR8).2.trans (txef_3 h7 _).symm⟩⟩⟩
        · show V K ad 0 0 ZB Mx8 91 [(0, .ref (ad 17)), (1, .ref (ad i))] [.int 0]
          exact V_iret f q dX2_readStatement_91 rfl (Nat.zero_le _) (Nat.zero_le _) ⟨rfl, rfl, Or.inr ⟨q8, (txst_3 h7).trans (hq8), rfl, hC8, (KQ_f (KQ_CN hz (KQ_CN hz (KQ_CN hz (KQ_0 (i := i) hI) hN1) hN4) hN7) hR8)⟩⟩
      · show V K ad 0 0 ZB Mx7 83 [(0, .ref (ad 17)), (1, .ref (ad i))] [.int 0]
        refine V_if_eq (tgt := 92) f dX2_readStatement_83 (by decide) (fun _ => ?_) (fun h => absurd (by decide) h)
        refine V_aload_n f dX2_readStatement_92 0 rfl ?_
        refine V_bipush (v := 6) f dX2_readStatement_93 (by decide) ?_
        refine V_cVp (As := [.int 6]) (rest := []) f dX2_readStatement_95 lk_X2_41 ml_X2_41 ins_X2_take sel_X2_take zb_17 (by decide) rfl (c4_X2_take _ _ _ _ ad Mx7 6 T N p hC7 (((KQ_CN hz (KQ_CN hz (KQ_CN hz (KQ_0 (i := i) hI) hN1) hN4) hN7)).1.1) (by decide)) rfl (Nat.le_of_ble_eq_true rfl) rfl ⟨by decide, by decide⟩ ⟨Nat.zero_le _, Nat.zero_le _⟩ rfl rfl (fun v9 Mx9 hp9 => ?_)
        rcases hp9 with ⟨h9, rfl, hC9, hN9⟩ | ⟨h9, rfl, hC9, hN9⟩
        · show V K ad 0 0 ZB Mx9 98 [(0, .ref (ad 17)), (1, .ref (ad i))] [.int 1]
          refine V_if_eq (tgt := 113) f dX2_readStatement_98 (by decide) (fun h => absurd h (by decide)) (fun _ => ?_)
          refine V_aload_n f dX2_readStatement_101 0 rfl ?_
          refine V_aload_n f dX2_readStatement_102 1 rfl ?_
          refine V_cVp (As := [.ref (ad i)]) (rest := []) f dX2_readStatement_103 lk_X2_58 ml_X2_58 ins_X2_readRule sel_X2_readRule zb_17 (by decide) rfl (c4_X2_readRule _ _ _ _ ad Mx9 i hz T N (txnx T N p) hC9 (((KQ_CN hz (KQ_CN hz (KQ_CN hz (KQ_CN hz (KQ_0 (i := i) hI) hN1) hN4) hN7) hN9)).1.1)) rfl (Nat.le_of_ble_eq_true rfl) rfl ⟨by decide, by decide⟩ ⟨Nat.zero_le _, Nat.zero_le _⟩ rfl rfl (fun v10 Mx10 hp10 => ?_)
          rcases hp10 with ⟨q10, hq10, rfl, hC10, hR10⟩ | ⟨q10, hq10, rfl, hC10, hR10⟩
          · show V K ad 0 0 ZB Mx10 106 [(0, .ref (ad 17)), (1, .ref (ad i))] [.int 1]
            refine V_if_eq (tgt := 113) f dX2_readStatement_106 (by decide) (fun h => absurd h (by decide)) (fun _ => ?_)
            refine V_iconst (v := 1) f dX2_readStatement_109 (by decide) ?_
            refine V_goto (tgt := 114) f dX2_readStatement_110 (by decide) ?_
            exact V_iret f q dX2_readStatement_114 rfl (Nat.zero_le _) (Nat.zero_le _) ⟨rfl, rfl, Or.inl ⟨q10, (txst_6 h9).trans (hq10), rfl, hC10, ⟨(KQ_CR hz (KQ_CN hz (KQ_CN hz (KQ_CN hz (KQ_CN hz (KQ_0 (i := i) hI) hN1) hN4) hN7) hN9) hR10).1, (KQ_CR hz (KQ_CN hz (KQ_CN hz (KQ_CN hz (KQ_CN hz (KQ_0 (i := i) hI) hN1) hN4) hN7) hN9) hR10).2.trans (txef_6 h9 _).symm⟩⟩⟩
          · show V K ad 0 0 ZB Mx10 106 [(0, .ref (ad 17)), (1, .ref (ad i))] [.int 0]
            refine V_if_eq (tgt := 113) f dX2_readStatement_106 (by decide) (fun _ => ?_) (fun h => absurd (by decide) h)
            refine V_iconst (v := 0) f dX2_readStatement_113 (by decide) ?_
            exact V_iret f q dX2_readStatement_114 rfl (Nat.zero_le _) (Nat.zero_le _) ⟨rfl, rfl, Or.inr ⟨q10, (txst_6 h9).trans (hq10), rfl, hC10, ((KQ_CR hz (KQ_CN hz (KQ_CN hz (KQ_CN hz (KQ_CN hz (KQ_0 (i := i) hI) hN1) hN4) hN7) hN9) hR10)).1⟩⟩
        · show V K ad 0 0 ZB Mx9 98 [(0, .ref (ad 17)), (1, .ref (ad i))] [.int 0]
          refine V_if_eq (tgt := 113) f dX2_readStatement_98 (by decide) (fun _ => ?_) (fun h => absurd (by decide) h)
          refine V_iconst (v := 0) f dX2_readStatement_113 (by decide) ?_
          exact V_iret f q dX2_readStatement_114 rfl (Nat.zero_le _) (Nat.zero_le _) ⟨rfl, rfl, Or.inr ⟨p, txst_n h1 h4 h7 h9, rfl, hC9, ((KQ_CN hz (KQ_CN hz (KQ_CN hz (KQ_CN hz (KQ_0 (i := i) hI) hN1) hN4) hN7) hN9)).1⟩⟩

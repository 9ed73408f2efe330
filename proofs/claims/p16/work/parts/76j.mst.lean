set_option maxHeartbeats 4000000 in
set_option maxRecDepth 100000 in
theorem c4_X9_test (l : Launch) (D : va_G) (cy : Nat → ClassId) (X : va_W) (ad : Nat → Nat) (M : MT) (a : Int32) (T : Nat → Int32) (N p : Nat) (hS : RSx T N M p) (ha : vp_in a 432) : CtP l yX9_test cX9_test 4 (some .boolean) (rK 2) D cy X ad ZM M [.ref (ad 0), .int a] (fun v M1 => (∃ q, txsq T N txTS p = (true, q) ∧ v = some (.int 1) ∧ RSx T N M1 q ∧ Kt tP M M1) ∨ (∃ q, txsq T N txTS p = (false, q) ∧ v = some (.int 0) ∧ M1 0 29 = Int32.ofNat q ∧ Kt tP M M1)) := by
  refine Ctr.of (by decide +kernel) (Nat.le_of_ble_eq_true rfl) ?_
  intro K f q hnm hl0 hD0 hy0 hX0
  show V K ad 0 0 ZM M 0 [(0, .ref (ad 0)), (1, .int a)] []
  refine V_aload_n f dX9_test_0 0 rfl ?_
  refine V_cVp (As := []) (rest := []) f dX9_test_1 lk_X9_135 ml_X9_135 ins_X9_word sel_X9_word zm_0 (by decide) rfl (c4_X9_word _ _ _ _ ad M T N p hS) rfl (Nat.le_of_ble_eq_true rfl) rfl ⟨by decide, by decide⟩ ⟨Nat.zero_le _, Nat.zero_le _⟩ rfl rfl (fun v1 Mx1 hp1 => ?_)
  obtain ⟨rfl, hk1, e1, e43_1⟩ := hp1
  have kR1 : Kt tP M Mx1 := Kt_trans (Kt_refl (P := tP) hS.1) (b_t hk1)
  have kC1 : RSx T N Mx1 p := (RS_st hS hk1 b17 e1)
  show V K ad 0 0 ZM Mx1 4 [(0, .ref (ad 0)), (1, .int a)] [.long (w64 T p (txln T N p - p))]
  refine V_lstore_n f dX9_test_4 rfl (by decide) rfl ?_
  refine V_aload_n f dX9_test_5 1 rfl ?_
  refine V_getR f dX9_test_6 lf_9_91 rfl zm_0 rfl ?_
  refine V_iload_n f dX9_test_9 2 rfl ?_
  refine V_lload_n f dX9_test_10 0 rfl ?_
  refine V_ldc2 (v := 1751474548) f dX9_test_11 lc_X9_142 ?_
  refine V_lcmp f dX9_test_14 ?_
  refine V_if_ne (tgt := 22) f dX9_test_15 (by decide) (fun c2 => ?_) (fun c2 => ?_)
  · refine V_lload_n f dX9_test_22 0 rfl ?_
    refine V_ldc2 (v := 512802253683) f dX9_test_23 lc_X9_144 ?_
    refine V_lcmp f dX9_test_26 ?_
    refine V_if_ne (tgt := 34) f dX9_test_27 (by decide) (fun c3 => ?_) (fun c3 => ?_)
    · refine V_lload_n f dX9_test_34 0 rfl ?_
      refine V_ldc2 (v := 1953459827) f dX9_test_35 lc_X9_146 ?_
      refine V_lcmp f dX9_test_38 ?_
      refine V_if_ne (tgt := 46) f dX9_test_39 (by decide) (fun c4 => ?_) (fun c4 => ?_)
      · refine V_iconst (v := (-1)) f dX9_test_46 (by decide) ?_
        refine V_iast f dX9_test_47 zm_26 ha ?_
        refine V_aload_n f dX9_test_48 1 rfl ?_
        refine V_getR f dX9_test_49 lf_9_91 rfl zm_0 rfl ?_
        refine V_iload_n f dX9_test_52 2 rfl ?_
        refine V_ialdE (x := (-1)) f dX9_test_53 zm_26 ha up_s ?_
        refine V_iconst (v := (-1)) f dX9_test_54 (by decide) ?_
        refine V_icmp_ne (tgt := 60) f dX9_test_55 (by decide) (fun h => absurd (by decide) h) (fun _ => ?_)
        refine V_iconst (v := 0) f dX9_test_58 (by decide) ?_
        exact V_iret f q dX9_test_59 rfl (Nat.zero_le _) (Nat.zero_le _) ⟨rfl, rfl, Or.inr ⟨p, txsq_n (wd_3 (RS_le hS).1 c2 c3 c4), rfl, (up_c (by decide) e1), (Kt_ct kR1 (by decide) _ _)⟩⟩
      · refine V_iconst (v := 2) f dX9_test_42 (by decide) ?_
        refine V_goto (tgt := 47) f dX9_test_43 (by decide) ?_
        refine V_iast f dX9_test_47 zm_26 ha ?_
        refine V_aload_n f dX9_test_48 1 rfl ?_
        refine V_getR f dX9_test_49 lf_9_91 rfl zm_0 rfl ?_
        refine V_iload_n f dX9_test_52 2 rfl ?_
        refine V_ialdE (x := 2) f dX9_test_53 zm_26 ha up_s ?_
        refine V_iconst (v := (-1)) f dX9_test_54 (by decide) ?_
        refine V_icmp_ne (tgt := 60) f dX9_test_55 (by decide) (fun _ => ?_) (fun h => absurd h (by decide))
        refine V_aload_n f dX9_test_60 1 rfl ?_
        refine V_aload_n f dX9_test_61 1 rfl ?_
        refine V_getE (x := Mx1 0 43) f dX9_test_62 lf_9_132 rfl zm_0 (up_c (by decide) rfl) ?_
        refine V_putI f dX9_test_65 lf_9_123 lp_9_29 rfl rfl rfl rfl zm_0 ?_
        refine V_aload_n f dX9_test_68 1 rfl ?_
        refine V_cVp (As := []) (rest := []) f dX9_test_69 lk_X9_129 ml_X9_129 ins_X9_blanks sel_X9_blanks zm_0 (by decide) rfl (c4_X9_blanks _ _ _ _ ad (up2 (up2 Mx1 26 (Int32.toNatClampNeg a) 2) 0 29 (Mx1 0 43)) T N (txnx T N p) (RS_mv (RS_w kC1 (Kt_ct kR1 (by decide) _ _).1 (upo (by decide)) (upo (by decide))) (e43_1.trans (congrArg Int32.ofNat (te_w (by decide) ((wd_c (d := 13) (RS_le hS).1 (by decide) (by decide)).mp c4)).1.symm)) (txte_b (RS_le kC1).1).2.1)) rfl (Nat.le_of_ble_eq_true rfl) rfl ⟨by decide, by decide⟩ ⟨Nat.zero_le _, Nat.zero_le _⟩ rfl rfl (fun v5 Mx5 hp5 => ?_)
        obtain ⟨rfl, hk5, e5⟩ := hp5
        have kR5 : Kt tP M Mx5 := Kt_trans (Kt_at (Kt_ct kR1 (by decide) _ _) t1 (kt_b hS (e43_1.trans (congrArg Int32.ofNat (te_w (by decide) ((wd_c (d := 13) (RS_le hS).1 (by decide) (by decide)).mp c4)).1.symm)) (txte_b (RS_le kC1).1).2.1)) (b_t hk5)
        have kC5 : RSx T N Mx5 (txnx T N p) := (RS_st (RS_mv (RS_w kC1 (Kt_ct kR1 (by decide) _ _).1 (upo (by decide)) (upo (by decide))) (e43_1.trans (congrArg Int32.ofNat (te_w (by decide) ((wd_c (d := 13) (RS_le hS).1 (by decide) (by decide)).mp c4)).1.symm)) (txte_b (RS_le kC1).1).2.1) hk5 b17 e5)
        have k26_5 : Mx5 26 (Int32.toNatClampNeg a) = 2 := (congrFun (hk5.2.2 26 (by unfold bP; decide)) _).trans (up_c (by decide) up_s)
        show V K ad 0 0 ZM Mx5 72 [(2, .long (w64 T p (txln T N p - p))), (0, .ref (ad 0)), (1, .int a)] []
        refine V_aload_n f dX9_test_72 1 rfl ?_
        refine V_getE (x := Mx5 0 29) f dX9_test_73 lf_9_123 rfl zm_0 rfl ?_
        refine V_aload_n f dX9_test_76 1 rfl ?_
        refine V_getE (x := Mx5 0 28) f dX9_test_77 lf_9_126 rfl zm_0 rfl ?_
        refine V_icmp_eq (tgt := 125) f dX9_test_80 (by decide) (fun c6 => ?_) (fun c6 => ?_)
        · refine V_iconst (v := 0) f dX9_test_125 (by decide) ?_
          exact V_iret f q dX9_test_126 rfl (Nat.zero_le _) (Nat.zero_le _) ⟨rfl, rfl, Or.inr ⟨(txnx T N p), (txsq_y (m3of ((wd_c (d := 13) (RS_le hS).1 (by decide) (by decide)).mp c4) (by decide))).trans (txsq_n (at_0 kC5 e5 c6 (by decide))), rfl, e5, kR5⟩⟩
        · refine V_aload_n f dX9_test_83 1 rfl ?_
          refine V_getR f dX9_test_84 lf_9_60 rfl zm_0 rfl ?_
          refine V_aload_n f dX9_test_87 1 rfl ?_
          refine V_getE (x := Mx5 0 29) f dX9_test_88 lf_9_123 rfl zm_0 rfl ?_
          refine V_bald f dX9_test_91 zm_17 (tin kR5.1 kR5.1.2.2.1 (tne kR5.1 c6)) ?_
          refine V_bipush (v := 60) f dX9_test_92 (by decide) ?_
          refine V_icmp_eq (tgt := 127) f dX9_test_94 (by decide) (fun c7 => ?_) (fun c7 => ?_)
          · refine V_aload_n f dX9_test_127 1 rfl ?_
            refine V_getR f dX9_test_128 lf_9_94 rfl zm_0 rfl ?_
            refine V_iload_n f dX9_test_131 2 rfl ?_
            refine V_aload_n f dX9_test_132 1 rfl ?_
            refine V_getR f dX9_test_133 lf_9_60 rfl zm_0 rfl ?_
            refine V_aload_n f dX9_test_136 1 rfl ?_
            refine V_getE (x := Mx5 0 29) f dX9_test_137 lf_9_123 rfl zm_0 rfl ?_
            refine V_bald f dX9_test_140 zm_17 (tin kR5.1 kR5.1.2.2.1 (tne kR5.1 c6)) ?_
            refine V_iast f dX9_test_141 zm_27 ha ?_
            refine V_aload_n f dX9_test_142 1 rfl ?_
            refine V_dup f dX9_test_143 rfl ?_
            refine V_getE (x := Mx5 0 29) f dX9_test_144 lf_9_123 rfl zm_0 (up_c (by decide) rfl) ?_
            refine V_iconst (v := 1) f dX9_test_147 (by decide) ?_
            refine V_iadd f dX9_test_148 ?_
            refine V_putI f dX9_test_149 lf_9_123 lp_9_29 rfl rfl rfl rfl zm_0 ?_
            refine V_aload_n f dX9_test_152 1 rfl ?_
            refine V_cVp (As := []) (rest := []) f dX9_test_153 lk_X9_148 ml_X9_148 ins_X9_takesNumber sel_X9_takesNumber zm_0 (by decide) rfl (c4_X9_takesNumber _ _ _ _ ad (up2 (up2 Mx5 27 (Int32.toNatClampNeg a) (Mx5 17 (Int32.toNatClampNeg (Mx5 0 29)))) 0 29 ((Mx5 0 29) + 1)) T N (txnx T N (txnx T N p)) (RS_mv (RS_w kC5 (Kt_ct kR5 (by decide) _ _).1 (upo (by decide)) (upo (by decide))) (at_1 e5 (te_s (by decide) ((at_s kC5 e5 c6 (by decide)).mp c7)).1) (txte_b (RS_le kC5).1).2.1)) rfl (Nat.le_of_ble_eq_true rfl) rfl ⟨by decide, by decide⟩ ⟨Nat.zero_le _, Nat.zero_le _⟩ rfl rfl (fun v8 Mx8 hp8 => ?_)
            rcases hp8 with ⟨h8, rfl, hk8, e8, e44_8⟩ | ⟨h8, rfl, hk8, e8⟩
            · have kR8 : Kt tP M Mx8 := Kt_trans (Kt_at (Kt_ct kR5 (by decide) _ _) t1 (kt_b hS (at_1 e5 (te_s (by decide) ((at_s kC5 e5 c6 (by decide)).mp c7)).1) (txte_b (RS_le kC5).1).2.1)) (b_t hk8)
              have kC8 : RSx T N Mx8 (txnx T N (txnx T N (txnx T N p))) := (RS_nx (RS_mv (RS_w kC5 (Kt_ct kR5 (by decide) _ _).1 (upo (by decide)) (upo (by decide))) (at_1 e5 (te_s (by decide) ((at_s kC5 e5 c6 (by decide)).mp c7)).1) (txte_b (RS_le kC5).1).2.1) hk8 b17 e8)
              have k26_8 : Mx8 26 (Int32.toNatClampNeg a) = 2 := (congrFun (hk8.2.2 26 (by unfold bP; decide)) _).trans (up_c (by decide) (up_c (by decide) k26_5))
              have k27_8 : Mx8 27 (Int32.toNatClampNeg a) = (Mx5 17 (Int32.toNatClampNeg (Mx5 0 29))) := (congrFun (hk8.2.2 27 (by unfold bP; decide)) _).trans (up_c (by decide) up_s)
              show V K ad 0 0 ZM Mx8 156 [(2, .long (w64 T p (txln T N p - p))), (0, .ref (ad 0)), (1, .int a)] [.int 1]
              refine V_if_ne (tgt := 161) f dX9_test_156 (by decide) (fun _ => ?_) (fun h => absurd h (by decide))
              refine V_aload_n f dX9_test_161 1 rfl ?_
              refine V_getR f dX9_test_162 lf_9_97 rfl zm_0 rfl ?_
              refine V_iload_n f dX9_test_165 2 rfl ?_
              refine V_aload_n f dX9_test_166 1 rfl ?_
              refine V_getE (x := txtv T N (txnx T N (txnx T N p))) f dX9_test_167 lf_9_139 rfl zm_0 e44_8 ?_
              refine V_iast f dX9_test_170 zm_28 ha ?_
              refine V_iconst (v := 1) f dX9_test_171 (by decide) ?_
              exact V_iret f q dX9_test_172 rfl (Nat.zero_le _) (Nat.zero_le _) ⟨rfl, rfl, Or.inl ⟨(txnx T N (txnx T N (txnx T N p))), (txsq_y (m3of ((wd_c (d := 13) (RS_le hS).1 (by decide) (by decide)).mp c4) (by decide))).trans ((txsq_y (m3of ((at_s kC5 e5 c6 (by decide)).mp c7) (by decide))).trans ((txsq_y h8).trans (rfl))), rfl, (RS_w kC8 (Kt_ct kR8 (by decide) _ _).1 (upo (by decide)) (upo (by decide))), (Kt_ct kR8 (by decide) _ _)⟩⟩
            · have kR8 : Kt tP M Mx8 := Kt_trans (Kt_at (Kt_ct kR5 (by decide) _ _) t1 (kt_b hS (at_1 e5 (te_s (by decide) ((at_s kC5 e5 c6 (by decide)).mp c7)).1) (txte_b (RS_le kC5).1).2.1)) (b_t hk8)
              have kC8 : RSx T N Mx8 (txnx T N (txnx T N p)) := (RS_st (RS_mv (RS_w kC5 (Kt_ct kR5 (by decide) _ _).1 (upo (by decide)) (upo (by decide))) (at_1 e5 (te_s (by decide) ((at_s kC5 e5 c6 (by decide)).mp c7)).1) (txte_b (RS_le kC5).1).2.1) hk8 b17 e8)
              have k26_8 : Mx8 26 (Int32.toNatClampNeg a) = 2 := (congrFun (hk8.2.2 26 (by unfold bP; decide)) _).trans (up_c (by decide) (up_c (by decide) k26_5))
              have k27_8 : Mx8 27 (Int32.toNatClampNeg a) = (Mx5 17 (Int32.toNatClampNeg (Mx5 0 29))) := (congrFun (hk8.2.2 27 (by unfold bP; decide)) _).trans (up_c (by decide) up_s)
              show V K ad 0 0 ZM Mx8 156 [(2, .long (w64 T p (txln T N p - p))), (0, .ref (ad 0)), (1, .int a)] [.int 0]
              refine V_if_ne (tgt := 161) f dX9_test_156 (by decide) (fun h => absurd (by decide) h) (fun _ => ?_)
              refine V_iconst (v := 0) f dX9_test_159 (by decide) ?_
              exact V_iret f q dX9_test_160 rfl (Nat.zero_le _) (Nat.zero_le _) ⟨rfl, rfl, Or.inr ⟨(txnx T N (txnx T N p)), (txsq_y (m3of ((wd_c (d := 13) (RS_le hS).1 (by decide) (by decide)).mp c4) (by decide))).trans ((txsq_y (m3of ((at_s kC5 e5 c6 (by decide)).mp c7) (by decide))).trans (txsq_n h8)), rfl, e8, kR8⟩⟩
          · refine V_aload_n f dX9_test_97 1 rfl ?_
            refine V_getR f dX9_test_98 lf_9_60 rfl zm_0 rfl ?_
            refine V_aload_n f dX9_test_101 1 rfl ?_
            refine V_getE (x := Mx5 0 29) f dX9_test_102 lf_9_123 rfl zm_0 rfl ?_
            refine V_bald f dX9_test_105 zm_17 (tin kR5.1 kR5.1.2.2.1 (tne kR5.1 c6)) ?_
            refine V_bipush (v := 62) f dX9_test_106 (by decide) ?_
            refine V_icmp_eq (tgt := 127) f dX9_test_108 (by decide) (fun c9 => ?_) (fun c9 => ?_)
            · refine V_aload_n f dX9_test_127 1 rfl ?_
              refine V_getR f dX9_test_128 lf_9_94 rfl zm_0 rfl ?_
              refine V_iload_n f dX9_test_131 2 rfl ?_
              refine V_aload_n f dX9_test_132 1 rfl ?_
              refine V_getR f dX9_test_133 lf_9_60 rfl zm_0 rfl ?_
              refine V_aload_n f dX9_test_136 1 rfl ?_
              refine V_getE (x := Mx5 0 29) f dX9_test_137 lf_9_123 rfl zm_0 rfl ?_
              refine V_bald f dX9_test_140 zm_17 (tin kR5.1 kR5.1.2.2.1 (tne kR5.1 c6)) ?_
              refine V_iast f dX9_test_141 zm_27 ha ?_
              refine V_aload_n f dX9_test_142 1 rfl ?_
              refine V_dup f dX9_test_143 rfl ?_
              refine V_getE (x := Mx5 0 29) f dX9_test_144 lf_9_123 rfl zm_0 (up_c (by decide) rfl) ?_
              refine V_iconst (v := 1) f dX9_test_147 (by decide) ?_
              refine V_iadd f dX9_test_148 ?_
              refine V_putI f dX9_test_149 lf_9_123 lp_9_29 rfl rfl rfl rfl zm_0 ?_
              refine V_aload_n f dX9_test_152 1 rfl ?_
              refine V_cVp (As := []) (rest := []) f dX9_test_153 lk_X9_148 ml_X9_148 ins_X9_takesNumber sel_X9_takesNumber zm_0 (by decide) rfl (c4_X9_takesNumber _ _ _ _ ad (up2 (up2 Mx5 27 (Int32.toNatClampNeg a) (Mx5 17 (Int32.toNatClampNeg (Mx5 0 29)))) 0 29 ((Mx5 0 29) + 1)) T N (txnx T N (txnx T N p)) (RS_mv (RS_w kC5 (Kt_ct kR5 (by decide) _ _).1 (upo (by decide)) (upo (by decide))) (at_1 e5 (te_s (by decide) ((at_s kC5 e5 c6 (by decide)).mp c9)).1) (txte_b (RS_le kC5).1).2.1)) rfl (Nat.le_of_ble_eq_true rfl) rfl ⟨by decide, by decide⟩ ⟨Nat.zero_le _, Nat.zero_le _⟩ rfl rfl (fun v10 Mx10 hp10 => ?_)
              rcases hp10 with ⟨h10, rfl, hk10, e10, e44_10⟩ | ⟨h10, rfl, hk10, e10⟩
              · have kR10 : Kt tP M Mx10 := Kt_trans (Kt_at (Kt_ct kR5 (by decide) _ _) t1 (kt_b hS (at_1 e5 (te_s (by decide) ((at_s kC5 e5 c6 (by decide)).mp c9)).1) (txte_b (RS_le kC5).1).2.1)) (b_t hk10)
                have kC10 : RSx T N Mx10 (txnx T N (txnx T N (txnx T N p))) := (RS_nx (RS_mv (RS_w kC5 (Kt_ct kR5 (by decide) _ _).1 (upo (by decide)) (upo (by decide))) (at_1 e5 (te_s (by decide) ((at_s kC5 e5 c6 (by decide)).mp c9)).1) (txte_b (RS_le kC5).1).2.1) hk10 b17 e10)
                have k26_10 : Mx10 26 (Int32.toNatClampNeg a) = 2 := (congrFun (hk10.2.2 26 (by unfold bP; decide)) _).trans (up_c (by decide) (up_c (by decide) k26_5))
                have k27_10 : Mx10 27 (Int32.toNatClampNeg a) = (Mx5 17 (Int32.toNatClampNeg (Mx5 0 29))) := (congrFun (hk10.2.2 27 (by unfold bP; decide)) _).trans (up_c (by decide) up_s)
                show V K ad 0 0 ZM Mx10 156 [(2, .long (w64 T p (txln T N p - p))), (0, .ref (ad 0)), (1, .int a)] [.int 1]
                refine V_if_ne (tgt := 161) f dX9_test_156 (by decide) (fun _ => ?_) (fun h => absurd h (by decide))
                refine V_aload_n f dX9_test_161 1 rfl ?_
                refine V_getR f dX9_test_162 lf_9_97 rfl zm_0 rfl ?_
                refine V_iload_n f dX9_test_165 2 rfl ?_
                refine V_aload_n f dX9_test_166 1 rfl ?_
                refine V_getE (x := txtv T N (txnx T N (txnx T N p))) f dX9_test_167 lf_9_139 rfl zm_0 e44_10 ?_
                refine V_iast f dX9_test_170 zm_28 ha ?_
                refine V_iconst (v := 1) f dX9_test_171 (by decide) ?_
                exact V_iret f q dX9_test_172 rfl (Nat.zero_le _) (Nat.zero_le _) ⟨rfl, rfl, Or.inl ⟨(txnx T N (txnx T N (txnx T N p))), (txsq_y (m3of ((wd_c (d := 13) (RS_le hS).1 (by decide) (by decide)).mp c4) (by decide))).trans ((txsq_y (m3of ((at_s kC5 e5 c6 (by decide)).mp c9) (by decide))).trans ((txsq_y h10).trans (rfl))), rfl, (RS_w kC10 (Kt_ct kR10 (by decide) _ _).1 (upo (by decide)) (upo (by decide))), (Kt_ct kR10 (by decide) _ _)⟩⟩
              · have kR10 : Kt tP M Mx10 := Kt_trans (Kt_at (Kt_ct kR5 (by decide) _ _) t1 (kt_b hS (at_1 e5 (te_s (by decide) ((at_s kC5 e5 c6 (by decide)).mp c9)).1) (txte_b (RS_le kC5).1).2.1)) (b_t hk10)
                have kC10 : RSx T N Mx10 (txnx T N (txnx T N p)) := (RS_st (RS_mv (RS_w kC5 (Kt_ct kR5 (by decide) _ _).1 (upo (by decide)) (upo (by decide))) (at_1 e5 (te_s (by decide) ((at_s kC5 e5 c6 (by decide)).mp c9)).1) (txte_b (RS_le kC5).1).2.1) hk10 b17 e10)
                have k26_10 : Mx10 26 (Int32.toNatClampNeg a) = 2 := (congrFun (hk10.2.2 26 (by unfold bP; decide)) _).trans (up_c (by decide) (up_c (by decide) k26_5))
                have k27_10 : Mx10 27 (Int32.toNatClampNeg a) = (Mx5 17 (Int32.toNatClampNeg (Mx5 0 29))) := (congrFun (hk10.2.2 27 (by unfold bP; decide)) _).trans (up_c (by decide) up_s)
                show V K ad 0 0 ZM Mx10 156 [(2, .long (w64 T p (txln T N p - p))), (0, .ref (ad 0)), (1, .int a)] [.int 0]
                refine V_if_ne (tgt := 161) f dX9_test_156 (by decide) (fun h => absurd (by decide) h) (fun _ => ?_)
                refine V_iconst (v := 0) f dX9_test_159 (by decide) ?_
                exact V_iret f q dX9_test_160 rfl (Nat.zero_le _) (Nat.zero_le _) ⟨rfl, rfl, Or.inr ⟨(txnx T N (txnx T N p)), (txsq_y (m3of ((wd_c (d := 13) (RS_le hS).1 (by decide) (by decide)).mp c4) (by decide))).trans ((txsq_y (m3of ((at_s kC5 e5 c6 (by decide)).mp c9) (by decide))).trans (txsq_n h10)), rfl, e10, kR10⟩⟩
            · refine V_aload_n f dX9_test_111 1 rfl ?_
              refine V_getR f dX9_test_112 lf_9_60 rfl zm_0 rfl ?_
              refine V_aload_n f dX9_test_115 1 rfl ?_
              refine V_getE (x := Mx5 0 29) f dX9_test_116 lf_9_123 rfl zm_0 rfl ?_
              refine V_bald f dX9_test_119 zm_17 (tin kR5.1 kR5.1.2.2.1 (tne kR5.1 c6)) ?_
              refine V_bipush (v := 61) f dX9_test_120 (by decide) ?_
              refine V_icmp_eq (tgt := 127) f dX9_test_122 (by decide) (fun c11 => ?_) (fun c11 => ?_)
              · refine V_aload_n f dX9_test_127 1 rfl ?_
                refine V_getR f dX9_test_128 lf_9_94 rfl zm_0 rfl ?_
                refine V_iload_n f dX9_test_131 2 rfl ?_
                refine V_aload_n f dX9_test_132 1 rfl ?_
                refine V_getR f dX9_test_133 lf_9_60 rfl zm_0 rfl ?_
                refine V_aload_n f dX9_test_136 1 rfl ?_
                refine V_getE (x := Mx5 0 29) f dX9_test_137 lf_9_123 rfl zm_0 rfl ?_
                refine V_bald f dX9_test_140 zm_17 (tin kR5.1 kR5.1.2.2.1 (tne kR5.1 c6)) ?_
                refine V_iast f dX9_test_141 zm_27 ha ?_
                refine V_aload_n f dX9_test_142 1 rfl ?_
                refine V_dup f dX9_test_143 rfl ?_
                refine V_getE (x := Mx5 0 29) f dX9_test_144 lf_9_123 rfl zm_0 (up_c (by decide) rfl) ?_
                refine V_iconst (v := 1) f dX9_test_147 (by decide) ?_
                refine V_iadd f dX9_test_148 ?_
                refine V_putI f dX9_test_149 lf_9_123 lp_9_29 rfl rfl rfl rfl zm_0 ?_
                refine V_aload_n f dX9_test_152 1 rfl ?_
                refine V_cVp (As := []) (rest := []) f dX9_test_153 lk_X9_148 ml_X9_148 ins_X9_takesNumber sel_X9_takesNumber zm_0 (by decide) rfl (c4_X9_takesNumber _ _ _ _ ad (up2 (up2 Mx5 27 (Int32.toNatClampNeg a) (Mx5 17 (Int32.toNatClampNeg (Mx5 0 29)))) 0 29 ((Mx5 0 29) + 1)) T N (txnx T N (txnx T N p)) (RS_mv (RS_w kC5 (Kt_ct kR5 (by decide) _ _).1 (upo (by decide)) (upo (by decide))) (at_1 e5 (te_s (by decide) ((at_s kC5 e5 c6 (by decide)).mp c11)).1) (txte_b (RS_le kC5).1).2.1)) rfl (Nat.le_of_ble_eq_true rfl) rfl ⟨by decide, by decide⟩ ⟨Nat.zero_le _, Nat.zero_le _⟩ rfl rfl (fun v12 Mx12 hp12 => ?_)
                rcases hp12 with ⟨h12, rfl, hk12, e12, e44_12⟩ | ⟨h12, rfl, hk12, e12⟩
                · have kR12 : Kt tP M Mx12 := Kt_trans (Kt_at (Kt_ct kR5 (by decide) _ _) t1 (kt_b hS (at_1 e5 (te_s (by decide) ((at_s kC5 e5 c6 (by decide)).mp c11)).1) (txte_b (RS_le kC5).1).2.1)) (b_t hk12)
                  have kC12 : RSx T N Mx12 (txnx T N (txnx T N (txnx T N p))) := (RS_nx (RS_mv (RS_w kC5 (Kt_ct kR5 (by decide) _ _).1 (upo (by decide)) (upo (by decide))) (at_1 e5 (te_s (by decide) ((at_s kC5 e5 c6 (by decide)).mp c11)).1) (txte_b (RS_le kC5).1).2.1) hk12 b17 e12)
                  have k26_12 : Mx12 26 (Int32.toNatClampNeg a) = 2 := (congrFun (hk12.2.2 26 (by unfold bP; decide)) _).trans (up_c (by decide) (up_c (by decide) k26_5))
                  have k27_12 : Mx12 27 (Int32.toNatClampNeg a) = (Mx5 17 (Int32.toNatClampNeg (Mx5 0 29))) := (congrFun (hk12.2.2 27 (by unfold bP; decide)) _).trans (up_c (by decide) up_s)
                  show V K ad 0 0 ZM Mx12 156 [(2, .long (w64 T p (txln T N p - p))), (0, .ref (ad 0)), (1, .int a)] [.int 1]
                  refine V_if_ne (tgt := 161) f dX9_test_156 (by decide) (fun _ => ?_) (fun h => absurd h (by decide))
                  refine V_aload_n f dX9_test_161 1 rfl ?_
                  refine V_getR f dX9_test_162 lf_9_97 rfl zm_0 rfl ?_
                  refine V_iload_n f dX9_test_165 2 rfl ?_
                  refine V_aload_n f dX9_test_166 1 rfl ?_
                  refine V_getE (x := txtv T N (txnx T N (txnx T N p))) f dX9_test_167 lf_9_139 rfl zm_0 e44_12 ?_
                  refine V_iast f dX9_test_170 zm_28 ha ?_
                  refine V_iconst (v := 1) f dX9_test_171 (by decide) ?_
                  exact V_iret f q dX9_test_172 rfl (Nat.zero_le _) (Nat.zero_le _) ⟨rfl, rfl, Or.inl ⟨(txnx T N (txnx T N (txnx T N p))), (txsq_y (m3of ((wd_c (d := 13) (RS_le hS).1 (by decide) (by decide)).mp c4) (by decide))).trans ((txsq_y (m3of ((at_s kC5 e5 c6 (by decide)).mp c11) (by decide))).trans ((txsq_y h12).trans (rfl))), rfl, (RS_w kC12 (Kt_ct kR12 (by decide) _ _).1 (upo (by decide)) (upo (by decide))), (Kt_ct kR12 (by decide) _ _)⟩⟩
                · have kR12 : Kt tP M Mx12 := Kt_trans (Kt_at (Kt_ct kR5 (by decide) _ _) t1 (kt_b hS (at_1 e5 (te_s (by decide) ((at_s kC5 e5 c6 (by decide)).mp c11)).1) (txte_b (RS_le kC5).1).2.1)) (b_t hk12)
                  have kC12 : RSx T N Mx12 (txnx T N (txnx T N p)) := (RS_st (RS_mv (RS_w kC5 (Kt_ct kR5 (by decide) _ _).1 (upo (by decide)) (upo (by decide))) (at_1 e5 (te_s (by decide) ((at_s kC5 e5 c6 (by decide)).mp c11)).1) (txte_b (RS_le kC5).1).2.1) hk12 b17 e12)
                  have k26_12 : Mx12 26 (Int32.toNatClampNeg a) = 2 := (congrFun (hk12.2.2 26 (by unfold bP; decide)) _).trans (up_c (by decide) (up_c (by decide) k26_5))
                  have k27_12 : Mx12 27 (Int32.toNatClampNeg a) = (Mx5 17 (Int32.toNatClampNeg (Mx5 0 29))) := (congrFun (hk12.2.2 27 (by unfold bP; decide)) _).trans (up_c (by decide) up_s)
                  show V K ad 0 0 ZM Mx12 156 [(2, .long (w64 T p (txln T N p - p))), (0, .ref (ad 0)), (1, .int a)] [.int 0]
                  refine V_if_ne (tgt := 161) f dX9_test_156 (by decide) (fun h => absurd (by decide) h) (fun _ => ?_)
                  refine V_iconst (v := 0) f dX9_test_159 (by decide) ?_
                  exact V_iret f q dX9_test_160 rfl (Nat.zero_le _) (Nat.zero_le _) ⟨rfl, rfl, Or.inr ⟨(txnx T N (txnx T N p)), (txsq_y (m3of ((wd_c (d := 13) (RS_le hS).1 (by decide) (by decide)).mp c4) (by decide))).trans ((txsq_y (m3of ((at_s kC5 e5 c6 (by decide)).mp c11) (by decide))).trans (txsq_n h12)), rfl, e12, kR12⟩⟩
              · refine V_iconst (v := 0) f dX9_test_125 (by decide) ?_
                exact V_iret f q dX9_test_126 rfl (Nat.zero_le _) (Nat.zero_le _) ⟨rfl, rfl, Or.inr ⟨(txnx T N p), (txsq_y (m3of ((wd_c (d := 13) (RS_le hS).1 (by decide) (by decide)).mp c4) (by decide))).trans (txsq_n (sg_3 kC5 e5 c6 c7 c9 c11)), rfl, e5, kR5⟩⟩
    · refine V_iconst (v := 1) f dX9_test_30 (by decide) ?_
      refine V_goto (tgt := 47) f dX9_test_31 (by decide) ?_
      refine V_iast f dX9_test_47 zm_26 ha ?_
      refine V_aload_n f dX9_test_48 1 rfl ?_
      refine V_getR f dX9_test_49 lf_9_91 rfl zm_0 rfl ?_
      refine V_iload_n f dX9_test_52 2 rfl ?_
      refine V_ialdE (x := 1) f dX9_test_53 zm_26 ha up_s ?_
      refine V_iconst (v := (-1)) f dX9_test_54 (by decide) ?_
      refine V_icmp_ne (tgt := 60) f dX9_test_55 (by decide) (fun _ => ?_) (fun h => absurd h (by decide))
      refine V_aload_n f dX9_test_60 1 rfl ?_
      refine V_aload_n f dX9_test_61 1 rfl ?_
      refine V_getE (x := Mx1 0 43) f dX9_test_62 lf_9_132 rfl zm_0 (up_c (by decide) rfl) ?_
      refine V_putI f dX9_test_65 lf_9_123 lp_9_29 rfl rfl rfl rfl zm_0 ?_
      refine V_aload_n f dX9_test_68 1 rfl ?_
      refine V_cVp (As := []) (rest := []) f dX9_test_69 lk_X9_129 ml_X9_129 ins_X9_blanks sel_X9_blanks zm_0 (by decide) rfl (c4_X9_blanks _ _ _ _ ad (up2 (up2 Mx1 26 (Int32.toNatClampNeg a) 1) 0 29 (Mx1 0 43)) T N (txnx T N p) (RS_mv (RS_w kC1 (Kt_ct kR1 (by decide) _ _).1 (upo (by decide)) (upo (by decide))) (e43_1.trans (congrArg Int32.ofNat (te_w (by decide) ((wd_c (d := 12) (RS_le hS).1 (by decide) (by decide)).mp c3)).1.symm)) (txte_b (RS_le kC1).1).2.1)) rfl (Nat.le_of_ble_eq_true rfl) rfl ⟨by decide, by decide⟩ ⟨Nat.zero_le _, Nat.zero_le _⟩ rfl rfl (fun v13 Mx13 hp13 => ?_)
      obtain ⟨rfl, hk13, e13⟩ := hp13
      have kR13 : Kt tP M Mx13 := Kt_trans (Kt_at (Kt_ct kR1 (by decide) _ _) t1 (kt_b hS (e43_1.trans (congrArg Int32.ofNat (te_w (by decide) ((wd_c (d := 12) (RS_le hS).1 (by decide) (by decide)).mp c3)).1.symm)) (txte_b (RS_le kC1).1).2.1)) (b_t hk13)
      have kC13 : RSx T N Mx13 (txnx T N p) := (RS_st (RS_mv (RS_w kC1 (Kt_ct kR1 (by decide) _ _).1 (upo (by decide)) (upo (by decide))) (e43_1.trans (congrArg Int32.ofNat (te_w (by decide) ((wd_c (d := 12) (RS_le hS).1 (by decide) (by decide)).mp c3)).1.symm)) (txte_b (RS_le kC1).1).2.1) hk13 b17 e13)
      have k26_13 : Mx13 26 (Int32.toNatClampNeg a) = 1 := (congrFun (hk13.2.2 26 (by unfold bP; decide)) _).trans (up_c (by decide) up_s)
      show V K ad 0 0 ZM Mx13 72 [(2, .long (w64 T p (txln T N p - p))), (0, .ref (ad 0)), (1, .int a)] []
      refine V_aload_n f dX9_test_72 1 rfl ?_
      refine V_getE (x := Mx13 0 29) f dX9_test_73 lf_9_123 rfl zm_0 rfl ?_
      refine V_aload_n f dX9_test_76 1 rfl ?_
      refine V_getE (x := Mx13 0 28) f dX9_test_77 lf_9_126 rfl zm_0 rfl ?_
      refine V_icmp_eq (tgt := 125) f dX9_test_80 (by decide) (fun c14 => ?_) (fun c14 => ?_)
      · refine V_iconst (v := 0) f dX9_test_125 (by decide) ?_
        exact V_iret f q dX9_test_126 rfl (Nat.zero_le _) (Nat.zero_le _) ⟨rfl, rfl, Or.inr ⟨(txnx T N p), (txsq_y (m3of ((wd_c (d := 12) (RS_le hS).1 (by decide) (by decide)).mp c3) (by decide))).trans (txsq_n (at_0 kC13 e13 c14 (by decide))), rfl, e13, kR13⟩⟩
      · refine V_aload_n f dX9_test_83 1 rfl ?_
        refine V_getR f dX9_test_84 lf_9_60 rfl zm_0 rfl ?_
        refine V_aload_n f dX9_test_87 1 rfl ?_
        refine V_getE (x := Mx13 0 29) f dX9_test_88 lf_9_123 rfl zm_0 rfl ?_
        refine V_bald f dX9_test_91 zm_17 (tin kR13.1 kR13.1.2.2.1 (tne kR13.1 c14)) ?_
        refine V_bipush (v := 60) f dX9_test_92 (by decide) ?_
        refine V_icmp_eq (tgt := 127) f dX9_test_94 (by decide) (fun c15 => ?_) (fun c15 => ?_)
        · refine V_aload_n f dX9_test_127 1 rfl ?_
          refine V_getR f dX9_test_128 lf_9_94 rfl zm_0 rfl ?_
          refine V_iload_n f dX9_test_131 2 rfl ?_
          refine V_aload_n f dX9_test_132 1 rfl ?_
          refine V_getR f dX9_test_133 lf_9_60 rfl zm_0 rfl ?_
          refine V_aload_n f dX9_test_136 1 rfl ?_
          refine V_getE (x := Mx13 0 29) f dX9_test_137 lf_9_123 rfl zm_0 rfl ?_
          refine V_bald f dX9_test_140 zm_17 (tin kR13.1 kR13.1.2.2.1 (tne kR13.1 c14)) ?_
          refine V_iast f dX9_test_141 zm_27 ha ?_
          refine V_aload_n f dX9_test_142 1 rfl ?_
          refine V_dup f dX9_test_143 rfl ?_
          refine V_getE (x := Mx13 0 29) f dX9_test_144 lf_9_123 rfl zm_0 (up_c (by decide) rfl) ?_
          refine V_iconst (v := 1) f dX9_test_147 (by decide) ?_
          refine V_iadd f dX9_test_148 ?_
          refine V_putI f dX9_test_149 lf_9_123 lp_9_29 rfl rfl rfl rfl zm_0 ?_
          refine V_aload_n f dX9_test_152 1 rfl ?_
          refine V_cVp (As := []) (rest := []) f dX9_test_153 lk_X9_148 ml_X9_148 ins_X9_takesNumber sel_X9_takesNumber zm_0 (by decide) rfl (c4_X9_takesNumber _ _ _ _ ad (up2 (up2 Mx13 27 (Int32.toNatClampNeg a) (Mx13 17 (Int32.toNatClampNeg (Mx13 0 29)))) 0 29 ((Mx13 0 29) + 1)) T N (txnx T N (txnx T N p)) (RS_mv (RS_w kC13 (Kt_ct kR13 (by decide) _ _).1 (upo (by decide)) (upo (by decide))) (at_1 e13 (te_s (by decide) ((at_s kC13 e13 c14 (by decide)).mp c15)).1) (txte_b (RS_le kC13).1).2.1)) rfl (Nat.le_of_ble_eq_true rfl) rfl ⟨by decide, by decide⟩ ⟨Nat.zero_le _, Nat.zero_le _⟩ rfl rfl (fun v16 Mx16 hp16 => ?_)
          rcases hp16 with ⟨h16, rfl, hk16, e16, e44_16⟩ | ⟨h16, rfl, hk16, e16⟩
          · have kR16 : Kt tP M Mx16 := Kt_trans (Kt_at (Kt_ct kR13 (by decide) _ _) t1 (kt_b hS (at_1 e13 (te_s (by decide) ((at_s kC13 e13 c14 (by decide)).mp c15)).1) (txte_b (RS_le kC13).1).2.1)) (b_t hk16)
            have kC16 : RSx T N Mx16 (txnx T N (txnx T N (txnx T N p))) := (RS_nx (RS_mv (RS_w kC13 (Kt_ct kR13 (by decide) _ _).1 (upo (by decide)) (upo (by decide))) (at_1 e13 (te_s (by decide) ((at_s kC13 e13 c14 (by decide)).mp c15)).1) (txte_b (RS_le kC13).1).2.1) hk16 b17 e16)
            have k26_16 : Mx16 26 (Int32.toNatClampNeg a) = 1 := (congrFun (hk16.2.2 26 (by unfold bP; decide)) _).trans (up_c (by decide) (up_c (by decide) k26_13))
            have k27_16 : Mx16 27 (Int32.toNatClampNeg a) = (Mx13 17 (Int32.toNatClampNeg (Mx13 0 29))) := (congrFun (hk16.2.2 27 (by unfold bP; decide)) _).trans (up_c (by decide) up_s)
            show V K ad 0 0 ZM Mx16 156 [(2, .long (w64 T p (txln T N p - p))), (0, .ref (ad 0)), (1, .int a)] [.int 1]
            refine V_if_ne (tgt := 161) f dX9_test_156 (by decide) (fun _ => ?_) (fun h => absurd h (by decide))
            refine V_aload_n f dX9_test_161 1 rfl ?_
            refine V_getR f dX9_test_162 lf_9_97 rfl zm_0 rfl ?_
            refine V_iload_n f dX9_test_165 2 rfl ?_
            refine V_aload_n f dX9_test_166 1 rfl ?_
            refine V_getE (x := txtv T N (txnx T N (txnx T N p))) f dX9_test_167 lf_9_139 rfl zm_0 e44_16 ?_
            refine V_iast f dX9_test_170 zm_28 ha ?_
            refine V_iconst (v := 1) f dX9_test_171 (by decide) ?_
            exact V_iret f q dX9_test_172 rfl (Nat.zero_le _) (Nat.zero_le _) ⟨rfl, rfl, Or.inl ⟨(txnx T N (txnx T N (txnx T N p))), (txsq_y (m3of ((wd_c (d := 12) (RS_le hS).1 (by decide) (by decide)).mp c3) (by decide))).trans ((txsq_y (m3of ((at_s kC13 e13 c14 (by decide)).mp c15) (by decide))).trans ((txsq_y h16).trans (rfl))), rfl, (RS_w kC16 (Kt_ct kR16 (by decide) _ _).1 (upo (by decide)) (upo (by decide))), (Kt_ct kR16 (by decide) _ _)⟩⟩
          · have kR16 : Kt tP M Mx16 := Kt_trans (Kt_at (Kt_ct kR13 (by decide) _ _) t1 (kt_b hS (at_1 e13 (te_s (by decide) ((at_s kC13 e13 c14 (by decide)).mp c15)).1) (txte_b (RS_le kC13).1).2.1)) (b_t hk16)
            have kC16 : RSx T N Mx16 (txnx T N (txnx T N p)) := (RS_st (RS_mv (RS_w kC13 (Kt_ct kR13 (by decide) _ _).1 (upo (by decide)) (upo (by decide))) (at_1 e13 (te_s (by decide) ((at_s kC13 e13 c14 (by decide)).mp c15)).1) (txte_b (RS_le kC13).1).2.1) hk16 b17 e16)
            have k26_16 : Mx16 26 (Int32.toNatClampNeg a) = 1 := (congrFun (hk16.2.2 26 (by unfold bP; decide)) _).trans (up_c (by decide) (up_c (by decide) k26_13))
            have k27_16 : Mx16 27 (Int32.toNatClampNeg a) = (Mx13 17 (Int32.toNatClampNeg (Mx13 0 29))) := (congrFun (hk16.2.2 27 (by unfold bP; decide)) _).trans (up_c (by decide) up_s)
            show V K ad 0 0 ZM Mx16 156 [(2, .long (w64 T p (txln T N p - p))), (0, .ref (ad 0)), (1, .int a)] [.int 0]
            refine V_if_ne (tgt := 161) f dX9_test_156 (by decide) (fun h => absurd (by decide) h) (fun _ => ?_)
            refine V_iconst (v := 0) f dX9_test_159 (by decide) ?_
            exact V_iret f q dX9_test_160 rfl (Nat.zero_le _) (Nat.zero_le _) ⟨rfl, rfl, Or.inr ⟨(txnx T N (txnx T N p)), (txsq_y (m3of ((wd_c (d := 12) (RS_le hS).1 (by decide) (by decide)).mp c3) (by decide))).trans ((txsq_y (m3of ((at_s kC13 e13 c14 (by decide)).mp c15) (by decide))).trans (txsq_n h16)), rfl, e16, kR16⟩⟩
        · refine V_aload_n f dX9_test_97 1 rfl ?_
          refine V_getR f dX9_test_98 lf_9_60 rfl zm_0 rfl ?_
          refine V_aload_n f dX9_test_101 1 rfl ?_
          refine V_getE (x := Mx13 0 29) f dX9_test_102 lf_9_123 rfl zm_0 rfl ?_
          refine V_bald f dX9_test_105 zm_17 (tin kR13.1 kR13.1.2.2.1 (tne kR13.1 c14)) ?_
          refine V_bipush (v := 62) f dX9_test_106 (by decide) ?_
          refine V_icmp_eq (tgt := 127) f dX9_test_108 (by decide) (fun c17 => ?_) (fun c17 => ?_)
          · refine V_aload_n f dX9_test_127 1 rfl ?_
            refine V_getR f dX9_test_128 lf_9_94 rfl zm_0 rfl ?_
            refine V_iload_n f dX9_test_131 2 rfl ?_
            refine V_aload_n f dX9_test_132 1 rfl ?_
            refine V_getR f dX9_test_133 lf_9_60 rfl zm_0 rfl ?_
            refine V_aload_n f dX9_test_136 1 rfl ?_
            refine V_getE (x := Mx13 0 29) f dX9_test_137 lf_9_123 rfl zm_0 rfl ?_
            refine V_bald f dX9_test_140 zm_17 (tin kR13.1 kR13.1.2.2.1 (tne kR13.1 c14)) ?_
            refine V_iast f dX9_test_141 zm_27 ha ?_
            refine V_aload_n f dX9_test_142 1 rfl ?_
            refine V_dup f dX9_test_143 rfl ?_
            refine V_getE (x := Mx13 0 29) f dX9_test_144 lf_9_123 rfl zm_0 (up_c (by decide) rfl) ?_
            refine V_iconst (v := 1) f dX9_test_147 (by decide) ?_
            refine V_iadd f dX9_test_148 ?_
            refine V_putI f dX9_test_149 lf_9_123 lp_9_29 rfl rfl rfl rfl zm_0 ?_
            refine V_aload_n f dX9_test_152 1 rfl ?_
            refine V_cVp (As := []) (rest := []) f dX9_test_153 lk_X9_148 ml_X9_148 ins_X9_takesNumber sel_X9_takesNumber zm_0 (by decide) rfl (c4_X9_takesNumber _ _ _ _ ad (up2 (up2 Mx13 27 (Int32.toNatClampNeg a) (Mx13 17 (Int32.toNatClampNeg (Mx13 0 29)))) 0 29 ((Mx13 0 29) + 1)) T N (txnx T N (txnx T N p)) (RS_mv (RS_w kC13 (Kt_ct kR13 (by decide) _ _).1 (upo (by decide)) (upo (by decide))) (at_1 e13 (te_s (by decide) ((at_s kC13 e13 c14 (by decide)).mp c17)).1) (txte_b (RS_le kC13).1).2.1)) rfl (Nat.le_of_ble_eq_true rfl) rfl ⟨by decide, by decide⟩ ⟨Nat.zero_le _, Nat.zero_le _⟩ rfl rfl (fun v18 Mx18 hp18 => ?_)
            rcases hp18 with ⟨h18, rfl, hk18, e18, e44_18⟩ | ⟨h18, rfl, hk18, e18⟩
            · have kR18 : Kt tP M Mx18 := Kt_trans (Kt_at (Kt_ct kR13 (by decide) _ _) t1 (kt_b hS (at_1 e13 (te_s (by decide) ((at_s kC13 e13 c14 (by decide)).mp c17)).1) (txte_b (RS_le kC13).1).2.1)) (b_t hk18)
              have kC18 : RSx T N Mx18 (txnx T N (txnx T N (txnx T N p))) := (RS_nx (RS_mv (RS_w kC13 (Kt_ct kR13 (by decide) _ _).1 (upo (by decide)) (upo (by decide))) (at_1 e13 (te_s (by decide) ((at_s kC13 e13 c14 (by decide)).mp c17)).1) (txte_b (RS_le kC13).1).2.1) hk18 b17 e18)
              have k26_18 : Mx18 26 (Int32.toNatClampNeg a) = 1 := (congrFun (hk18.2.2 26 (by unfold bP; decide)) _).trans (up_c (by decide) (up_c (by decide) k26_13))
              have k27_18 : Mx18 27 (Int32.toNatClampNeg a) = (Mx13 17 (Int32.toNatClampNeg (Mx13 0 29))) := (congrFun (hk18.2.2 27 (by unfold bP; decide)) _).trans (up_c (by decide) up_s)
              show V K ad 0 0 ZM Mx18 156 [(2, .long (w64 T p (txln T N p - p))), (0, .ref (ad 0)), (1, .int a)] [.int 1]
              refine V_if_ne (tgt := 161) f dX9_test_156 (by decide) (fun _ => ?_) (fun h => absurd h (by decide))
              refine V_aload_n f dX9_test_161 1 rfl ?_
              refine V_getR f dX9_test_162 lf_9_97 rfl zm_0 rfl ?_
              refine V_iload_n f dX9_test_165 2 rfl ?_
              refine V_aload_n f dX9_test_166 1 rfl ?_
              refine V_getE (x := txtv T N (txnx T N (txnx T N p))) f dX9_test_167 lf_9_139 rfl zm_0 e44_18 ?_
              refine V_iast f dX9_test_170 zm_28 ha ?_
              refine V_iconst (v := 1) f dX9_test_171 (by decide) ?_
              exact V_iret f q dX9_test_172 rfl (Nat.zero_le _) (Nat.zero_le _) ⟨rfl, rfl, Or.inl ⟨(txnx T N (txnx T N (txnx T N p))), (txsq_y (m3of ((wd_c (d := 12) (RS_le hS).1 (by decide) (by decide)).mp c3) (by decide))).trans ((txsq_y (m3of ((at_s kC13 e13 c14 (by decide)).mp c17) (by decide))).trans ((txsq_y h18).trans (rfl))), rfl, (RS_w kC18 (Kt_ct kR18 (by decide) _ _).1 (upo (by decide)) (upo (by decide))), (Kt_ct kR18 (by decide) _ _)⟩⟩
            · have kR18 : Kt tP M Mx18 := Kt_trans (Kt_at (Kt_ct kR13 (by decide) _ _) t1 (kt_b hS (at_1 e13 (te_s (by decide) ((at_s kC13 e13 c14 (by decide)).mp c17)).1) (txte_b (RS_le kC13).1).2.1)) (b_t hk18)
              have kC18 : RSx T N Mx18 (txnx T N (txnx T N p)) := (RS_st (RS_mv (RS_w kC13 (Kt_ct kR13 (by decide) _ _).1 (upo (by decide)) (upo (by decide))) (at_1 e13 (te_s (by decide) ((at_s kC13 e13 c14 (by decide)).mp c17)).1) (txte_b (RS_le kC13).1).2.1) hk18 b17 e18)
              have k26_18 : Mx18 26 (Int32.toNatClampNeg a) = 1 := (congrFun (hk18.2.2 26 (by unfold bP; decide)) _).trans (up_c (by decide) (up_c (by decide) k26_13))
              have k27_18 : Mx18 27 (Int32.toNatClampNeg a) = (Mx13 17 (Int32.toNatClampNeg (Mx13 0 29))) := (congrFun (hk18.2.2 27 (by unfold bP; decide)) _).trans (up_c (by decide) up_s)
              show V K ad 0 0 ZM Mx18 156 [(2, .long (w64 T p (txln T N p - p))), (0, .ref (ad 0)), (1, .int a)] [.int 0]
              refine V_if_ne (tgt := 161) f dX9_test_156 (by decide) (fun h => absurd (by decide) h) (fun _ => ?_)
              refine V_iconst (v := 0) f dX9_test_159 (by decide) ?_
              exact V_iret f q dX9_test_160 rfl (Nat.zero_le _) (Nat.zero_le _) ⟨rfl, rfl, Or.inr ⟨(txnx T N (txnx T N p)), (txsq_y (m3of ((wd_c (d := 12) (RS_le hS).1 (by decide) (by decide)).mp c3) (by decide))).trans ((txsq_y (m3of ((at_s kC13 e13 c14 (by decide)).mp c17) (by decide))).trans (txsq_n h18)), rfl, e18, kR18⟩⟩
          · refine V_aload_n f dX9_test_111 1 rfl ?_
            refine V_getR f dX9_test_112 lf_9_60 rfl zm_0 rfl ?_
            refine V_aload_n f dX9_test_115 1 rfl ?_
            refine V_getE (x := Mx13 0 29) f dX9_test_116 lf_9_123 rfl zm_0 rfl ?_
            refine V_bald f dX9_test_119 zm_17 (tin kR13.1 kR13.1.2.2.1 (tne kR13.1 c14)) ?_
            refine V_bipush (v := 61) f dX9_test_120 (by decide) ?_
            refine V_icmp_eq (tgt := 127) f dX9_test_122 (by decide) (fun c19 => ?_) (fun c19 => ?_)
            · refine V_aload_n f dX9_test_127 1 rfl ?_
              refine V_getR f dX9_test_128 lf_9_94 rfl zm_0 rfl ?_
              refine V_iload_n f dX9_test_131 2 rfl ?_
              refine V_aload_n f dX9_test_132 1 rfl ?_
              refine V_getR f dX9_test_133 lf_9_60 rfl zm_0 rfl ?_
              refine V_aload_n f dX9_test_136 1 rfl ?_
              refine V_getE (x := Mx13 0 29) f dX9_test_137 lf_9_123 rfl zm_0 rfl ?_
              refine V_bald f dX9_test_140 zm_17 (tin kR13.1 kR13.1.2.2.1 (tne kR13.1 c14)) ?_
              refine V_iast f dX9_test_141 zm_27 ha ?_
              refine V_aload_n f dX9_test_142 1 rfl ?_
              refine V_dup f dX9_test_143 rfl ?_
              refine V_getE (x := Mx13 0 29) f dX9_test_144 lf_9_123 rfl zm_0 (up_c (by decide) rfl) ?_
              refine V_iconst (v := 1) f dX9_test_147 (by decide) ?_
              refine V_iadd f dX9_test_148 ?_
              refine V_putI f dX9_test_149 lf_9_123 lp_9_29 rfl rfl rfl rfl zm_0 ?_
              refine V_aload_n f dX9_test_152 1 rfl ?_
              refine V_cVp (As := []) (rest := []) f dX9_test_153 lk_X9_148 ml_X9_148 ins_X9_takesNumber sel_X9_takesNumber zm_0 (by decide) rfl (c4_X9_takesNumber _ _ _ _ ad (up2 (up2 Mx13 27 (Int32.toNatClampNeg a) (Mx13 17 (Int32.toNatClampNeg (Mx13 0 29)))) 0 29 ((Mx13 0 29) + 1)) T N (txnx T N (txnx T N p)) (RS_mv (RS_w kC13 (Kt_ct kR13 (by decide) _ _).1 (upo (by decide)) (upo (by decide))) (at_1 e13 (te_s (by decide) ((at_s kC13 e13 c14 (by decide)).mp c19)).1) (txte_b (RS_le kC13).1).2.1)) rfl (Nat.le_of_ble_eq_true rfl) rfl ⟨by decide, by decide⟩ ⟨Nat.zero_le _, Nat.zero_le _⟩ rfl rfl (fun v20 Mx20 hp20 => ?_)
              rcases hp20 with ⟨h20, rfl, hk20, e20, e44_20⟩ | ⟨h20, rfl, hk20, e20⟩
              · have kR20 : Kt tP M Mx20 := Kt_trans (Kt_at (Kt_ct kR13 (by decide) _ _) t1 (kt_b hS (at_1 e13 (te_s (by decide) ((at_s kC13 e13 c14 (by decide)).mp c19)).1) (txte_b (RS_le kC13).1).2.1)) (b_t hk20)
                have kC20 : RSx T N Mx20 (txnx T N (txnx T N (txnx T N p))) := (RS_nx (RS_mv (RS_w kC13 (Kt_ct kR13 (by decide) _ _).1 (upo (by decide)) (upo (by decide))) (at_1 e13 (te_s (by decide) ((at_s kC13 e13 c14 (by decide)).mp c19)).1) (txte_b (RS_le kC13).1).2.1) hk20 b17 e20)
                have k26_20 : Mx20 26 (Int32.toNatClampNeg a) = 1 := (congrFun (hk20.2.2 26 (by unfold bP; decide)) _).trans (up_c (by decide) (up_c (by decide) k26_13))
                have k27_20 : Mx20 27 (Int32.toNatClampNeg a) = (Mx13 17 (Int32.toNatClampNeg (Mx13 0 29))) := (congrFun (hk20.2.2 27 (by unfold bP; decide)) _).trans (up_c (by decide) up_s)
                show V K ad 0 0 ZM Mx20 156 [(2, .long (w64 T p (txln T N p - p))), (0, .ref (ad 0)), (1, .int a)] [.int 1]
                refine V_if_ne (tgt := 161) f dX9_test_156 (by decide) (fun _ => ?_) (fun h => absurd h (by decide))
                refine V_aload_n f dX9_test_161 1 rfl ?_
                refine V_getR f dX9_test_162 lf_9_97 rfl zm_0 rfl ?_
                refine V_iload_n f dX9_test_165 2 rfl ?_
                refine V_aload_n f dX9_test_166 1 rfl ?_
                refine V_getE (x := txtv T N (txnx T N (txnx T N p))) f dX9_test_167 lf_9_139 rfl zm_0 e44_20 ?_
                refine V_iast f dX9_test_170 zm_28 ha ?_
                refine V_iconst (v := 1) f dX9_test_171 (by decide) ?_
                exact V_iret f q dX9_test_172 rfl (Nat.zero_le _) (Nat.zero_le _) ⟨rfl, rfl, Or.inl ⟨(txnx T N (txnx T N (txnx T N p))), (txsq_y (m3of ((wd_c (d := 12) (RS_le hS).1 (by decide) (by decide)).mp c3) (by decide))).trans ((txsq_y (m3of ((at_s kC13 e13 c14 (by decide)).mp c19) (by decide))).trans ((txsq_y h20).trans (rfl))), rfl, (RS_w kC20 (Kt_ct kR20 (by decide) _ _).1 (upo (by decide)) (upo (by decide))), (Kt_ct kR20 (by decide) _ _)⟩⟩
              · have kR20 : Kt tP M Mx20 := Kt_trans (Kt_at (Kt_ct kR13 (by decide) _ _) t1 (kt_b hS (at_1 e13 (te_s (by decide) ((at_s kC13 e13 c14 (by decide)).mp c19)).1) (txte_b (RS_le kC13).1).2.1)) (b_t hk20)
                have kC20 : RSx T N Mx20 (txnx T N (txnx T N p)) := (RS_st (RS_mv (RS_w kC13 (Kt_ct kR13 (by decide) _ _).1 (upo (by decide)) (upo (by decide))) (at_1 e13 (te_s (by decide) ((at_s kC13 e13 c14 (by decide)).mp c19)).1) (txte_b (RS_le kC13).1).2.1) hk20 b17 e20)
                have k26_20 : Mx20 26 (Int32.toNatClampNeg a) = 1 := (congrFun (hk20.2.2 26 (by unfold bP; decide)) _).trans (up_c (by decide) (up_c (by decide) k26_13))
                have k27_20 : Mx20 27 (Int32.toNatClampNeg a) = (Mx13 17 (Int32.toNatClampNeg (Mx13 0 29))) := (congrFun (hk20.2.2 27 (by unfold bP; decide)) _).trans (up_c (by decide) up_s)
                show V K ad 0 0 ZM Mx20 156 [(2, .long (w64 T p (txln T N p - p))), (0, .ref (ad 0)), (1, .int a)] [.int 0]
                refine V_if_ne (tgt := 161) f dX9_test_156 (by decide) (fun h => absurd (by decide) h) (fun _ => ?_)
                refine V_iconst (v := 0) f dX9_test_159 (by decide) ?_
                exact V_iret f q dX9_test_160 rfl (Nat.zero_le _) (Nat.zero_le _) ⟨rfl, rfl, Or.inr ⟨(txnx T N (txnx T N p)), (txsq_y (m3of ((wd_c (d := 12) (RS_le hS).1 (by decide) (by decide)).mp c3) (by decide))).trans ((txsq_y (m3of ((at_s kC13 e13 c14 (by decide)).mp c19) (by decide))).trans (txsq_n h20)), rfl, e20, kR20⟩⟩
            · refine V_iconst (v := 0) f dX9_test_125 (by decide) ?_
              exact V_iret f q dX9_test_126 rfl (Nat.zero_le _) (Nat.zero_le _) ⟨rfl, rfl, Or.inr ⟨(txnx T N p), (txsq_y (m3of ((wd_c (d := 12) (RS_le hS).1 (by decide) (by decide)).mp c3) (by decide))).trans (txsq_n (sg_3 kC13 e13 c14 c15 c17 c19)), rfl, e13, kR13⟩⟩
  · refine V_iconst (v := 0) f dX9_test_18 (by decide) ?_
    refine V_goto (tgt := 47) f dX9_test_19 (by decide) ?_
    refine V_iast f dX9_test_47 zm_26 ha ?_
    refine V_aload_n f dX9_test_48 1 rfl ?_
    refine V_getR f dX9_test_49 lf_9_91 rfl zm_0 rfl ?_
    refine V_iload_n f dX9_test_52 2 rfl ?_
    refine V_ialdE (x := 0) f dX9_test_53 zm_26 ha up_s ?_
    refine V_iconst (v := (-1)) f dX9_test_54 (by decide) ?_
    refine V_icmp_ne (tgt := 60) f dX9_test_55 (by decide) (fun _ => ?_) (fun h => absurd h (by decide))
    refine V_aload_n f dX9_test_60 1 rfl ?_
    refine V_aload_n f dX9_test_61 1 rfl ?_
    refine V_getE (x := Mx1 0 43) f dX9_test_62 lf_9_132 rfl zm_0 (up_c (by decide) rfl) ?_
    refine V_putI f dX9_test_65 lf_9_123 lp_9_29 rfl rfl rfl rfl zm_0 ?_
    refine V_aload_n f dX9_test_68 1 rfl ?_
    refine V_cVp (As := []) (rest := []) f dX9_test_69 lk_X9_129 ml_X9_129 ins_X9_blanks sel_X9_blanks zm_0 (by decide) rfl (c4_X9_blanks _ _ _ _ ad (up2 (up2 Mx1 26 (Int32.toNatClampNeg a) 0) 0 29 (Mx1 0 43)) T N (txnx T N p) (RS_mv (RS_w kC1 (Kt_ct kR1 (by decide) _ _).1 (upo (by decide)) (upo (by decide))) (e43_1.trans (congrArg Int32.ofNat (te_w (by decide) ((wd_c (d := 11) (RS_le hS).1 (by decide) (by decide)).mp c2)).1.symm)) (txte_b (RS_le kC1).1).2.1)) rfl (Nat.le_of_ble_eq_true rfl) rfl ⟨by decide, by decide⟩ ⟨Nat.zero_le _, Nat.zero_le _⟩ rfl rfl (fun v21 Mx21 hp21 => ?_)
    obtain ⟨rfl, hk21, e21⟩ := hp21
    have kR21 : Kt tP M Mx21 := Kt_trans (Kt_at (Kt_ct kR1 (by decide) _ _) t1 (kt_b hS (e43_1.trans (congrArg Int32.ofNat (te_w (by decide) ((wd_c (d := 11) (RS_le hS).1 (by decide) (by decide)).mp c2)).1.symm)) (txte_b (RS_le kC1).1).2.1)) (b_t hk21)
    have kC21 : RSx T N Mx21 (txnx T N p) := (RS_st (RS_mv (RS_w kC1 (Kt_ct kR1 (by decide) _ _).1 (upo (by decide)) (upo (by decide))) (e43_1.trans (congrArg Int32.ofNat (te_w (by decide) ((wd_c (d := 11) (RS_le hS).1 (by decide) (by decide)).mp c2)).1.symm)) (txte_b (RS_le kC1).1).2.1) hk21 b17 e21)
    have k26_21 : Mx21 26 (Int32.toNatClampNeg a) = 0 := (congrFun (hk21.2.2 26 (by unfold bP; decide)) _).trans (up_c (by decide) up_s)
    show V K ad 0 0 ZM Mx21 72 [(2, .long (w64 T p (txln T N p - p))), (0, .ref (ad 0)), (1, .int a)] []
    refine V_aload_n f dX9_test_72 1 rfl ?_
    refine V_getE (x := Mx21 0 29) f dX9_test_73 lf_9_123 rfl zm_0 rfl ?_
    refine V_aload_n f dX9_test_76 1 rfl ?_
    refine V_getE (x := Mx21 0 28) f dX9_test_77 lf_9_126 rfl zm_0 rfl ?_
    refine V_icmp_eq (tgt := 125) f dX9_test_80 (by decide) (fun c22 => ?_) (fun c22 => ?_)
    · refine V_iconst (v := 0) f dX9_test_125 (by decide) ?_
      exact V_iret f q dX9_test_126 rfl (Nat.zero_le _) (Nat.zero_le _) ⟨rfl, rfl, Or.inr ⟨(txnx T N p), (txsq_y (m3of ((wd_c (d := 11) (RS_le hS).1 (by decide) (by decide)).mp c2) (by decide))).trans (txsq_n (at_0 kC21 e21 c22 (by decide))), rfl, e21, kR21⟩⟩
    · refine V_aload_n f dX9_test_83 1 rfl ?_
      refine V_getR f dX9_test_84 lf_9_60 rfl zm_0 rfl ?_
      refine V_aload_n f dX9_test_87 1 rfl ?_
      refine V_getE (x := Mx21 0 29) f dX9_test_88 lf_9_123 rfl zm_0 rfl ?_
      refine V_bald f dX9_test_91 zm_17 (tin kR21.1 kR21.1.2.2.1 (tne kR21.1 c22)) ?_
      refine V_bipush (v := 60) f dX9_test_92 (by decide) ?_
      refine V_icmp_eq (tgt := 127) f dX9_test_94 (by decide) (fun c23 => ?_) (fun c23 => ?_)
      · refine V_aload_n f dX9_test_127 1 rfl ?_
        refine V_getR f dX9_test_128 lf_9_94 rfl zm_0 rfl ?_
        refine V_iload_n f dX9_test_131 2 rfl ?_
        refine V_aload_n f dX9_test_132 1 rfl ?_
        refine V_getR f dX9_test_133 lf_9_60 rfl zm_0 rfl ?_
        refine V_aload_n f dX9_test_136 1 rfl ?_
        refine V_getE (x := Mx21 0 29) f dX9_test_137 lf_9_123 rfl zm_0 rfl ?_
        refine V_bald f dX9_test_140 zm_17 (tin kR21.1 kR21.1.2.2.1 (tne kR21.1 c22)) ?_
        refine V_iast f dX9_test_141 zm_27 ha ?_
        refine V_aload_n f dX9_test_142 1 rfl ?_
        refine V_dup f dX9_test_143 rfl ?_
        refine V_getE (x := Mx21 0 29) f dX9_test_144 lf_9_123 rfl zm_0 (up_c (by decide) rfl) ?_
        refine V_iconst (v := 1) f dX9_test_147 (by decide) ?_
        refine V_iadd f dX9_test_148 ?_
        refine V_putI f dX9_test_149 lf_9_123 lp_9_29 rfl rfl rfl rfl zm_0 ?_
        refine V_aload_n f dX9_test_152 1 rfl ?_
        refine V_cVp (As := []) (rest := []) f dX9_test_153 lk_X9_148 ml_X9_148 ins_X9_takesNumber sel_X9_takesNumber zm_0 (by decide) rfl (c4_X9_takesNumber _ _ _ _ ad (up2 (up2 Mx21 27 (Int32.toNatClampNeg a) (Mx21 17 (Int32.toNatClampNeg (Mx21 0 29)))) 0 29 ((Mx21 0 29) + 1)) T N (txnx T N (txnx T N p)) (RS_mv (RS_w kC21 (Kt_ct kR21 (by decide) _ _).1 (upo (by decide)) (upo (by decide))) (at_1 e21 (te_s (by decide) ((at_s kC21 e21 c22 (by decide)).mp c23)).1) (txte_b (RS_le kC21).1).2.1)) rfl (Nat.le_of_ble_eq_true rfl) rfl ⟨by decide, by decide⟩ ⟨Nat.zero_le _, Nat.zero_le _⟩ rfl rfl (fun v24 Mx24 hp24 => ?_)
        rcases hp24 with ⟨h24, rfl, hk24, e24, e44_24⟩ | ⟨h24, rfl, hk24, e24⟩
        · have kR24 : Kt tP M Mx24 := Kt_trans (Kt_at (Kt_ct kR21 (by decide) _ _) t1 (kt_b hS (at_1 e21 (te_s (by decide) ((at_s kC21 e21 c22 (by decide)).mp c23)).1) (txte_b (RS_le kC21).1).2.1)) (b_t hk24)
          have kC24 : RSx T N Mx24 (txnx T N (txnx T N (txnx T N p))) := (RS_nx (RS_mv (RS_w kC21 (Kt_ct kR21 (by decide) _ _).1 (upo (by decide)) (upo (by decide))) (at_1 e21 (te_s (by decide) ((at_s kC21 e21 c22 (by decide)).mp c23)).1) (txte_b (RS_le kC21).1).2.1) hk24 b17 e24)
          have k26_24 : Mx24 26 (Int32.toNatClampNeg a) = 0 := (congrFun (hk24.2.2 26 (by unfold bP; decide)) _).trans (up_c (by decide) (up_c (by decide) k26_21))
          have k27_24 : Mx24 27 (Int32.toNatClampNeg a) = (Mx21 17 (Int32.toNatClampNeg (Mx21 0 29))) := (congrFun (hk24.2.2 27 (by unfold bP; decide)) _).trans (up_c (by decide) up_s)
          show V K ad 0 0 ZM Mx24 156 [(2, .long (w64 T p (txln T N p - p))), (0, .ref (ad 0)), (1, .int a)] [.int 1]
          refine V_if_ne (tgt := 161) f dX9_test_156 (by decide) (fun _ => ?_) (fun h => absurd h (by decide))
          refine V_aload_n f dX9_test_161 1 rfl ?_
          refine V_getR f dX9_test_162 lf_9_97 rfl zm_0 rfl ?_
          refine V_iload_n f dX9_test_165 2 rfl ?_
          refine V_aload_n f dX9_test_166 1 rfl ?_
          refine V_getE (x := txtv T N (txnx T N (txnx T N p))) f dX9_test_167 lf_9_139 rfl zm_0 e44_24 ?_
          refine V_iast f dX9_test_170 zm_28 ha ?_
          refine V_iconst (v := 1) f dX9_test_171 (by decide) ?_
          exact V_iret f q dX9_test_172 rfl (Nat.zero_le _) (Nat.zero_le _) ⟨rfl, rfl, Or.inl ⟨(txnx T N (txnx T N (txnx T N p))), (txsq_y (m3of ((wd_c (d := 11) (RS_le hS).1 (by decide) (by decide)).mp c2) (by decide))).trans ((txsq_y (m3of ((at_s kC21 e21 c22 (by decide)).mp c23) (by decide))).trans ((txsq_y h24).trans (rfl))), rfl, (RS_w kC24 (Kt_ct kR24 (by decide) _ _).1 (upo (by decide)) (upo (by decide))), (Kt_ct kR24 (by decide) _ _)⟩⟩
        · have kR24 : Kt tP M Mx24 := Kt_trans (Kt_at (Kt_ct kR21 (by decide) _ _) t1 (kt_b hS (at_1 e21 (te_s (by decide) ((at_s kC21 e21 c22 (by decide)).mp c23)).1) (txte_b (RS_le kC21).1).2.1)) (b_t hk24)
          have kC24 : RSx T N Mx24 (txnx T N (txnx T N p)) := (RS_st (RS_mv (RS_w kC21 (Kt_ct kR21 (by decide) _ _).1 (upo (by decide)) (upo (by decide))) (at_1 e21 (te_s (by decide) ((at_s kC21 e21 c22 (by decide)).mp c23)).1) (txte_b (RS_le kC21).1).2.1) hk24 b17 e24)
          have k26_24 : Mx24 26 (Int32.toNatClampNeg a) = 0 := (congrFun (hk24.2.2 26 (by unfold bP; decide)) _).trans (up_c (by decide) (up_c (by decide) k26_21))
          have k27_24 : Mx24 27 (Int32.toNatClampNeg a) = (Mx21 17 (Int32.toNatClampNeg (Mx21 0 29))) := (congrFun (hk24.2.2 27 (by unfold bP; decide)) _).trans (up_c (by decide) up_s)
          show V K ad 0 0 ZM Mx24 156 [(2, .long (w64 T p (txln T N p - p))), (0, .ref (ad 0)), (1, .int a)] [.int 0]
          refine V_if_ne (tgt := 161) f dX9_test_156 (by decide) (fun h => absurd (by decide) h) (fun _ => ?_)
          refine V_iconst (v := 0) f dX9_test_159 (by decide) ?_
          exact V_iret f q dX9_test_160 rfl (Nat.zero_le _) (Nat.zero_le _) ⟨rfl, rfl, Or.inr ⟨(txnx T N (txnx T N p)), (txsq_y (m3of ((wd_c (d := 11) (RS_le hS).1 (by decide) (by decide)).mp c2) (by decide))).trans ((txsq_y (m3of ((at_s kC21 e21 c22 (by decide)).mp c23) (by decide))).trans (txsq_n h24)), rfl, e24, kR24⟩⟩
      · refine V_aload_n f dX9_test_97 1 rfl ?_
        refine V_getR f dX9_test_98 lf_9_60 rfl zm_0 rfl ?_
        refine V_aload_n f dX9_test_101 1 rfl ?_
        refine V_getE (x := Mx21 0 29) f dX9_test_102 lf_9_123 rfl zm_0 rfl ?_
        refine V_bald f dX9_test_105 zm_17 (tin kR21.1 kR21.1.2.2.1 (tne kR21.1 c22)) ?_
        refine V_bipush (v := 62) f dX9_test_106 (by decide) ?_
        refine V_icmp_eq (tgt := 127) f dX9_test_108 (by decide) (fun c25 => ?_) (fun c25 => ?_)
        · refine V_aload_n f dX9_test_127 1 rfl ?_
          refine V_getR f dX9_test_128 lf_9_94 rfl zm_0 rfl ?_
          refine V_iload_n f dX9_test_131 2 rfl ?_
          refine V_aload_n f dX9_test_132 1 rfl ?_
          refine V_getR f dX9_test_133 lf_9_60 rfl zm_0 rfl ?_
          refine V_aload_n f dX9_test_136 1 rfl ?_
          refine V_getE (x := Mx21 0 29) f dX9_test_137 lf_9_123 rfl zm_0 rfl ?_
          refine V_bald f dX9_test_140 zm_17 (tin kR21.1 kR21.1.2.2.1 (tne kR21.1 c22)) ?_
          refine V_iast f dX9_test_141 zm_27 ha ?_
          refine V_aload_n f dX9_test_142 1 rfl ?_
          refine V_dup f dX9_test_143 rfl ?_
          refine V_getE (x := Mx21 0 29) f dX9_test_144 lf_9_123 rfl zm_0 (up_c (by decide) rfl) ?_
          refine V_iconst (v := 1) f dX9_test_147 (by decide) ?_
          refine V_iadd f dX9_test_148 ?_
          refine V_putI f dX9_test_149 lf_9_123 lp_9_29 rfl rfl rfl rfl zm_0 ?_
          refine V_aload_n f dX9_test_152 1 rfl ?_
          refine V_cVp (As := []) (rest := []) f dX9_test_153 lk_X9_148 ml_X9_148 ins_X9_takesNumber sel_X9_takesNumber zm_0 (by decide) rfl (c4_X9_takesNumber _ _ _ _ ad (up2 (up2 Mx21 27 (Int32.toNatClampNeg a) (Mx21 17 (Int32.toNatClampNeg (Mx21 0 29)))) 0 29 ((Mx21 0 29) + 1)) T N (txnx T N (txnx T N p)) (RS_mv (RS_w kC21 (Kt_ct kR21 (by decide) _ _).1 (upo (by decide)) (upo (by decide))) (at_1 e21 (te_s (by decide) ((at_s kC21 e21 c22 (by decide)).mp c25)).1) (txte_b (RS_le kC21).1).2.1)) rfl (Nat.le_of_ble_eq_true rfl) rfl ⟨by decide, by decide⟩ ⟨Nat.zero_le _, Nat.zero_le _⟩ rfl rfl (fun v26 Mx26 hp26 => ?_)
          rcases hp26 with ⟨h26, rfl, hk26, e26, e44_26⟩ | ⟨h26, rfl, hk26, e26⟩
          · have kR26 : Kt tP M Mx26 := Kt_trans (Kt_at (Kt_ct kR21 (by decide) _ _) t1 (kt_b hS (at_1 e21 (te_s (by decide) ((at_s kC21 e21 c22 (by decide)).mp c25)).1) (txte_b (RS_le kC21).1).2.1)) (b_t hk26)
            have kC26 : RSx T N Mx26 (txnx T N (txnx T N (txnx T N p))) := (RS_nx (RS_mv (RS_w kC21 (Kt_ct kR21 (by decide) _ _).1 (upo (by decide)) (upo (by decide))) (at_1 e21 (te_s (by decide) ((at_s kC21 e21 c22 (by decide)).mp c25)).1) (txte_b (RS_le kC21).1).2.1) hk26 b17 e26)
            have k26_26 : Mx26 26 (Int32.toNatClampNeg a) = 0 := (congrFun (hk26.2.2 26 (by unfold bP; decide)) _).trans (up_c (by decide) (up_c (by decide) k26_21))
            have k27_26 : Mx26 27 (Int32.toNatClampNeg a) = (Mx21 17 (Int32.toNatClampNeg (Mx21 0 29))) := (congrFun (hk26.2.2 27 (by unfold bP; decide)) _).trans (up_c (by decide) up_s)
            show V K ad 0 0 ZM Mx26 156 [(2, .long (w64 T p (txln T N p - p))), (0, .ref (ad 0)), (1, .int a)] [.int 1]
            refine V_if_ne (tgt := 161) f dX9_test_156 (by decide) (fun _ => ?_) (fun h => absurd h (by decide))
            refine V_aload_n f dX9_test_161 1 rfl ?_
            refine V_getR f dX9_test_162 lf_9_97 rfl zm_0 rfl ?_
            refine V_iload_n f dX9_test_165 2 rfl ?_
            refine V_aload_n f dX9_test_166 1 rfl ?_
            refine V_getE (x := txtv T N (txnx T N (txnx T N p))) f dX9_test_167 lf_9_139 rfl zm_0 e44_26 ?_
            refine V_iast f dX9_test_170 zm_28 ha ?_
            refine V_iconst (v := 1) f dX9_test_171 (by decide) ?_
            exact V_iret f q dX9_test_172 rfl (Nat.zero_le _) (Nat.zero_le _) ⟨rfl, rfl, Or.inl ⟨(txnx T N (txnx T N (txnx T N p))), (txsq_y (m3of ((wd_c (d := 11) (RS_le hS).1 (by decide) (by decide)).mp c2) (by decide))).trans ((txsq_y (m3of ((at_s kC21 e21 c22 (by decide)).mp c25) (by decide))).trans ((txsq_y h26).trans (rfl))), rfl, (RS_w kC26 (Kt_ct kR26 (by decide) _ _).1 (upo (by decide)) (upo (by decide))), (Kt_ct kR26 (by decide) _ _)⟩⟩
          · have kR26 : Kt tP M Mx26 := Kt_trans (Kt_at (Kt_ct kR21 (by decide) _ _) t1 (kt_b hS (at_1 e21 (te_s (by decide) ((at_s kC21 e21 c22 (by decide)).mp c25)).1) (txte_b (RS_le kC21).1).2.1)) (b_t hk26)
            have kC26 : RSx T N Mx26 (txnx T N (txnx T N p)) := (RS_st (RS_mv (RS_w kC21 (Kt_ct kR21 (by decide) _ _).1 (upo (by decide)) (upo (by decide))) (at_1 e21 (te_s (by decide) ((at_s kC21 e21 c22 (by decide)).mp c25)).1) (txte_b (RS_le kC21).1).2.1) hk26 b17 e26)
            have k26_26 : Mx26 26 (Int32.toNatClampNeg a) = 0 := (congrFun (hk26.2.2 26 (by unfold bP; decide)) _).trans (up_c (by decide) (up_c (by decide) k26_21))
            have k27_26 : Mx26 27 (Int32.toNatClampNeg a) = (Mx21 17 (Int32.toNatClampNeg (Mx21 0 29))) := (congrFun (hk26.2.2 27 (by unfold bP; decide)) _).trans (up_c (by decide) up_s)
            show V K ad 0 0 ZM Mx26 156 [(2, .long (w64 T p (txln T N p - p))), (0, .ref (ad 0)), (1, .int a)] [.int 0]
            refine V_if_ne (tgt := 161) f dX9_test_156 (by decide) (fun h => absurd (by decide) h) (fun _ => ?_)
            refine V_iconst (v := 0) f dX9_test_159 (by decide) ?_
            exact V_iret f q dX9_test_160 rfl (Nat.zero_le _) (Nat.zero_le _) ⟨rfl, rfl, Or.inr ⟨(txnx T N (txnx T N p)), (txsq_y (m3of ((wd_c (d := 11) (RS_le hS).1 (by decide) (by decide)).mp c2) (by decide))).trans ((txsq_y (m3of ((at_s kC21 e21 c22 (by decide)).mp c25) (by decide))).trans (txsq_n h26)), rfl, e26, kR26⟩⟩
        · refine V_aload_n f dX9_test_111 1 rfl ?_
          refine V_getR f dX9_test_112 lf_9_60 rfl zm_0 rfl ?_
          refine V_aload_n f dX9_test_115 1 rfl ?_
          refine V_getE (x := Mx21 0 29) f dX9_test_116 lf_9_123 rfl zm_0 rfl ?_
          refine V_bald f dX9_test_119 zm_17 (tin kR21.1 kR21.1.2.2.1 (tne kR21.1 c22)) ?_
          refine V_bipush (v := 61) f dX9_test_120 (by decide) ?_
          refine V_icmp_eq (tgt := 127) f dX9_test_122 (by decide) (fun c27 => ?_) (fun c27 => ?_)
          · refine V_aload_n f dX9_test_127 1 rfl ?_
            refine V_getR f dX9_test_128 lf_9_94 rfl zm_0 rfl ?_
            refine V_iload_n f dX9_test_131 2 rfl ?_
            refine V_aload_n f dX9_test_132 1 rfl ?_
            refine V_getR f dX9_test_133 lf_9_60 rfl zm_0 rfl ?_
            refine V_aload_n f dX9_test_136 1 rfl ?_
            refine V_getE (x := Mx21 0 29) f dX9_test_137 lf_9_123 rfl zm_0 rfl ?_
            refine V_bald f dX9_test_140 zm_17 (tin kR21.1 kR21.1.2.2.1 (tne kR21.1 c22)) ?_
            refine V_iast f dX9_test_141 zm_27 ha ?_
            refine V_aload_n f dX9_test_142 1 rfl ?_
            refine V_dup f dX9_test_143 rfl ?_
            refine V_getE (x := Mx21 0 29) f dX9_test_144 lf_9_123 rfl zm_0 (up_c (by decide) rfl) ?_
            refine V_iconst (v := 1) f dX9_test_147 (by decide) ?_
            refine V_iadd f dX9_test_148 ?_
            refine V_putI f dX9_test_149 lf_9_123 lp_9_29 rfl rfl rfl rfl zm_0 ?_
            refine V_aload_n f dX9_test_152 1 rfl ?_
            refine V_cVp (As := []) (rest := []) f dX9_test_153 lk_X9_148 ml_X9_148 ins_X9_takesNumber sel_X9_takesNumber zm_0 (by decide) rfl (c4_X9_takesNumber _ _ _ _ ad (up2 (up2 Mx21 27 (Int32.toNatClampNeg a) (Mx21 17 (Int32.toNatClampNeg (Mx21 0 29)))) 0 29 ((Mx21 0 29) + 1)) T N (txnx T N (txnx T N p)) (RS_mv (RS_w kC21 (Kt_ct kR21 (by decide) _ _).1 (upo (by decide)) (upo (by decide))) (at_1 e21 (te_s (by decide) ((at_s kC21 e21 c22 (by decide)).mp c27)).1) (txte_b (RS_le kC21).1).2.1)) rfl (Nat.le_of_ble_eq_true rfl) rfl ⟨by decide, by decide⟩ ⟨Nat.zero_le _, Nat.zero_le _⟩ rfl rfl (fun v28 Mx28 hp28 => ?_)
            rcases hp28 with ⟨h28, rfl, hk28, e28, e44_28⟩ | ⟨h28, rfl, hk28, e28⟩
            · have kR28 : Kt tP M Mx28 := Kt_trans (Kt_at (Kt_ct kR21 (by decide) _ _) t1 (kt_b hS (at_1 e21 (te_s (by decide) ((at_s kC21 e21 c22 (by decide)).mp c27)).1) (txte_b (RS_le kC21).1).2.1)) (b_t hk28)
              have kC28 : RSx T N Mx28 (txnx T N (txnx T N (txnx T N p))) := (RS_nx (RS_mv (RS_w kC21 (Kt_ct kR21 (by decide) _ _).1 (upo (by decide)) (upo (by decide))) (at_1 e21 (te_s (by decide) ((at_s kC21 e21 c22 (by decide)).mp c27)).1) (txte_b (RS_le kC21).1).2.1) hk28 b17 e28)
              have k26_28 : Mx28 26 (Int32.toNatClampNeg a) = 0 := (congrFun (hk28.2.2 26 (by unfold bP; decide)) _).trans (up_c (by decide) (up_c (by decide) k26_21))
              have k27_28 : Mx28 27 (Int32.toNatClampNeg a) = (Mx21 17 (Int32.toNatClampNeg (Mx21 0 29))) := (congrFun (hk28.2.2 27 (by unfold bP; decide)) _).trans (up_c (by decide) up_s)
              show V K ad 0 0 ZM Mx28 156 [(2, .long (w64 T p (txln T N p - p))), (0, .ref (ad 0)), (1, .int a)] [.int 1]
              refine V_if_ne (tgt := 161) f dX9_test_156 (by decide) (fun _ => ?_) (fun h => absurd h (by decide))
              refine V_aload_n f dX9_test_161 1 rfl ?_
              refine V_getR f dX9_test_162 lf_9_97 rfl zm_0 rfl ?_
              refine V_iload_n f dX9_test_165 2 rfl ?_
              refine V_aload_n f dX9_test_166 1 rfl ?_
              refine V_getE (x := txtv T N (txnx T N (txnx T N p))) f dX9_test_167 lf_9_139 rfl zm_0 e44_28 ?_
              refine V_iast f dX9_test_170 zm_28 ha ?_
              refine V_iconst (v := 1) f dX9_test_171 (by decide) ?_
              exact V_iret f q dX9_test_172 rfl (Nat.zero_le _) (Nat.zero_le _) ⟨rfl, rfl, Or.inl ⟨(txnx T N (txnx T N (txnx T N p))), (txsq_y (m3of ((wd_c (d := 11) (RS_le hS).1 (by decide) (by decide)).mp c2) (by decide))).trans ((txsq_y (m3of ((at_s kC21 e21 c22 (by decide)).mp c27) (by decide))).trans ((txsq_y h28).trans (rfl))), rfl, (RS_w kC28 (Kt_ct kR28 (by decide) _ _).1 (upo (by decide)) (upo (by decide))), (Kt_ct kR28 (by decide) _ _)⟩⟩
            · have kR28 : Kt tP M Mx28 := Kt_trans (Kt_at (Kt_ct kR21 (by decide) _ _) t1 (kt_b hS (at_1 e21 (te_s (by decide) ((at_s kC21 e21 c22 (by decide)).mp c27)).1) (txte_b (RS_le kC21).1).2.1)) (b_t hk28)
              have kC28 : RSx T N Mx28 (txnx T N (txnx T N p)) := (RS_st (RS_mv (RS_w kC21 (Kt_ct kR21 (by decide) _ _).1 (upo (by decide)) (upo (by decide))) (at_1 e21 (te_s (by decide) ((at_s kC21 e21 c22 (by decide)).mp c27)).1) (txte_b (RS_le kC21).1).2.1) hk28 b17 e28)
              have k26_28 : Mx28 26 (Int32.toNatClampNeg a) = 0 := (congrFun (hk28.2.2 26 (by unfold bP; decide)) _).trans (up_c (by decide) (up_c (by decide) k26_21))
              have k27_28 : Mx28 27 (Int32.toNatClampNeg a) = (Mx21 17 (Int32.toNatClampNeg (Mx21 0 29))) := (congrFun (hk28.2.2 27 (by unfold bP; decide)) _).trans (up_c (by decide) up_s)
              show V K ad 0 0 ZM Mx28 156 [(2, .long (w64 T p (txln T N p - p))), (0, .ref (ad 0)), (1, .int a)] [.int 0]
              refine V_if_ne (tgt := 161) f dX9_test_156 (by decide) (fun h => absurd (by decide) h) (fun _ => ?_)
              refine V_iconst (v := 0) f dX9_test_159 (by decide) ?_
              exact V_iret f q dX9_test_160 rfl (Nat.zero_le _) (Nat.zero_le _) ⟨rfl, rfl, Or.inr ⟨(txnx T N (txnx T N p)), (txsq_y (m3of ((wd_c (d := 11) (RS_le hS).1 (by decide) (by decide)).mp c2) (by decide))).trans ((txsq_y (m3of ((at_s kC21 e21 c22 (by decide)).mp c27) (by decide))).trans (txsq_n h28)), rfl, e28, kR28⟩⟩
          · refine V_iconst (v := 0) f dX9_test_125 (by decide) ?_
            exact V_iret f q dX9_test_126 rfl (Nat.zero_le _) (Nat.zero_le _) ⟨rfl, rfl, Or.inr ⟨(txnx T N p), (txsq_y (m3of ((wd_c (d := 11) (RS_le hS).1 (by decide) (by decide)).mp c2) (by decide))).trans (txsq_n (sg_3 kC21 e21 c22 c23 c25 c27)), rfl, e21, kR21⟩⟩
set_option maxHeartbeats 4000000 in
set_option maxRecDepth 100000 in
theorem c4_X9_closing (l : Launch) (D : va_G) (cy : Nat → ClassId) (X : va_W) (ad : Nat → Nat) (M : MT) (a : Int32) (T : Nat → Int32) (N p : Nat) (hS : RSx T N M p) (ha : vp_in a 144) : CtP l yX9_closing cX9_closing 2 (some .boolean) (rK 3) D cy X ad ZM M [.ref (ad 0), .int a] (fun v M1 => (∃ q, txsq T N txCL p = (true, q) ∧ v = some (.int 1) ∧ RSx T N M1 q ∧ Kt sP M M1 ∧ EN (Int32.toNatClampNeg a) M M1 ∧ M1 20 (Int32.toNatClampNeg a) = 2 ∧ M1 21 (Int32.toNatClampNeg a) = txtv T N p ∧ M1 22 (Int32.toNatClampNeg a) = txtv T N (txnx T N (txnx T N p)) ∧ M1 23 (Int32.toNatClampNeg a) = txtv T N (txnx T N (txnx T N (txnx T N (txnx T N p)))) ∧ M1 24 (Int32.toNatClampNeg a) = txtv T N (txnx T N (txnx T N (txnx T N (txnx T N (txnx T N (txnx T N p))))))) ∨ (∃ q, txsq T N txCL p = (false, q) ∧ v = some (.int 0) ∧ M1 0 29 = Int32.ofNat q ∧ Kt sP M M1 ∧ EN (Int32.toNatClampNeg a) M M1)) := by
  refine Ctr.of (by decide +kernel) (Nat.le_of_ble_eq_true rfl) ?_
  intro K f q hnm hl0 hD0 hy0 hX0
  show V K ad 0 0 ZM M 0 [(0, .ref (ad 0)), (1, .int a)] []
  refine V_aload_n f dX9_closing_0 0 rfl ?_
  refine V_getR f dX9_closing_1 lf_9_73 rfl zm_0 rfl ?_
  refine V_iload_n f dX9_closing_4 1 rfl ?_
  refine V_iconst (v := 2) f dX9_closing_5 (by decide) ?_
  refine V_iast f dX9_closing_6 zm_20 ha ?_
  refine V_aload_n f dX9_closing_7 0 rfl ?_
  refine V_cVp (As := []) (rest := []) f dX9_closing_8 lk_X9_148 ml_X9_148 ins_X9_takesNumber sel_X9_takesNumber zm_0 (by decide) rfl (c4_X9_takesNumber _ _ _ _ ad (up2 M 20 (Int32.toNatClampNeg a) 2) T N p (RS_w hS (Kt_cs (Kt_refl (P := sP) hS.1) (by decide) _ _).1 (upo (by decide)) (upo (by decide)))) rfl (Nat.le_of_ble_eq_true rfl) rfl ⟨by decide, by decide⟩ ⟨Nat.zero_le _, Nat.zero_le _⟩ rfl rfl (fun v1 Mx1 hp1 => ?_)
  rcases hp1 with ⟨h1, rfl, hk1, e1, e44_1⟩ | ⟨h1, rfl, hk1, e1⟩
  · have kR1 : Kt sP M Mx1 := Kt_trans (Kt_cs (Kt_refl (P := sP) hS.1) (by decide) _ _) (b_s hk1)
    have kC1 : RSx T N Mx1 (txnx T N p) := (RS_nx (RS_w hS (Kt_cs (Kt_refl (P := sP) hS.1) (by decide) _ _).1 (upo (by decide)) (upo (by decide))) hk1 b17 e1)
    have kE1 : EN (Int32.toNatClampNeg a) M Mx1 := (EN_b (EN_u (EN_refl _ M) _ _) hk1)
    have k20_1 : Mx1 20 (Int32.toNatClampNeg a) = 2 := (congrFun (hk1.2.2 20 (by unfold bP; decide)) _).trans up_s
    show V K ad 0 0 ZM Mx1 11 [(0, .ref (ad 0)), (1, .int a)] [.int 1]
    refine V_if_ne (tgt := 16) f dX9_closing_11 (by decide) (fun _ => ?_) (fun h => absurd h (by decide))
    refine V_aload_n f dX9_closing_16 0 rfl ?_
    refine V_getR f dX9_closing_17 lf_9_76 rfl zm_0 rfl ?_
    refine V_iload_n f dX9_closing_20 1 rfl ?_
    refine V_aload_n f dX9_closing_21 0 rfl ?_
    refine V_getE (x := txtv T N p) f dX9_closing_22 lf_9_139 rfl zm_0 e44_1 ?_
    refine V_iast f dX9_closing_25 zm_21 ha ?_
    refine V_aload_n f dX9_closing_26 0 rfl ?_
    refine V_ldc2 (v := 29807) f dX9_closing_27 lc_X9_152 ?_
    refine V_cVp (As := [.long 29807]) (rest := []) f dX9_closing_30 lk_X9_154 ml_X9_154 ins_X9_takes sel_X9_takes zm_0 (by decide) rfl (c4_X9_takes _ _ _ _ ad (up2 Mx1 21 (Int32.toNatClampNeg a) (txtv T N p)) 29807 T N (txnx T N p) (RS_w kC1 (Kt_cs kR1 (by decide) _ _).1 (upo (by decide)) (upo (by decide))) 3 4 (by decide) (by decide) (by decide)) rfl (Nat.le_of_ble_eq_true rfl) rfl ⟨by decide, by decide⟩ ⟨Nat.zero_le _, Nat.zero_le _⟩ rfl rfl (fun v2 Mx2 hp2 => ?_)
    rcases hp2 with ⟨h2, rfl, hk2, e2⟩ | ⟨h2, rfl, hk2, e2⟩
    · have kR2 : Kt sP M Mx2 := Kt_trans (Kt_cs kR1 (by decide) _ _) (b_s hk2)
      have kC2 : RSx T N Mx2 (txnx T N (txnx T N p)) := (RS_nx (RS_w kC1 (Kt_cs kR1 (by decide) _ _).1 (upo (by decide)) (upo (by decide))) hk2 b17 e2)
      have kE2 : EN (Int32.toNatClampNeg a) M Mx2 := (EN_b (EN_u kE1 _ _) hk2)
      have k20_2 : Mx2 20 (Int32.toNatClampNeg a) = 2 := (congrFun (hk2.2.2 20 (by unfold bP; decide)) _).trans (up_c (by decide) k20_1)
      have k21_2 : Mx2 21 (Int32.toNatClampNeg a) = (txtv T N p) := (congrFun (hk2.2.2 21 (by unfold bP; decide)) _).trans up_s
      show V K ad 0 0 ZM Mx2 33 [(0, .ref (ad 0)), (1, .int a)] [.int 1]
      refine V_if_eq (tgt := 43) f dX9_closing_33 (by decide) (fun h => absurd h (by decide)) (fun _ => ?_)
      refine V_aload_n f dX9_closing_36 0 rfl ?_
      refine V_cVp (As := []) (rest := []) f dX9_closing_37 lk_X9_148 ml_X9_148 ins_X9_takesNumber sel_X9_takesNumber zm_0 (by decide) rfl (c4_X9_takesNumber _ _ _ _ ad Mx2 T N (txnx T N (txnx T N p)) kC2) rfl (Nat.le_of_ble_eq_true rfl) rfl ⟨by decide, by decide⟩ ⟨Nat.zero_le _, Nat.zero_le _⟩ rfl rfl (fun v3 Mx3 hp3 => ?_)
      rcases hp3 with ⟨h3, rfl, hk3, e3, e44_3⟩ | ⟨h3, rfl, hk3, e3⟩
      · have kR3 : Kt sP M Mx3 := Kt_trans kR2 (b_s hk3)
        have kC3 : RSx T N Mx3 (txnx T N (txnx T N (txnx T N p))) := (RS_nx kC2 hk3 b17 e3)
        have kE3 : EN (Int32.toNatClampNeg a) M Mx3 := (EN_b kE2 hk3)
        have k20_3 : Mx3 20 (Int32.toNatClampNeg a) = 2 := (congrFun (hk3.2.2 20 (by unfold bP; decide)) _).trans k20_2
        have k21_3 : Mx3 21 (Int32.toNatClampNeg a) = (txtv T N p) := (congrFun (hk3.2.2 21 (by unfold bP; decide)) _).trans k21_2
        show V K ad 0 0 ZM Mx3 40 [(0, .ref (ad 0)), (1, .int a)] [.int 1]
        refine V_if_ne (tgt := 45) f dX9_closing_40 (by decide) (fun _ => ?_) (fun h => absurd h (by decide))
        refine V_aload_n f dX9_closing_45 0 rfl ?_
        refine V_getR f dX9_closing_46 lf_9_79 rfl zm_0 rfl ?_
        refine V_iload_n f dX9_closing_49 1 rfl ?_
        refine V_aload_n f dX9_closing_50 0 rfl ?_
        refine V_getE (x := txtv T N (txnx T N (txnx T N p))) f dX9_closing_51 lf_9_139 rfl zm_0 e44_3 ?_
        refine V_iast f dX9_closing_54 zm_22 ha ?_
        refine V_aload_n f dX9_closing_55 0 rfl ?_
        refine V_ldc2 (v := 1718775661) f dX9_closing_56 lc_X9_158 ?_
        refine V_cVp (As := [.long 1718775661]) (rest := []) f dX9_closing_59 lk_X9_154 ml_X9_154 ins_X9_takes sel_X9_takes zm_0 (by decide) rfl (c4_X9_takes _ _ _ _ ad (up2 Mx3 22 (Int32.toNatClampNeg a) (txtv T N (txnx T N (txnx T N p)))) 1718775661 T N (txnx T N (txnx T N (txnx T N p))) (RS_w kC3 (Kt_cs kR3 (by decide) _ _).1 (upo (by decide)) (upo (by decide))) 4 5 (by decide) (by decide) (by decide)) rfl (Nat.le_of_ble_eq_true rfl) rfl ⟨by decide, by decide⟩ ⟨Nat.zero_le _, Nat.zero_le _⟩ rfl rfl (fun v4 Mx4 hp4 => ?_)
        rcases hp4 with ⟨h4, rfl, hk4, e4⟩ | ⟨h4, rfl, hk4, e4⟩
        · have kR4 : Kt sP M Mx4 := Kt_trans (Kt_cs kR3 (by decide) _ _) (b_s hk4)
          have kC4 : RSx T N Mx4 (txnx T N (txnx T N (txnx T N (txnx T N p)))) := (RS_nx (RS_w kC3 (Kt_cs kR3 (by decide) _ _).1 (upo (by decide)) (upo (by decide))) hk4 b17 e4)
          have kE4 : EN (Int32.toNatClampNeg a) M Mx4 := (EN_b (EN_u kE3 _ _) hk4)
          have k20_4 : Mx4 20 (Int32.toNatClampNeg a) = 2 := (congrFun (hk4.2.2 20 (by unfold bP; decide)) _).trans (up_c (by decide) k20_3)
          have k21_4 : Mx4 21 (Int32.toNatClampNeg a) = (txtv T N p) := (congrFun (hk4.2.2 21 (by unfold bP; decide)) _).trans (up_c (by decide) k21_3)
          have k22_4 : Mx4 22 (Int32.toNatClampNeg a) = (txtv T N (txnx T N (txnx T N p))) := (congrFun (hk4.2.2 22 (by unfold bP; decide)) _).trans up_s
          show V K ad 0 0 ZM Mx4 62 [(0, .ref (ad 0)), (1, .int a)] [.int 1]
          refine V_if_eq (tgt := 72) f dX9_closing_62 (by decide) (fun h => absurd h (by decide)) (fun _ => ?_)
          refine V_aload_n f dX9_closing_65 0 rfl ?_
          refine V_cVp (As := []) (rest := []) f dX9_closing_66 lk_X9_148 ml_X9_148 ins_X9_takesNumber sel_X9_takesNumber zm_0 (by decide) rfl (c4_X9_takesNumber _ _ _ _ ad Mx4 T N (txnx T N (txnx T N (txnx T N (txnx T N p)))) kC4) rfl (Nat.le_of_ble_eq_true rfl) rfl ⟨by decide, by decide⟩ ⟨Nat.zero_le _, Nat.zero_le _⟩ rfl rfl (fun v5 Mx5 hp5 => ?_)
          rcases hp5 with ⟨h5, rfl, hk5, e5, e44_5⟩ | ⟨h5, rfl, hk5, e5⟩
          · have kR5 : Kt sP M Mx5 := Kt_trans kR4 (b_s hk5)
            have kC5 : RSx T N Mx5 (txnx T N (txnx T N (txnx T N (txnx T N (txnx T N p))))) := (RS_nx kC4 hk5 b17 e5)
            have kE5 : EN (Int32.toNatClampNeg a) M Mx5 := (EN_b kE4 hk5)
            have k20_5 : Mx5 20 (Int32.toNatClampNeg a) = 2 := (congrFun (hk5.2.2 20 (by unfold bP; decide)) _).trans k20_4
            have k21_5 : Mx5 21 (Int32.toNatClampNeg a) = (txtv T N p) := (congrFun (hk5.2.2 21 (by unfold bP; decide)) _).trans k21_4
            have k22_5 : Mx5 22 (Int32.toNatClampNeg a) = (txtv T N (txnx T N (txnx T N p))) := (congrFun (hk5.2.2 22 (by unfold bP; decide)) _).trans k22_4
            show V K ad 0 0 ZM Mx5 69 [(0, .ref (ad 0)), (1, .int a)] [.int 1]
            refine V_if_ne (tgt := 74) f dX9_closing_69 (by decide) (fun _ => ?_) (fun h => absurd h (by decide))
            refine V_aload_n f dX9_closing_74 0 rfl ?_
            refine V_getR f dX9_closing_75 lf_9_82 rfl zm_0 rfl ?_
            refine V_iload_n f dX9_closing_78 1 rfl ?_
            refine V_aload_n f dX9_closing_79 0 rfl ?_
            refine V_getE (x := txtv T N (txnx T N (txnx T N (txnx T N (txnx T N p))))) f dX9_closing_80 lf_9_139 rfl zm_0 e44_5 ?_
            refine V_iast f dX9_closing_83 zm_23 ha ?_
            refine V_aload_n f dX9_closing_84 0 rfl ?_
            refine V_ldc2 (v := 29807) f dX9_closing_85 lc_X9_152 ?_
            refine V_cVp (As := [.long 29807]) (rest := []) f dX9_closing_88 lk_X9_154 ml_X9_154 ins_X9_takes sel_X9_takes zm_0 (by decide) rfl (c4_X9_takes _ _ _ _ ad (up2 Mx5 23 (Int32.toNatClampNeg a) (txtv T N (txnx T N (txnx T N (txnx T N (txnx T N p)))))) 29807 T N (txnx T N (txnx T N (txnx T N (txnx T N (txnx T N p))))) (RS_w kC5 (Kt_cs kR5 (by decide) _ _).1 (upo (by decide)) (upo (by decide))) 3 4 (by decide) (by decide) (by decide)) rfl (Nat.le_of_ble_eq_true rfl) rfl ⟨by decide, by decide⟩ ⟨Nat.zero_le _, Nat.zero_le _⟩ rfl rfl (fun v6 Mx6 hp6 => ?_)
            rcases hp6 with ⟨h6, rfl, hk6, e6⟩ | ⟨h6, rfl, hk6, e6⟩
            · have kR6 : Kt sP M Mx6 := Kt_trans (Kt_cs kR5 (by decide) _ _) (b_s hk6)
              have kC6 : RSx T N Mx6 (txnx T N (txnx T N (txnx T N (txnx T N (txnx T N (txnx T N p)))))) := (RS_nx (RS_w kC5 (Kt_cs kR5 (by decide) _ _).1 (upo (by decide)) (upo (by decide))) hk6 b17 e6)
              have kE6 : EN (Int32.toNatClampNeg a) M Mx6 := (EN_b (EN_u kE5 _ _) hk6)
              have k20_6 : Mx6 20 (Int32.toNatClampNeg a) = 2 := (congrFun (hk6.2.2 20 (by unfold bP; decide)) _).trans (up_c (by decide) k20_5)
              have k21_6 : Mx6 21 (Int32.toNatClampNeg a) = (txtv T N p) := (congrFun (hk6.2.2 21 (by unfold bP; decide)) _).trans (up_c (by decide) k21_5)
              have k22_6 : Mx6 22 (Int32.toNatClampNeg a) = (txtv T N (txnx T N (txnx T N p))) := (congrFun (hk6.2.2 22 (by unfold bP; decide)) _).trans (up_c (by decide) k22_5)
              have k23_6 : Mx6 23 (Int32.toNatClampNeg a) = (txtv T N (txnx T N (txnx T N (txnx T N (txnx T N p))))) := (congrFun (hk6.2.2 23 (by unfold bP; decide)) _).trans up_s
              show V K ad 0 0 ZM Mx6 91 [(0, .ref (ad 0)), (1, .int a)] [.int 1]
              refine V_if_eq (tgt := 101) f dX9_closing_91 (by decide) (fun h => absurd h (by decide)) (fun _ => ?_)
              refine V_aload_n f dX9_closing_94 0 rfl ?_
              refine V_cVp (As := []) (rest := []) f dX9_closing_95 lk_X9_148 ml_X9_148 ins_X9_takesNumber sel_X9_takesNumber zm_0 (by decide) rfl (c4_X9_takesNumber _ _ _ _ ad Mx6 T N (txnx T N (txnx T N (txnx T N (txnx T N (txnx T N (txnx T N p)))))) kC6) rfl (Nat.le_of_ble_eq_true rfl) rfl ⟨by decide, by decide⟩ ⟨Nat.zero_le _, Nat.zero_le _⟩ rfl rfl (fun v7 Mx7 hp7 => ?_)
              rcases hp7 with ⟨h7, rfl, hk7, e7, e44_7⟩ | ⟨h7, rfl, hk7, e7⟩
              · have kR7 : Kt sP M Mx7 := Kt_trans kR6 (b_s hk7)
                have kC7 : RSx T N Mx7 (txnx T N (txnx T N (txnx T N (txnx T N (txnx T N (txnx T N (txnx T N p))))))) := (RS_nx kC6 hk7 b17 e7)
                have kE7 : EN (Int32.toNatClampNeg a) M Mx7 := (EN_b kE6 hk7)
                have k20_7 : Mx7 20 (Int32.toNatClampNeg a) = 2 := (congrFun (hk7.2.2 20 (by unfold bP; decide)) _).trans k20_6
                have k21_7 : Mx7 21 (Int32.toNatClampNeg a) = (txtv T N p) := (congrFun (hk7.2.2 21 (by unfold bP; decide)) _).trans k21_6
                have k22_7 : Mx7 22 (Int32.toNatClampNeg a) = (txtv T N (txnx T N (txnx T N p))) := (congrFun (hk7.2.2 22 (by unfold bP; decide)) _).trans k22_6
                have k23_7 : Mx7 23 (Int32.toNatClampNeg a) = (txtv T N (txnx T N (txnx T N (txnx T N (txnx T N p))))) := (congrFun (hk7.2.2 23 (by unfold bP; decide)) _).trans k23_6
                show V K ad 0 0 ZM Mx7 98 [(0, .ref (ad 0)), (1, .int a)] [.int 1]
                refine V_if_ne (tgt := 103) f dX9_closing_98 (by decide) (fun _ => ?_) (fun h => absurd h (by decide))
                refine V_aload_n f dX9_closing_103 0 rfl ?_
                refine V_getR f dX9_closing_104 lf_9_85 rfl zm_0 rfl ?_
                refine V_iload_n f dX9_closing_107 1 rfl ?_
                refine V_aload_n f dX9_closing_108 0 rfl ?_
                refine V_getE (x := txtv T N (txnx T N (txnx T N (txnx T N (txnx T N (txnx T N (txnx T N p))))))) f dX9_closing_109 lf_9_139 rfl zm_0 e44_7 ?_
                refine V_iast f dX9_closing_112 zm_24 ha ?_
                refine V_iconst (v := 1) f dX9_closing_113 (by decide) ?_
                exact V_iret f q dX9_closing_114 rfl (Nat.zero_le _) (Nat.zero_le _) ⟨rfl, rfl, Or.inl ⟨(txnx T N (txnx T N (txnx T N (txnx T N (txnx T N (txnx T N (txnx T N p))))))), (txsq_y h1).trans ((txsq_y h2).trans ((txsq_y h3).trans ((txsq_y h4).trans ((txsq_y h5).trans ((txsq_y h6).trans ((txsq_y h7).trans (rfl))))))), rfl, (RS_w kC7 (Kt_cs kR7 (by decide) _ _).1 (upo (by decide)) (upo (by decide))), (Kt_cs kR7 (by decide) _ _), (EN_u kE7 _ _), (up_c (by decide) k20_7), (up_c (by decide) k21_7), (up_c (by decide) k22_7), (up_c (by decide) k23_7), up_s⟩⟩
              · have kR7 : Kt sP M Mx7 := Kt_trans kR6 (b_s hk7)
                have kC7 : RSx T N Mx7 (txnx T N (txnx T N (txnx T N (txnx T N (txnx T N (txnx T N p)))))) := (RS_st kC6 hk7 b17 e7)
                have kE7 : EN (Int32.toNatClampNeg a) M Mx7 := (EN_b kE6 hk7)
                have k20_7 : Mx7 20 (Int32.toNatClampNeg a) = 2 := (congrFun (hk7.2.2 20 (by unfold bP; decide)) _).trans k20_6
                have k21_7 : Mx7 21 (Int32.toNatClampNeg a) = (txtv T N p) := (congrFun (hk7.2.2 21 (by unfold bP; decide)) _).trans k21_6
                have k22_7 : Mx7 22 (Int32.toNatClampNeg a) = (txtv T N (txnx T N (txnx T N p))) := (congrFun (hk7.2.2 22 (by unfold bP; decide)) _).trans k22_6
                have k23_7 : Mx7 23 (Int32.toNatClampNeg a) = (txtv T N (txnx T N (txnx T N (txnx T N (txnx T N p))))) := (congrFun (hk7.2.2 23 (by unfold bP; decide)) _).trans k23_6
                show V K ad 0 0 ZM Mx7 98 [(0, .ref (ad 0)), (1, .int a)] [.int 0]
                refine V_if_ne (tgt := 103) f dX9_closing_98 (by decide) (fun h => absurd (by decide) h) (fun _ => ?_)
                refine V_iconst (v := 0) f dX9_closing_101 (by decide) ?_
                exact V_iret f q dX9_closing_102 rfl (Nat.zero_le _) (Nat.zero_le _) ⟨rfl, rfl, Or.inr ⟨(txnx T N (txnx T N (txnx T N (txnx T N (txnx T N (txnx T N p)))))), (txsq_y h1).trans ((txsq_y h2).trans ((txsq_y h3).trans ((txsq_y h4).trans ((txsq_y h5).trans ((txsq_y h6).trans (txsq_n h7)))))), rfl, e7, kR7, kE7⟩⟩
            · have kR6 : Kt sP M Mx6 := Kt_trans (Kt_cs kR5 (by decide) _ _) (b_s hk6)
              have kC6 : RSx T N Mx6 (txnx T N (txnx T N (txnx T N (txnx T N (txnx T N p))))) := (RS_st (RS_w kC5 (Kt_cs kR5 (by decide) _ _).1 (upo (by decide)) (upo (by decide))) hk6 b17 e6)
              have kE6 : EN (Int32.toNatClampNeg a) M Mx6 := (EN_b (EN_u kE5 _ _) hk6)
              have k20_6 : Mx6 20 (Int32.toNatClampNeg a) = 2 := (congrFun (hk6.2.2 20 (by unfold bP; decide)) _).trans (up_c (by decide) k20_5)
              have k21_6 : Mx6 21 (Int32.toNatClampNeg a) = (txtv T N p) := (congrFun (hk6.2.2 21 (by unfold bP; decide)) _).trans (up_c (by decide) k21_5)
              have k22_6 : Mx6 22 (Int32.toNatClampNeg a) = (txtv T N (txnx T N (txnx T N p))) := (congrFun (hk6.2.2 22 (by unfold bP; decide)) _).trans (up_c (by decide) k22_5)
              have k23_6 : Mx6 23 (Int32.toNatClampNeg a) = (txtv T N (txnx T N (txnx T N (txnx T N (txnx T N p))))) := (congrFun (hk6.2.2 23 (by unfold bP; decide)) _).trans up_s
              show V K ad 0 0 ZM Mx6 91 [(0, .ref (ad 0)), (1, .int a)] [.int 0]
              refine V_if_eq (tgt := 101) f dX9_closing_91 (by decide) (fun _ => ?_) (fun h => absurd (by decide) h)
              refine V_iconst (v := 0) f dX9_closing_101 (by decide) ?_
              exact V_iret f q dX9_closing_102 rfl (Nat.zero_le _) (Nat.zero_le _) ⟨rfl, rfl, Or.inr ⟨(txnx T N (txnx T N (txnx T N (txnx T N (txnx T N p))))), (txsq_y h1).trans ((txsq_y h2).trans ((txsq_y h3).trans ((txsq_y h4).trans ((txsq_y h5).trans (txsq_n h6))))), rfl, e6, kR6, kE6⟩⟩
          · have kR5 : Kt sP M Mx5 := Kt_trans kR4 (b_s hk5)
            have kC5 : RSx T N Mx5 (txnx T N (txnx T N (txnx T N (txnx T N p)))) := (RS_st kC4 hk5 b17 e5)
            have kE5 : EN (Int32.toNatClampNeg a) M Mx5 := (EN_b kE4 hk5)
            have k20_5 : Mx5 20 (Int32.toNatClampNeg a) = 2 := (congrFun (hk5.2.2 20 (by unfold bP; decide)) _).trans k20_4
            have k21_5 : Mx5 21 (Int32.toNatClampNeg a) = (txtv T N p) := (congrFun (hk5.2.2 21 (by unfold bP; decide)) _).trans k21_4
            have k22_5 : Mx5 22 (Int32.toNatClampNeg a) = (txtv T N (txnx T N (txnx T N p))) := (congrFun (hk5.2.2 22 (by unfold bP; decide)) _).trans k22_4
            show V K ad 0 0 ZM Mx5 69 [(0, .ref (ad 0)), (1, .int a)] [.int 0]
            refine V_if_ne (tgt := 74) f dX9_closing_69 (by decide) (fun h => absurd (by decide) h) (fun _ => ?_)
            refine V_iconst (v := 0) f dX9_closing_72 (by decide) ?_
            exact V_iret f q dX9_closing_73 rfl (Nat.zero_le _) (Nat.zero_le _) ⟨rfl, rfl, Or.inr ⟨(txnx T N (txnx T N (txnx T N (txnx T N p)))), (txsq_y h1).trans ((txsq_y h2).trans ((txsq_y h3).trans ((txsq_y h4).trans (txsq_n h5)))), rfl, e5, kR5, kE5⟩⟩
        · have kR4 : Kt sP M Mx4 := Kt_trans (Kt_cs kR3 (by decide) _ _) (b_s hk4)
          have kC4 : RSx T N Mx4 (txnx T N (txnx T N (txnx T N p))) := (RS_st (RS_w kC3 (Kt_cs kR3 (by decide) _ _).1 (upo (by decide)) (upo (by decide))) hk4 b17 e4)
          have kE4 : EN (Int32.toNatClampNeg a) M Mx4 := (EN_b (EN_u kE3 _ _) hk4)
          have k20_4 : Mx4 20 (Int32.toNatClampNeg a) = 2 := (congrFun (hk4.2.2 20 (by unfold bP; decide)) _).trans (up_c (by decide) k20_3)
          have k21_4 : Mx4 21 (Int32.toNatClampNeg a) = (txtv T N p) := (congrFun (hk4.2.2 21 (by unfold bP; decide)) _).trans (up_c (by decide) k21_3)
          have k22_4 : Mx4 22 (Int32.toNatClampNeg a) = (txtv T N (txnx T N (txnx T N p))) := (congrFun (hk4.2.2 22 (by unfold bP; decide)) _).trans up_s
          show V K ad 0 0 ZM Mx4 62 [(0, .ref (ad 0)), (1, .int a)] [.int 0]
          refine V_if_eq (tgt := 72) f dX9_closing_62 (by decide) (fun _ => ?_) (fun h => absurd (by decide) h)
          refine V_iconst (v := 0) f dX9_closing_72 (by decide) ?_
          exact V_iret f q dX9_closing_73 rfl (Nat.zero_le _) (Nat.zero_le _) ⟨rfl, rfl, Or.inr ⟨(txnx T N (txnx T N (txnx T N p))), (txsq_y h1).trans ((txsq_y h2).trans ((txsq_y h3).trans (txsq_n h4))), rfl, e4, kR4, kE4⟩⟩
      · have kR3 : Kt sP M Mx3 := Kt_trans kR2 (b_s hk3)
        have kC3 : RSx T N Mx3 (txnx T N (txnx T N p)) := (RS_st kC2 hk3 b17 e3)
        have kE3 : EN (Int32.toNatClampNeg a) M Mx3 := (EN_b kE2 hk3)
        have k20_3 : Mx3 20 (Int32.toNatClampNeg a) = 2 := (congrFun (hk3.2.2 20 (by unfold bP; decide)) _).trans k20_2
        have k21_3 : Mx3 21 (Int32.toNatClampNeg a) = (txtv T N p) := (congrFun (hk3.2.2 21 (by unfold bP; decide)) _).trans k21_2
        show V K ad 0 0 ZM Mx3 40 [(0, .ref (ad 0)), (1, .int a)] [.int 0]
        refine V_if_ne (tgt := 45) f dX9_closing_40 (by decide) (fun h => absurd (by decide) h) (fun _ => ?_)
        refine V_iconst (v := 0) f dX9_closing_43 (by decide) ?_
        exact V_iret f q dX9_closing_44 rfl (Nat.zero_le _) (Nat.zero_le _) ⟨rfl, rfl, Or.inr ⟨(txnx T N (txnx T N p)), (txsq_y h1).trans ((txsq_y h2).trans (txsq_n h3)), rfl, e3, kR3, kE3⟩⟩
    · have kR2 : Kt sP M Mx2 := Kt_trans (Kt_cs kR1 (by decide) _ _) (b_s hk2)
      have kC2 : RSx T N Mx2 (txnx T N p) := (RS_st (RS_w kC1 (Kt_cs kR1 (by decide) _ _).1 (upo (by decide)) (upo (by decide))) hk2 b17 e2)
      have kE2 : EN (Int32.toNatClampNeg a) M Mx2 := (EN_b (EN_u kE1 _ _) hk2)
      have k20_2 : Mx2 20 (Int32.toNatClampNeg a) = 2 := (congrFun (hk2.2.2 20 (by unfold bP; decide)) _).trans (up_c (by decide) k20_1)
      have k21_2 : Mx2 21 (Int32.toNatClampNeg a) = (txtv T N p) := (congrFun (hk2.2.2 21 (by unfold bP; decide)) _).trans up_s
      show V K ad 0 0 ZM Mx2 33 [(0, .ref (ad 0)), (1, .int a)] [.int 0]
      refine V_if_eq (tgt := 43) f dX9_closing_33 (by decide) (fun _ => ?_) (fun h => absurd (by decide) h)
      refine V_iconst (v := 0) f dX9_closing_43 (by decide) ?_
      exact V_iret f q dX9_closing_44 rfl (Nat.zero_le _) (Nat.zero_le _) ⟨rfl, rfl, Or.inr ⟨(txnx T N p), (txsq_y h1).trans (txsq_n h2), rfl, e2, kR2, kE2⟩⟩
  · have kR1 : Kt sP M Mx1 := Kt_trans (Kt_cs (Kt_refl (P := sP) hS.1) (by decide) _ _) (b_s hk1)
    have kC1 : RSx T N Mx1 p := (RS_st (RS_w hS (Kt_cs (Kt_refl (P := sP) hS.1) (by decide) _ _).1 (upo (by decide)) (upo (by decide))) hk1 b17 e1)
    have kE1 : EN (Int32.toNatClampNeg a) M Mx1 := (EN_b (EN_u (EN_refl _ M) _ _) hk1)
    have k20_1 : Mx1 20 (Int32.toNatClampNeg a) = 2 := (congrFun (hk1.2.2 20 (by unfold bP; decide)) _).trans up_s
    show V K ad 0 0 ZM Mx1 11 [(0, .ref (ad 0)), (1, .int a)] [.int 0]
    refine V_if_ne (tgt := 16) f dX9_closing_11 (by decide) (fun h => absurd (by decide) h) (fun _ => ?_)
    refine V_iconst (v := 0) f dX9_closing_14 (by decide) ?_
    exact V_iret f q dX9_closing_15 rfl (Nat.zero_le _) (Nat.zero_le _) ⟨rfl, rfl, Or.inr ⟨p, txsq_n h1, rfl, e1, kR1, kE1⟩⟩
set_option maxHeartbeats 4000000 in
set_option maxRecDepth 100000 in
theorem c4_X9_acting (l : Launch) (D : va_G) (cy : Nat → ClassId) (X : va_W) (ad : Nat → Nat) (M : MT) (a : Int32) (T : Nat → Int32) (N p : Nat) (hS : RSx T N M p) (ha : vp_in a 144) : CtP l yX9_acting cX9_acting 2 (some .boolean) (rK 3) D cy X ad ZM M [.ref (ad 0), .int a] (fun v M1 => (∃ q, txrl T N txED 3 p = (true, q) ∧ v = some (.int 1) ∧ RSx T N M1 q ∧ Kt sP M M1 ∧ EN (Int32.toNatClampNeg a) M M1 ∧ (¬ M1 20 (Int32.toNatClampNeg a) = 0 ∧ ¬ M1 20 (Int32.toNatClampNeg a) = 1 ∧ ¬ M1 20 (Int32.toNatClampNeg a) = 2)) ∨ (∃ q, txrl T N txED 3 p = (false, q) ∧ v = some (.int 0) ∧ M1 0 29 = Int32.ofNat q ∧ Kt sP M M1 ∧ EN (Int32.toNatClampNeg a) M M1)) := by
  refine Ctr.of (by decide +kernel) (Nat.le_of_ble_eq_true rfl) ?_
  intro K f q hnm hl0 hD0 hy0 hX0
  show V K ad 0 0 ZM M 0 [(0, .ref (ad 0)), (1, .int a)] []
  refine V_aload_n f dX9_acting_0 0 rfl ?_
  refine V_getR f dX9_acting_1 lf_9_88 rfl zm_0 rfl ?_
  refine V_iload_n f dX9_acting_4 1 rfl ?_
  refine V_iconst (v := 0) f dX9_acting_5 (by decide) ?_
  refine V_iast f dX9_acting_6 zm_25 ha ?_
  refine V_aload_n f dX9_acting_7 0 rfl ?_
  refine V_cVp (As := []) (rest := []) f dX9_acting_8 lk_X9_129 ml_X9_129 ins_X9_blanks sel_X9_blanks zm_0 (by decide) rfl (c4_X9_blanks _ _ _ _ ad (up2 M 25 (Int32.toNatClampNeg a) 0) T N p (RS_w hS (Kt_25 (Kt_refl (P := sP) hS.1) (by decide)).1 (upo (by decide)) (upo (by decide)))) rfl (Nat.le_of_ble_eq_true rfl) rfl ⟨by decide, by decide⟩ ⟨Nat.zero_le _, Nat.zero_le _⟩ rfl rfl (fun v1 Mx1 hp1 => ?_)
  obtain ⟨rfl, hk1, e1⟩ := hp1
  have kR1 : Kt sP M Mx1 := Kt_trans (Kt_25 (Kt_refl (P := sP) hS.1) (by decide)) (b_s hk1)
  have kC1 : RSx T N Mx1 p := (RS_st (RS_w hS (Kt_25 (Kt_refl (P := sP) hS.1) (by decide)).1 (upo (by decide)) (upo (by decide))) hk1 b17 e1)
  have kE1 : EN (Int32.toNatClampNeg a) M Mx1 := (EN_b (EN_c (EN_refl _ M) (by decide) _ _) hk1)
  have k25_1 : Mx1 25 (Int32.toNatClampNeg a) = 0 := (congrFun (hk1.2.2 25 (by unfold bP; decide)) _).trans up_s
  show V K ad 0 0 ZM Mx1 11 [(0, .ref (ad 0)), (1, .int a)] []
  refine V_aload_n f dX9_acting_11 0 rfl ?_
  refine V_getR f dX9_acting_12 lf_9_88 rfl zm_0 rfl ?_
  refine V_iload_n f dX9_acting_15 1 rfl ?_
  refine V_ialdE (x := 0) f dX9_acting_16 zm_25 ha k25_1 ?_
  refine V_iconst (v := 3) f dX9_acting_17 (by decide) ?_
  refine V_icmp_eq (tgt := 38) f dX9_acting_18 (by decide) (fun h => absurd h (by decide)) (fun _ => ?_)
  refine V_aload_n f dX9_acting_21 0 rfl ?_
  refine V_iconst (v := 3) f dX9_acting_22 (by decide) ?_
  refine V_iload_n f dX9_acting_23 1 rfl ?_
  refine V_imul f dX9_acting_24 ?_
  refine V_aload_n f dX9_acting_25 0 rfl ?_
  refine V_getR f dX9_acting_26 lf_9_88 rfl zm_0 rfl ?_
  refine V_iload_n f dX9_acting_29 1 rfl ?_
  refine V_ialdE (x := 0) f dX9_acting_30 zm_25 ha k25_1 ?_
  refine V_iadd f dX9_acting_31 ?_
  refine V_cVp (As := [.int ((3 * a) + 0)]) (rest := []) f dX9_acting_32 lk_X9_160 ml_X9_160 ins_X9_test sel_X9_test zm_0 (by decide) rfl (c4_X9_test _ _ _ _ ad Mx1 ((3 * a) + 0) T N p kC1 (t432 ha (by decide) (by decide)).1) rfl (Nat.le_of_ble_eq_true rfl) rfl ⟨by decide, by decide⟩ ⟨Nat.zero_le _, Nat.zero_le _⟩ rfl rfl (fun v2 Mx2 hp2 => ?_)
  rcases hp2 with ⟨q2, hq2, rfl, hC2, hk2⟩ | ⟨q2, hq2, rfl, e2, hk2⟩
  · have kR2 : Kt sP M Mx2 := Kt_trans kR1 (t_s hk2)
    have kC2 : RSx T N Mx2 q2 := hC2
    have kE2 : EN (Int32.toNatClampNeg a) M Mx2 := (EN_t kE1 hk2)
    have k25_2 : Mx2 25 (Int32.toNatClampNeg a) = 0 := (congrFun (hk2.2.2 25 (by unfold tP; decide)) _).trans k25_1
    show V K ad 0 0 ZM Mx2 35 [(0, .ref (ad 0)), (1, .int a)] [.int 1]
    refine V_if_ne (tgt := 40) f dX9_acting_35 (by decide) (fun _ => ?_) (fun h => absurd h (by decide))
    refine V_aload_n f dX9_acting_40 0 rfl ?_
    refine V_getR f dX9_acting_41 lf_9_88 rfl zm_0 rfl ?_
    refine V_iload_n f dX9_acting_44 1 rfl ?_
    refine V_dup2 f dX9_acting_45 rfl rfl ?_
    refine V_ialdE (x := 0) f dX9_acting_46 zm_25 ha k25_2 ?_
    refine V_iconst (v := 1) f dX9_acting_47 (by decide) ?_
    refine V_iadd f dX9_acting_48 ?_
    rw [show (0 + 1 : Int32) = 1 by decide]
    refine V_iast f dX9_acting_49 zm_25 ha ?_
    refine V_aload_n f dX9_acting_50 0 rfl ?_
    refine V_ldc2 (v := 6385252) f dX9_acting_51 lc_X9_164 ?_
    refine V_cVp (As := [.long 6385252]) (rest := []) f dX9_acting_54 lk_X9_154 ml_X9_154 ins_X9_takes sel_X9_takes zm_0 (by decide) rfl (c4_X9_takes _ _ _ _ ad (up2 Mx2 25 (Int32.toNatClampNeg a) 1) 6385252 T N q2 (RS_w kC2 (Kt_25 kR2 (by decide)).1 (upo (by decide)) (upo (by decide))) 6 7 (by decide) (by decide) (by decide)) rfl (Nat.le_of_ble_eq_true rfl) rfl ⟨by decide, by decide⟩ ⟨Nat.zero_le _, Nat.zero_le _⟩ rfl rfl (fun v3 Mx3 hp3 => ?_)
    rcases hp3 with ⟨h3, rfl, hk3, e3⟩ | ⟨h3, rfl, hk3, e3⟩
    · have kR3 : Kt sP M Mx3 := Kt_trans (Kt_25 kR2 (by decide)) (b_s hk3)
      have kC3 : RSx T N Mx3 (txnx T N q2) := (RS_nx (RS_w kC2 (Kt_25 kR2 (by decide)).1 (upo (by decide)) (upo (by decide))) hk3 b17 e3)
      have kE3 : EN (Int32.toNatClampNeg a) M Mx3 := (EN_b (EN_c kE2 (by decide) _ _) hk3)
      have k25_3 : Mx3 25 (Int32.toNatClampNeg a) = 1 := (congrFun (hk3.2.2 25 (by unfold bP; decide)) _).trans up_s
      show V K ad 0 0 ZM Mx3 57 [(0, .ref (ad 0)), (1, .int a)] [.int 1]
      refine V_if_ne (tgt := 7) f dX9_acting_57 (by decide) (fun _ => ?_) (fun h => absurd h (by decide))
      refine V_aload_n f dX9_acting_7 0 rfl ?_
      refine V_cVp (As := []) (rest := []) f dX9_acting_8 lk_X9_129 ml_X9_129 ins_X9_blanks sel_X9_blanks zm_0 (by decide) rfl (c4_X9_blanks _ _ _ _ ad Mx3 T N (txnx T N q2) kC3) rfl (Nat.le_of_ble_eq_true rfl) rfl ⟨by decide, by decide⟩ ⟨Nat.zero_le _, Nat.zero_le _⟩ rfl rfl (fun v4 Mx4 hp4 => ?_)
      obtain ⟨rfl, hk4, e4⟩ := hp4
      have kR4 : Kt sP M Mx4 := Kt_trans kR3 (b_s hk4)
      have kC4 : RSx T N Mx4 (txnx T N q2) := (RS_st kC3 hk4 b17 e4)
      have kE4 : EN (Int32.toNatClampNeg a) M Mx4 := (EN_b kE3 hk4)
      have k25_4 : Mx4 25 (Int32.toNatClampNeg a) = 1 := (congrFun (hk4.2.2 25 (by unfold bP; decide)) _).trans k25_3
      show V K ad 0 0 ZM Mx4 11 [(0, .ref (ad 0)), (1, .int a)] []
      refine V_aload_n f dX9_acting_11 0 rfl ?_
      refine V_getR f dX9_acting_12 lf_9_88 rfl zm_0 rfl ?_
      refine V_iload_n f dX9_acting_15 1 rfl ?_
      refine V_ialdE (x := 1) f dX9_acting_16 zm_25 ha k25_4 ?_
      refine V_iconst (v := 3) f dX9_acting_17 (by decide) ?_
      refine V_icmp_eq (tgt := 38) f dX9_acting_18 (by decide) (fun h => absurd h (by decide)) (fun _ => ?_)
      refine V_aload_n f dX9_acting_21 0 rfl ?_
      refine V_iconst (v := 3) f dX9_acting_22 (by decide) ?_
      refine V_iload_n f dX9_acting_23 1 rfl ?_
      refine V_imul f dX9_acting_24 ?_
      refine V_aload_n f dX9_acting_25 0 rfl ?_
      refine V_getR f dX9_acting_26 lf_9_88 rfl zm_0 rfl ?_
      refine V_iload_n f dX9_acting_29 1 rfl ?_
      refine V_ialdE (x := 1) f dX9_acting_30 zm_25 ha k25_4 ?_
      refine V_iadd f dX9_acting_31 ?_
      refine V_cVp (As := [.int ((3 * a) + 1)]) (rest := []) f dX9_acting_32 lk_X9_160 ml_X9_160 ins_X9_test sel_X9_test zm_0 (by decide) rfl (c4_X9_test _ _ _ _ ad Mx4 ((3 * a) + 1) T N (txnx T N q2) kC4 (t432 ha (by decide) (by decide)).1) rfl (Nat.le_of_ble_eq_true rfl) rfl ⟨by decide, by decide⟩ ⟨Nat.zero_le _, Nat.zero_le _⟩ rfl rfl (fun v5 Mx5 hp5 => ?_)
      rcases hp5 with ⟨q5, hq5, rfl, hC5, hk5⟩ | ⟨q5, hq5, rfl, e5, hk5⟩
      · have kR5 : Kt sP M Mx5 := Kt_trans kR4 (t_s hk5)
        have kC5 : RSx T N Mx5 q5 := hC5
        have kE5 : EN (Int32.toNatClampNeg a) M Mx5 := (EN_t kE4 hk5)
        have k25_5 : Mx5 25 (Int32.toNatClampNeg a) = 1 := (congrFun (hk5.2.2 25 (by unfold tP; decide)) _).trans k25_4
        show V K ad 0 0 ZM Mx5 35 [(0, .ref (ad 0)), (1, .int a)] [.int 1]
        refine V_if_ne (tgt := 40) f dX9_acting_35 (by decide) (fun _ => ?_) (fun h => absurd h (by decide))
        refine V_aload_n f dX9_acting_40 0 rfl ?_
        refine V_getR f dX9_acting_41 lf_9_88 rfl zm_0 rfl ?_
        refine V_iload_n f dX9_acting_44 1 rfl ?_
        refine V_dup2 f dX9_acting_45 rfl rfl ?_
        refine V_ialdE (x := 1) f dX9_acting_46 zm_25 ha k25_5 ?_
        refine V_iconst (v := 1) f dX9_acting_47 (by decide) ?_
        refine V_iadd f dX9_acting_48 ?_
        rw [show (1 + 1 : Int32) = 2 by decide]
        refine V_iast f dX9_acting_49 zm_25 ha ?_
        refine V_aload_n f dX9_acting_50 0 rfl ?_
        refine V_ldc2 (v := 6385252) f dX9_acting_51 lc_X9_164 ?_
        refine V_cVp (As := [.long 6385252]) (rest := []) f dX9_acting_54 lk_X9_154 ml_X9_154 ins_X9_takes sel_X9_takes zm_0 (by decide) rfl (c4_X9_takes _ _ _ _ ad (up2 Mx5 25 (Int32.toNatClampNeg a) 2) 6385252 T N q5 (RS_w kC5 (Kt_25 kR5 (by decide)).1 (upo (by decide)) (upo (by decide))) 6 7 (by decide) (by decide) (by decide)) rfl (Nat.le_of_ble_eq_true rfl) rfl ⟨by decide, by decide⟩ ⟨Nat.zero_le _, Nat.zero_le _⟩ rfl rfl (fun v6 Mx6 hp6 => ?_)
        rcases hp6 with ⟨h6, rfl, hk6, e6⟩ | ⟨h6, rfl, hk6, e6⟩
        · have kR6 : Kt sP M Mx6 := Kt_trans (Kt_25 kR5 (by decide)) (b_s hk6)
          have kC6 : RSx T N Mx6 (txnx T N q5) := (RS_nx (RS_w kC5 (Kt_25 kR5 (by decide)).1 (upo (by decide)) (upo (by decide))) hk6 b17 e6)
          have kE6 : EN (Int32.toNatClampNeg a) M Mx6 := (EN_b (EN_c kE5 (by decide) _ _) hk6)
          have k25_6 : Mx6 25 (Int32.toNatClampNeg a) = 2 := (congrFun (hk6.2.2 25 (by unfold bP; decide)) _).trans up_s
          show V K ad 0 0 ZM Mx6 57 [(0, .ref (ad 0)), (1, .int a)] [.int 1]
          refine V_if_ne (tgt := 7) f dX9_acting_57 (by decide) (fun _ => ?_) (fun h => absurd h (by decide))
          refine V_aload_n f dX9_acting_7 0 rfl ?_
          refine V_cVp (As := []) (rest := []) f dX9_acting_8 lk_X9_129 ml_X9_129 ins_X9_blanks sel_X9_blanks zm_0 (by decide) rfl (c4_X9_blanks _ _ _ _ ad Mx6 T N (txnx T N q5) kC6) rfl (Nat.le_of_ble_eq_true rfl) rfl ⟨by decide, by decide⟩ ⟨Nat.zero_le _, Nat.zero_le _⟩ rfl rfl (fun v7 Mx7 hp7 => ?_)
          obtain ⟨rfl, hk7, e7⟩ := hp7
          have kR7 : Kt sP M Mx7 := Kt_trans kR6 (b_s hk7)
          have kC7 : RSx T N Mx7 (txnx T N q5) := (RS_st kC6 hk7 b17 e7)
          have kE7 : EN (Int32.toNatClampNeg a) M Mx7 := (EN_b kE6 hk7)
          have k25_7 : Mx7 25 (Int32.toNatClampNeg a) = 2 := (congrFun (hk7.2.2 25 (by unfold bP; decide)) _).trans k25_6
          show V K ad 0 0 ZM Mx7 11 [(0, .ref (ad 0)), (1, .int a)] []
          refine V_aload_n f dX9_acting_11 0 rfl ?_
          refine V_getR f dX9_acting_12 lf_9_88 rfl zm_0 rfl ?_
          refine V_iload_n f dX9_acting_15 1 rfl ?_
          refine V_ialdE (x := 2) f dX9_acting_16 zm_25 ha k25_7 ?_
          refine V_iconst (v := 3) f dX9_acting_17 (by decide) ?_
          refine V_icmp_eq (tgt := 38) f dX9_acting_18 (by decide) (fun h => absurd h (by decide)) (fun _ => ?_)
          refine V_aload_n f dX9_acting_21 0 rfl ?_
          refine V_iconst (v := 3) f dX9_acting_22 (by decide) ?_
          refine V_iload_n f dX9_acting_23 1 rfl ?_
          refine V_imul f dX9_acting_24 ?_
          refine V_aload_n f dX9_acting_25 0 rfl ?_
          refine V_getR f dX9_acting_26 lf_9_88 rfl zm_0 rfl ?_
          refine V_iload_n f dX9_acting_29 1 rfl ?_
          refine V_ialdE (x := 2) f dX9_acting_30 zm_25 ha k25_7 ?_
          refine V_iadd f dX9_acting_31 ?_
          refine V_cVp (As := [.int ((3 * a) + 2)]) (rest := []) f dX9_acting_32 lk_X9_160 ml_X9_160 ins_X9_test sel_X9_test zm_0 (by decide) rfl (c4_X9_test _ _ _ _ ad Mx7 ((3 * a) + 2) T N (txnx T N q5) kC7 (t432 ha (by decide) (by decide)).1) rfl (Nat.le_of_ble_eq_true rfl) rfl ⟨by decide, by decide⟩ ⟨Nat.zero_le _, Nat.zero_le _⟩ rfl rfl (fun v8 Mx8 hp8 => ?_)
          rcases hp8 with ⟨q8, hq8, rfl, hC8, hk8⟩ | ⟨q8, hq8, rfl, e8, hk8⟩
          · have kR8 : Kt sP M Mx8 := Kt_trans kR7 (t_s hk8)
            have kC8 : RSx T N Mx8 q8 := hC8
            have kE8 : EN (Int32.toNatClampNeg a) M Mx8 := (EN_t kE7 hk8)
            have k25_8 : Mx8 25 (Int32.toNatClampNeg a) = 2 := (congrFun (hk8.2.2 25 (by unfold tP; decide)) _).trans k25_7
            show V K ad 0 0 ZM Mx8 35 [(0, .ref (ad 0)), (1, .int a)] [.int 1]
            refine V_if_ne (tgt := 40) f dX9_acting_35 (by decide) (fun _ => ?_) (fun h => absurd h (by decide))
            refine V_aload_n f dX9_acting_40 0 rfl ?_
            refine V_getR f dX9_acting_41 lf_9_88 rfl zm_0 rfl ?_
            refine V_iload_n f dX9_acting_44 1 rfl ?_
            refine V_dup2 f dX9_acting_45 rfl rfl ?_
            refine V_ialdE (x := 2) f dX9_acting_46 zm_25 ha k25_8 ?_
            refine V_iconst (v := 1) f dX9_acting_47 (by decide) ?_
            refine V_iadd f dX9_acting_48 ?_
            rw [show (2 + 1 : Int32) = 3 by decide]
            refine V_iast f dX9_acting_49 zm_25 ha ?_
            refine V_aload_n f dX9_acting_50 0 rfl ?_
            refine V_ldc2 (v := 6385252) f dX9_acting_51 lc_X9_164 ?_
            refine V_cVp (As := [.long 6385252]) (rest := []) f dX9_acting_54 lk_X9_154 ml_X9_154 ins_X9_takes sel_X9_takes zm_0 (by decide) rfl (c4_X9_takes _ _ _ _ ad (up2 Mx8 25 (Int32.toNatClampNeg a) 3) 6385252 T N q8 (RS_w kC8 (Kt_25 kR8 (by decide)).1 (upo (by decide)) (upo (by decide))) 6 7 (by decide) (by decide) (by decide)) rfl (Nat.le_of_ble_eq_true rfl) rfl ⟨by decide, by decide⟩ ⟨Nat.zero_le _, Nat.zero_le _⟩ rfl rfl (fun v9 Mx9 hp9 => ?_)
            rcases hp9 with ⟨h9, rfl, hk9, e9⟩ | ⟨h9, rfl, hk9, e9⟩
            · have kR9 : Kt sP M Mx9 := Kt_trans (Kt_25 kR8 (by decide)) (b_s hk9)
              have kC9 : RSx T N Mx9 (txnx T N q8) := (RS_nx (RS_w kC8 (Kt_25 kR8 (by decide)).1 (upo (by decide)) (upo (by decide))) hk9 b17 e9)
              have kE9 : EN (Int32.toNatClampNeg a) M Mx9 := (EN_b (EN_c kE8 (by decide) _ _) hk9)
              have k25_9 : Mx9 25 (Int32.toNatClampNeg a) = 3 := (congrFun (hk9.2.2 25 (by unfold bP; decide)) _).trans up_s
              show V K ad 0 0 ZM Mx9 57 [(0, .ref (ad 0)), (1, .int a)] [.int 1]
              refine V_if_ne (tgt := 7) f dX9_acting_57 (by decide) (fun _ => ?_) (fun h => absurd h (by decide))
              refine V_aload_n f dX9_acting_7 0 rfl ?_
              refine V_cVp (As := []) (rest := []) f dX9_acting_8 lk_X9_129 ml_X9_129 ins_X9_blanks sel_X9_blanks zm_0 (by decide) rfl (c4_X9_blanks _ _ _ _ ad Mx9 T N (txnx T N q8) kC9) rfl (Nat.le_of_ble_eq_true rfl) rfl ⟨by decide, by decide⟩ ⟨Nat.zero_le _, Nat.zero_le _⟩ rfl rfl (fun v10 Mx10 hp10 => ?_)
              obtain ⟨rfl, hk10, e10⟩ := hp10
              have kR10 : Kt sP M Mx10 := Kt_trans kR9 (b_s hk10)
              have kC10 : RSx T N Mx10 (txnx T N q8) := (RS_st kC9 hk10 b17 e10)
              have kE10 : EN (Int32.toNatClampNeg a) M Mx10 := (EN_b kE9 hk10)
              have k25_10 : Mx10 25 (Int32.toNatClampNeg a) = 3 := (congrFun (hk10.2.2 25 (by unfold bP; decide)) _).trans k25_9
              show V K ad 0 0 ZM Mx10 11 [(0, .ref (ad 0)), (1, .int a)] []
              refine V_aload_n f dX9_acting_11 0 rfl ?_
              refine V_getR f dX9_acting_12 lf_9_88 rfl zm_0 rfl ?_
              refine V_iload_n f dX9_acting_15 1 rfl ?_
              refine V_ialdE (x := 3) f dX9_acting_16 zm_25 ha k25_10 ?_
              refine V_iconst (v := 3) f dX9_acting_17 (by decide) ?_
              refine V_icmp_eq (tgt := 38) f dX9_acting_18 (by decide) (fun _ => ?_) (fun h => absurd (by decide) h)
              refine V_iconst (v := 0) f dX9_acting_38 (by decide) ?_
              exact V_iret f q dX9_acting_39 rfl (Nat.zero_le _) (Nat.zero_le _) ⟨rfl, rfl, Or.inr ⟨(txnx T N q8), (txrl_a hq2 h3).trans ((txrl_a hq5 h6).trans ((txrl_a hq8 h9).trans (rfl))), rfl, e10, kR10, kE10⟩⟩
            · have kR9 : Kt sP M Mx9 := Kt_trans (Kt_25 kR8 (by decide)) (b_s hk9)
              have kC9 : RSx T N Mx9 q8 := (RS_st (RS_w kC8 (Kt_25 kR8 (by decide)).1 (upo (by decide)) (upo (by decide))) hk9 b17 e9)
              have kE9 : EN (Int32.toNatClampNeg a) M Mx9 := (EN_b (EN_c kE8 (by decide) _ _) hk9)
              have k25_9 : Mx9 25 (Int32.toNatClampNeg a) = 3 := (congrFun (hk9.2.2 25 (by unfold bP; decide)) _).trans up_s
              show V K ad 0 0 ZM Mx9 57 [(0, .ref (ad 0)), (1, .int a)] [.int 0]
              refine V_if_ne (tgt := 7) f dX9_acting_57 (by decide) (fun h => absurd (by decide) h) (fun _ => ?_)
              refine V_aload_n f dX9_acting_60 0 rfl ?_
              refine V_ldc2 (v := 1952998766) f dX9_acting_61 lc_X9_166 ?_
              refine V_cVp (As := [.long 1952998766]) (rest := []) f dX9_acting_64 lk_X9_154 ml_X9_154 ins_X9_takes sel_X9_takes zm_0 (by decide) rfl (c4_X9_takes _ _ _ _ ad Mx9 1952998766 T N q8 kC9 7 8 (by decide) (by decide) (by decide)) rfl (Nat.le_of_ble_eq_true rfl) rfl ⟨by decide, by decide⟩ ⟨Nat.zero_le _, Nat.zero_le _⟩ rfl rfl (fun v11 Mx11 hp11 => ?_)
              rcases hp11 with ⟨h11, rfl, hk11, e11⟩ | ⟨h11, rfl, hk11, e11⟩
              · have kR11 : Kt sP M Mx11 := Kt_trans kR9 (b_s hk11)
                have kC11 : RSx T N Mx11 (txnx T N q8) := (RS_nx kC9 hk11 b17 e11)
                have kE11 : EN (Int32.toNatClampNeg a) M Mx11 := (EN_b kE9 hk11)
                have k25_11 : Mx11 25 (Int32.toNatClampNeg a) = 3 := (congrFun (hk11.2.2 25 (by unfold bP; decide)) _).trans k25_9
                show V K ad 0 0 ZM Mx11 67 [(0, .ref (ad 0)), (1, .int a)] [.int 1]
                refine V_if_ne (tgt := 72) f dX9_acting_67 (by decide) (fun _ => ?_) (fun h => absurd h (by decide))
                refine V_aload_n f dX9_acting_72 0 rfl ?_
                refine V_getR f dX9_acting_73 lf_9_73 rfl zm_0 rfl ?_
                refine V_iload_n f dX9_acting_76 1 rfl ?_
                refine V_aload_n f dX9_acting_77 0 rfl ?_
                refine V_ldc2 (v := 1953854062) f dX9_acting_78 lc_X9_168 ?_
                refine V_cVp (As := [.long 1953854062]) (rest := [.int a, .ref (ad 20)]) f dX9_acting_81 lk_X9_154 ml_X9_154 ins_X9_takes sel_X9_takes zm_0 (by decide) rfl (c4_X9_takes _ _ _ _ ad Mx11 1953854062 T N (txnx T N q8) kC11 8 9 (by decide) (by decide) (by decide)) rfl (Nat.le_of_ble_eq_true rfl) rfl ⟨by decide, by decide⟩ ⟨Nat.zero_le _, Nat.zero_le _⟩ rfl rfl (fun v12 Mx12 hp12 => ?_)
                rcases hp12 with ⟨h12, rfl, hk12, e12⟩ | ⟨h12, rfl, hk12, e12⟩
                · have kR12 : Kt sP M Mx12 := Kt_trans kR11 (b_s hk12)
                  have kC12 : RSx T N Mx12 (txnx T N (txnx T N q8)) := (RS_nx kC11 hk12 b17 e12)
                  have kE12 : EN (Int32.toNatClampNeg a) M Mx12 := (EN_b kE11 hk12)
                  have k25_12 : Mx12 25 (Int32.toNatClampNeg a) = 3 := (congrFun (hk12.2.2 25 (by unfold bP; decide)) _).trans k25_11
                  show V K ad 0 0 ZM Mx12 84 [(0, .ref (ad 0)), (1, .int a)] [.int 1, .int a, .ref (ad 20)]
                  refine V_if_eq (tgt := 91) f dX9_acting_84 (by decide) (fun h => absurd h (by decide)) (fun _ => ?_)
                  refine V_iconst (v := 3) f dX9_acting_87 (by decide) ?_
                  refine V_goto (tgt := 120) f dX9_acting_88 (by decide) ?_
                  refine V_iast f dX9_acting_120 zm_20 ha ?_
                  refine V_aload_n f dX9_acting_121 0 rfl ?_
                  refine V_getR f dX9_acting_122 lf_9_73 rfl zm_0 rfl ?_
                  refine V_iload_n f dX9_acting_125 1 rfl ?_
                  refine V_ialdE (x := 3) f dX9_acting_126 zm_20 ha up_s ?_
                  refine V_iconst (v := (-1)) f dX9_acting_127 (by decide) ?_
                  refine V_icmp_eq (tgt := 135) f dX9_acting_128 (by decide) (fun h => absurd h (by decide)) (fun _ => ?_)
                  refine V_iconst (v := 1) f dX9_acting_131 (by decide) ?_
                  refine V_goto (tgt := 136) f dX9_acting_132 (by decide) ?_
                  exact V_iret f q dX9_acting_136 rfl (Nat.zero_le _) (Nat.zero_le _) ⟨rfl, rfl, Or.inl ⟨(txnx T N (txnx T N q8)), (txrl_a hq2 h3).trans ((txrl_a hq5 h6).trans ((txrl_e hq8 h9).trans ((txsq_y h11).trans ((txsq_y (m9 h12)).trans (rfl))))), rfl, (RS_w kC12 (Kt_cs kR12 (by decide) _ _).1 (upo (by decide)) (upo (by decide))), (Kt_cs kR12 (by decide) _ _), (EN_u kE12 _ _), n012 up_s (by decide)⟩⟩
                · have kR12 : Kt sP M Mx12 := Kt_trans kR11 (b_s hk12)
                  have kC12 : RSx T N Mx12 (txnx T N q8) := (RS_st kC11 hk12 b17 e12)
                  have kE12 : EN (Int32.toNatClampNeg a) M Mx12 := (EN_b kE11 hk12)
                  have k25_12 : Mx12 25 (Int32.toNatClampNeg a) = 3 := (congrFun (hk12.2.2 25 (by unfold bP; decide)) _).trans k25_11
                  show V K ad 0 0 ZM Mx12 84 [(0, .ref (ad 0)), (1, .int a)] [.int 0, .int a, .ref (ad 20)]
                  refine V_if_eq (tgt := 91) f dX9_acting_84 (by decide) (fun _ => ?_) (fun h => absurd (by decide) h)
                  refine V_aload_n f dX9_acting_91 0 rfl ?_
                  refine V_ldc2 (v := 1936027236) f dX9_acting_92 lc_X9_170 ?_
                  refine V_cVp (As := [.long 1936027236]) (rest := [.int a, .ref (ad 20)]) f dX9_acting_95 lk_X9_154 ml_X9_154 ins_X9_takes sel_X9_takes zm_0 (by decide) rfl (c4_X9_takes _ _ _ _ ad Mx12 1936027236 T N (txnx T N q8) kC12 9 10 (by decide) (by decide) (by decide)) rfl (Nat.le_of_ble_eq_true rfl) rfl ⟨by decide, by decide⟩ ⟨Nat.zero_le _, Nat.zero_le _⟩ rfl rfl (fun v13 Mx13 hp13 => ?_)
                  rcases hp13 with ⟨h13, rfl, hk13, e13⟩ | ⟨h13, rfl, hk13, e13⟩
                  · have kR13 : Kt sP M Mx13 := Kt_trans kR12 (b_s hk13)
                    have kC13 : RSx T N Mx13 (txnx T N (txnx T N q8)) := (RS_nx kC12 hk13 b17 e13)
                    have kE13 : EN (Int32.toNatClampNeg a) M Mx13 := (EN_b kE12 hk13)
                    have k25_13 : Mx13 25 (Int32.toNatClampNeg a) = 3 := (congrFun (hk13.2.2 25 (by unfold bP; decide)) _).trans k25_12
                    show V K ad 0 0 ZM Mx13 98 [(0, .ref (ad 0)), (1, .int a)] [.int 1, .int a, .ref (ad 20)]
                    refine V_if_eq (tgt := 105) f dX9_acting_98 (by decide) (fun h => absurd h (by decide)) (fun _ => ?_)
                    refine V_iconst (v := 4) f dX9_acting_101 (by decide) ?_
                    refine V_goto (tgt := 120) f dX9_acting_102 (by decide) ?_
                    refine V_iast f dX9_acting_120 zm_20 ha ?_
                    refine V_aload_n f dX9_acting_121 0 rfl ?_
                    refine V_getR f dX9_acting_122 lf_9_73 rfl zm_0 rfl ?_
                    refine V_iload_n f dX9_acting_125 1 rfl ?_
                    refine V_ialdE (x := 4) f dX9_acting_126 zm_20 ha up_s ?_
                    refine V_iconst (v := (-1)) f dX9_acting_127 (by decide) ?_
                    refine V_icmp_eq (tgt := 135) f dX9_acting_128 (by decide) (fun h => absurd h (by decide)) (fun _ => ?_)
                    refine V_iconst (v := 1) f dX9_acting_131 (by decide) ?_
                    refine V_goto (tgt := 136) f dX9_acting_132 (by decide) ?_
                    exact V_iret f q dX9_acting_136 rfl (Nat.zero_le _) (Nat.zero_le _) ⟨rfl, rfl, Or.inl ⟨(txnx T N (txnx T N q8)), (txrl_a hq2 h3).trans ((txrl_a hq5 h6).trans ((txrl_e hq8 h9).trans ((txsq_y h11).trans ((txsq_y (m10 h13)).trans (rfl))))), rfl, (RS_w kC13 (Kt_cs kR13 (by decide) _ _).1 (upo (by decide)) (upo (by decide))), (Kt_cs kR13 (by decide) _ _), (EN_u kE13 _ _), n012 up_s (by decide)⟩⟩
                  · have kR13 : Kt sP M Mx13 := Kt_trans kR12 (b_s hk13)
                    have kC13 : RSx T N Mx13 (txnx T N q8) := (RS_st kC12 hk13 b17 e13)
                    have kE13 : EN (Int32.toNatClampNeg a) M Mx13 := (EN_b kE12 hk13)
                    have k25_13 : Mx13 25 (Int32.toNatClampNeg a) = 3 := (congrFun (hk13.2.2 25 (by unfold bP; decide)) _).trans k25_12
                    show V K ad 0 0 ZM Mx13 98 [(0, .ref (ad 0)), (1, .int a)] [.int 0, .int a, .ref (ad 20)]
                    refine V_if_eq (tgt := 105) f dX9_acting_98 (by decide) (fun _ => ?_) (fun h => absurd (by decide) h)
                    refine V_aload_n f dX9_acting_105 0 rfl ?_
                    refine V_ldc2 (v := 1801807216) f dX9_acting_106 lc_X9_172 ?_
                    refine V_cVp (As := [.long 1801807216]) (rest := [.int a, .ref (ad 20)]) f dX9_acting_109 lk_X9_154 ml_X9_154 ins_X9_takes sel_X9_takes zm_0 (by decide) rfl (c4_X9_takes _ _ _ _ ad Mx13 1801807216 T N (txnx T N q8) kC13 10 11 (by decide) (by decide) (by decide)) rfl (Nat.le_of_ble_eq_true rfl) rfl ⟨by decide, by decide⟩ ⟨Nat.zero_le _, Nat.zero_le _⟩ rfl rfl (fun v14 Mx14 hp14 => ?_)
                    rcases hp14 with ⟨h14, rfl, hk14, e14⟩ | ⟨h14, rfl, hk14, e14⟩
                    · have kR14 : Kt sP M Mx14 := Kt_trans kR13 (b_s hk14)
                      have kC14 : RSx T N Mx14 (txnx T N (txnx T N q8)) := (RS_nx kC13 hk14 b17 e14)
                      have kE14 : EN (Int32.toNatClampNeg a) M Mx14 := (EN_b kE13 hk14)
                      have k25_14 : Mx14 25 (Int32.toNatClampNeg a) = 3 := (congrFun (hk14.2.2 25 (by unfold bP; decide)) _).trans k25_13
                      show V K ad 0 0 ZM Mx14 112 [(0, .ref (ad 0)), (1, .int a)] [.int 1, .int a, .ref (ad 20)]
                      refine V_if_eq (tgt := 119) f dX9_acting_112 (by decide) (fun h => absurd h (by decide)) (fun _ => ?_)
                      refine V_iconst (v := 5) f dX9_acting_115 (by decide) ?_
                      refine V_goto (tgt := 120) f dX9_acting_116 (by decide) ?_
                      refine V_iast f dX9_acting_120 zm_20 ha ?_
                      refine V_aload_n f dX9_acting_121 0 rfl ?_
                      refine V_getR f dX9_acting_122 lf_9_73 rfl zm_0 rfl ?_
                      refine V_iload_n f dX9_acting_125 1 rfl ?_
                      refine V_ialdE (x := 5) f dX9_acting_126 zm_20 ha up_s ?_
                      refine V_iconst (v := (-1)) f dX9_acting_127 (by decide) ?_
                      refine V_icmp_eq (tgt := 135) f dX9_acting_128 (by decide) (fun h => absurd h (by decide)) (fun _ => ?_)
                      refine V_iconst (v := 1) f dX9_acting_131 (by decide) ?_
                      refine V_goto (tgt := 136) f dX9_acting_132 (by decide) ?_
                      exact V_iret f q dX9_acting_136 rfl (Nat.zero_le _) (Nat.zero_le _) ⟨rfl, rfl, Or.inl ⟨(txnx T N (txnx T N q8)), (txrl_a hq2 h3).trans ((txrl_a hq5 h6).trans ((txrl_e hq8 h9).trans ((txsq_y h11).trans ((txsq_y (m11 h14)).trans (rfl))))), rfl, (RS_w kC14 (Kt_cs kR14 (by decide) _ _).1 (upo (by decide)) (upo (by decide))), (Kt_cs kR14 (by decide) _ _), (EN_u kE14 _ _), n012 up_s (by decide)⟩⟩
                    · have kR14 : Kt sP M Mx14 := Kt_trans kR13 (b_s hk14)
                      have kC14 : RSx T N Mx14 (txnx T N q8) := (RS_st kC13 hk14 b17 e14)
                      have kE14 : EN (Int32.toNatClampNeg a) M Mx14 := (EN_b kE13 hk14)
                      have k25_14 : Mx14 25 (Int32.toNatClampNeg a) = 3 := (congrFun (hk14.2.2 25 (by unfold bP; decide)) _).trans k25_13
                      show V K ad 0 0 ZM Mx14 112 [(0, .ref (ad 0)), (1, .int a)] [.int 0, .int a, .ref (ad 20)]
                      refine V_if_eq (tgt := 119) f dX9_acting_112 (by decide) (fun _ => ?_) (fun h => absurd (by decide) h)
                      refine V_iconst (v := (-1)) f dX9_acting_119 (by decide) ?_
                      refine V_iast f dX9_acting_120 zm_20 ha ?_
                      refine V_aload_n f dX9_acting_121 0 rfl ?_
                      refine V_getR f dX9_acting_122 lf_9_73 rfl zm_0 rfl ?_
                      refine V_iload_n f dX9_acting_125 1 rfl ?_
                      refine V_ialdE (x := (-1)) f dX9_acting_126 zm_20 ha up_s ?_
                      refine V_iconst (v := (-1)) f dX9_acting_127 (by decide) ?_
                      refine V_icmp_eq (tgt := 135) f dX9_acting_128 (by decide) (fun _ => ?_) (fun h => absurd (by decide) h)
                      refine V_iconst (v := 0) f dX9_acting_135 (by decide) ?_
                      exact V_iret f q dX9_acting_136 rfl (Nat.zero_le _) (Nat.zero_le _) ⟨rfl, rfl, Or.inr ⟨(txnx T N q8), (txrl_a hq2 h3).trans ((txrl_a hq5 h6).trans ((txrl_e hq8 h9).trans ((txsq_y h11).trans (txsq_n (nm3 h12 h13 h14))))), rfl, (up_c (by decide) e14), (Kt_cs kR14 (by decide) _ _), (EN_u kE14 _ _)⟩⟩
              · have kR11 : Kt sP M Mx11 := Kt_trans kR9 (b_s hk11)
                have kC11 : RSx T N Mx11 q8 := (RS_st kC9 hk11 b17 e11)
                have kE11 : EN (Int32.toNatClampNeg a) M Mx11 := (EN_b kE9 hk11)
                have k25_11 : Mx11 25 (Int32.toNatClampNeg a) = 3 := (congrFun (hk11.2.2 25 (by unfold bP; decide)) _).trans k25_9
                show V K ad 0 0 ZM Mx11 67 [(0, .ref (ad 0)), (1, .int a)] [.int 0]
                refine V_if_ne (tgt := 72) f dX9_acting_67 (by decide) (fun h => absurd (by decide) h) (fun _ => ?_)
                refine V_iconst (v := 0) f dX9_acting_70 (by decide) ?_
                exact V_iret f q dX9_acting_71 rfl (Nat.zero_le _) (Nat.zero_le _) ⟨rfl, rfl, Or.inr ⟨q8, (txrl_a hq2 h3).trans ((txrl_a hq5 h6).trans ((txrl_e hq8 h9).trans (txsq_n h11))), rfl, e11, kR11, kE11⟩⟩
          · have kR8 : Kt sP M Mx8 := Kt_trans kR7 (t_s hk8)
            have kE8 : EN (Int32.toNatClampNeg a) M Mx8 := (EN_t kE7 hk8)
            have k25_8 : Mx8 25 (Int32.toNatClampNeg a) = 2 := (congrFun (hk8.2.2 25 (by unfold tP; decide)) _).trans k25_7
            show V K ad 0 0 ZM Mx8 35 [(0, .ref (ad 0)), (1, .int a)] [.int 0]
            refine V_if_ne (tgt := 40) f dX9_acting_35 (by decide) (fun h => absurd (by decide) h) (fun _ => ?_)
            refine V_iconst (v := 0) f dX9_acting_38 (by decide) ?_
            exact V_iret f q dX9_acting_39 rfl (Nat.zero_le _) (Nat.zero_le _) ⟨rfl, rfl, Or.inr ⟨q8, (txrl_a hq2 h3).trans ((txrl_a hq5 h6).trans (txrl_n hq8)), rfl, e8, kR8, kE8⟩⟩
        · have kR6 : Kt sP M Mx6 := Kt_trans (Kt_25 kR5 (by decide)) (b_s hk6)
          have kC6 : RSx T N Mx6 q5 := (RS_st (RS_w kC5 (Kt_25 kR5 (by decide)).1 (upo (by decide)) (upo (by decide))) hk6 b17 e6)
          have kE6 : EN (Int32.toNatClampNeg a) M Mx6 := (EN_b (EN_c kE5 (by decide) _ _) hk6)
          have k25_6 : Mx6 25 (Int32.toNatClampNeg a) = 2 := (congrFun (hk6.2.2 25 (by unfold bP; decide)) _).trans up_s
          show V K ad 0 0 ZM Mx6 57 [(0, .ref (ad 0)), (1, .int a)] [.int 0]
          refine V_if_ne (tgt := 7) f dX9_acting_57 (by decide) (fun h => absurd (by decide) h) (fun _ => ?_)
          refine V_aload_n f dX9_acting_60 0 rfl ?_
          refine V_ldc2 (v := 1952998766) f dX9_acting_61 lc_X9_166 ?_
          refine V_cVp (As := [.long 1952998766]) (rest := []) f dX9_acting_64 lk_X9_154 ml_X9_154 ins_X9_takes sel_X9_takes zm_0 (by decide) rfl (c4_X9_takes _ _ _ _ ad Mx6 1952998766 T N q5 kC6 7 8 (by decide) (by decide) (by decide)) rfl (Nat.le_of_ble_eq_true rfl) rfl ⟨by decide, by decide⟩ ⟨Nat.zero_le _, Nat.zero_le _⟩ rfl rfl (fun v15 Mx15 hp15 => ?_)
          rcases hp15 with ⟨h15, rfl, hk15, e15⟩ | ⟨h15, rfl, hk15, e15⟩
          · have kR15 : Kt sP M Mx15 := Kt_trans kR6 (b_s hk15)
            have kC15 : RSx T N Mx15 (txnx T N q5) := (RS_nx kC6 hk15 b17 e15)
            have kE15 : EN (Int32.toNatClampNeg a) M Mx15 := (EN_b kE6 hk15)
            have k25_15 : Mx15 25 (Int32.toNatClampNeg a) = 2 := (congrFun (hk15.2.2 25 (by unfold bP; decide)) _).trans k25_6
            show V K ad 0 0 ZM Mx15 67 [(0, .ref (ad 0)), (1, .int a)] [.int 1]
            refine V_if_ne (tgt := 72) f dX9_acting_67 (by decide) (fun _ => ?_) (fun h => absurd h (by decide))
            refine V_aload_n f dX9_acting_72 0 rfl ?_
            refine V_getR f dX9_acting_73 lf_9_73 rfl zm_0 rfl ?_
            refine V_iload_n f dX9_acting_76 1 rfl ?_
            refine V_aload_n f dX9_acting_77 0 rfl ?_
            refine V_ldc2 (v := 1953854062) f dX9_acting_78 lc_X9_168 ?_
            refine V_cVp (As := [.long 1953854062]) (rest := [.int a, .ref (ad 20)]) f dX9_acting_81 lk_X9_154 ml_X9_154 ins_X9_takes sel_X9_takes zm_0 (by decide) rfl (c4_X9_takes _ _ _ _ ad Mx15 1953854062 T N (txnx T N q5) kC15 8 9 (by decide) (by decide) (by decide)) rfl (Nat.le_of_ble_eq_true rfl) rfl ⟨by decide, by decide⟩ ⟨Nat.zero_le _, Nat.zero_le _⟩ rfl rfl (fun v16 Mx16 hp16 => ?_)
            rcases hp16 with ⟨h16, rfl, hk16, e16⟩ | ⟨h16, rfl, hk16, e16⟩
            · have kR16 : Kt sP M Mx16 := Kt_trans kR15 (b_s hk16)
              have kC16 : RSx T N Mx16 (txnx T N (txnx T N q5)) := (RS_nx kC15 hk16 b17 e16)
              have kE16 : EN (Int32.toNatClampNeg a) M Mx16 := (EN_b kE15 hk16)
              have k25_16 : Mx16 25 (Int32.toNatClampNeg a) = 2 := (congrFun (hk16.2.2 25 (by unfold bP; decide)) _).trans k25_15
              show V K ad 0 0 ZM Mx16 84 [(0, .ref (ad 0)), (1, .int a)] [.int 1, .int a, .ref (ad 20)]
              refine V_if_eq (tgt := 91) f dX9_acting_84 (by decide) (fun h => absurd h (by decide)) (fun _ => ?_)
              refine V_iconst (v := 3) f dX9_acting_87 (by decide) ?_
              refine V_goto (tgt := 120) f dX9_acting_88 (by decide) ?_
              refine V_iast f dX9_acting_120 zm_20 ha ?_
              refine V_aload_n f dX9_acting_121 0 rfl ?_
              refine V_getR f dX9_acting_122 lf_9_73 rfl zm_0 rfl ?_
              refine V_iload_n f dX9_acting_125 1 rfl ?_
              refine V_ialdE (x := 3) f dX9_acting_126 zm_20 ha up_s ?_
              refine V_iconst (v := (-1)) f dX9_acting_127 (by decide) ?_
              refine V_icmp_eq (tgt := 135) f dX9_acting_128 (by decide) (fun h => absurd h (by decide)) (fun _ => ?_)
              refine V_iconst (v := 1) f dX9_acting_131 (by decide) ?_
              refine V_goto (tgt := 136) f dX9_acting_132 (by decide) ?_
              exact V_iret f q dX9_acting_136 rfl (Nat.zero_le _) (Nat.zero_le _) ⟨rfl, rfl, Or.inl ⟨(txnx T N (txnx T N q5)), (txrl_a hq2 h3).trans ((txrl_e hq5 h6).trans ((txsq_y h15).trans ((txsq_y (m9 h16)).trans (rfl)))), rfl, (RS_w kC16 (Kt_cs kR16 (by decide) _ _).1 (upo (by decide)) (upo (by decide))), (Kt_cs kR16 (by decide) _ _), (EN_u kE16 _ _), n012 up_s (by decide)⟩⟩
            · have kR16 : Kt sP M Mx16 := Kt_trans kR15 (b_s hk16)
              have kC16 : RSx T N Mx16 (txnx T N q5) := (RS_st kC15 hk16 b17 e16)
              have kE16 : EN (Int32.toNatClampNeg a) M Mx16 := (EN_b kE15 hk16)
              have k25_16 : Mx16 25 (Int32.toNatClampNeg a) = 2 := (congrFun (hk16.2.2 25 (by unfold bP; decide)) _).trans k25_15
              show V K ad 0 0 ZM Mx16 84 [(0, .ref (ad 0)), (1, .int a)] [.int 0, .int a, .ref (ad 20)]
              refine V_if_eq (tgt := 91) f dX9_acting_84 (by decide) (fun _ => ?_) (fun h => absurd (by decide) h)
              refine V_aload_n f dX9_acting_91 0 rfl ?_
              refine V_ldc2 (v := 1936027236) f dX9_acting_92 lc_X9_170 ?_
              refine V_cVp (As := [.long 1936027236]) (rest := [.int a, .ref (ad 20)]) f dX9_acting_95 lk_X9_154 ml_X9_154 ins_X9_takes sel_X9_takes zm_0 (by decide) rfl (c4_X9_takes _ _ _ _ ad Mx16 1936027236 T N (txnx T N q5) kC16 9 10 (by decide) (by decide) (by decide)) rfl (Nat.le_of_ble_eq_true rfl) rfl ⟨by decide, by decide⟩ ⟨Nat.zero_le _, Nat.zero_le _⟩ rfl rfl (fun v17 Mx17 hp17 => ?_)
              rcases hp17 with ⟨h17, rfl, hk17, e17⟩ | ⟨h17, rfl, hk17, e17⟩
              · have kR17 : Kt sP M Mx17 := Kt_trans kR16 (b_s hk17)
                have kC17 : RSx T N Mx17 (txnx T N (txnx T N q5)) := (RS_nx kC16 hk17 b17 e17)
                have kE17 : EN (Int32.toNatClampNeg a) M Mx17 := (EN_b kE16 hk17)
                have k25_17 : Mx17 25 (Int32.toNatClampNeg a) = 2 := (congrFun (hk17.2.2 25 (by unfold bP; decide)) _).trans k25_16
                show V K ad 0 0 ZM Mx17 98 [(0, .ref (ad 0)), (1, .int a)] [.int 1, .int a, .ref (ad 20)]
                refine V_if_eq (tgt := 105) f dX9_acting_98 (by decide) (fun h => absurd h (by decide)) (fun _ => ?_)
                refine V_iconst (v := 4) f dX9_acting_101 (by decide) ?_
                refine V_goto (tgt := 120) f dX9_acting_102 (by decide) ?_
                refine V_iast f dX9_acting_120 zm_20 ha ?_
                refine V_aload_n f dX9_acting_121 0 rfl ?_
                refine V_getR f dX9_acting_122 lf_9_73 rfl zm_0 rfl ?_
                refine V_iload_n f dX9_acting_125 1 rfl ?_
                refine V_ialdE (x := 4) f dX9_acting_126 zm_20 ha up_s ?_
                refine V_iconst (v := (-1)) f dX9_acting_127 (by decide) ?_
                refine V_icmp_eq (tgt := 135) f dX9_acting_128 (by decide) (fun h => absurd h (by decide)) (fun _ => ?_)
                refine V_iconst (v := 1) f dX9_acting_131 (by decide) ?_
                refine V_goto (tgt := 136) f dX9_acting_132 (by decide) ?_
                exact V_iret f q dX9_acting_136 rfl (Nat.zero_le _) (Nat.zero_le _) ⟨rfl, rfl, Or.inl ⟨(txnx T N (txnx T N q5)), (txrl_a hq2 h3).trans ((txrl_e hq5 h6).trans ((txsq_y h15).trans ((txsq_y (m10 h17)).trans (rfl)))), rfl, (RS_w kC17 (Kt_cs kR17 (by decide) _ _).1 (upo (by decide)) (upo (by decide))), (Kt_cs kR17 (by decide) _ _), (EN_u kE17 _ _), n012 up_s (by decide)⟩⟩
              · have kR17 : Kt sP M Mx17 := Kt_trans kR16 (b_s hk17)
                have kC17 : RSx T N Mx17 (txnx T N q5) := (RS_st kC16 hk17 b17 e17)
                have kE17 : EN (Int32.toNatClampNeg a) M Mx17 := (EN_b kE16 hk17)
                have k25_17 : Mx17 25 (Int32.toNatClampNeg a) = 2 := (congrFun (hk17.2.2 25 (by unfold bP; decide)) _).trans k25_16
                show V K ad 0 0 ZM Mx17 98 [(0, .ref (ad 0)), (1, .int a)] [.int 0, .int a, .ref (ad 20)]
                refine V_if_eq (tgt := 105) f dX9_acting_98 (by decide) (fun _ => ?_) (fun h => absurd (by decide) h)
                refine V_aload_n f dX9_acting_105 0 rfl ?_
                refine V_ldc2 (v := 1801807216) f dX9_acting_106 lc_X9_172 ?_
                refine V_cVp (As := [.long 1801807216]) (rest := [.int a, .ref (ad 20)]) f dX9_acting_109 lk_X9_154 ml_X9_154 ins_X9_takes sel_X9_takes zm_0 (by decide) rfl (c4_X9_takes _ _ _ _ ad Mx17 1801807216 T N (txnx T N q5) kC17 10 11 (by decide) (by decide) (by decide)) rfl (Nat.le_of_ble_eq_true rfl) rfl ⟨by decide, by decide⟩ ⟨Nat.zero_le _, Nat.zero_le _⟩ rfl rfl (fun v18 Mx18 hp18 => ?_)
                rcases hp18 with ⟨h18, rfl, hk18, e18⟩ | ⟨h18, rfl, hk18, e18⟩
                · have kR18 : Kt sP M Mx18 := Kt_trans kR17 (b_s hk18)
                  have kC18 : RSx T N Mx18 (txnx T N (txnx T N q5)) := (RS_nx kC17 hk18 b17 e18)
                  have kE18 : EN (Int32.toNatClampNeg a) M Mx18 := (EN_b kE17 hk18)
                  have k25_18 : Mx18 25 (Int32.toNatClampNeg a) = 2 := (congrFun (hk18.2.2 25 (by unfold bP; decide)) _).trans k25_17
                  show V K ad 0 0 ZM Mx18 112 [(0, .ref (ad 0)), (1, .int a)] [.int 1, .int a, .ref (ad 20)]
                  refine V_if_eq (tgt := 119) f dX9_acting_112 (by decide) (fun h => absurd h (by decide)) (fun _ => ?_)
                  refine V_iconst (v := 5) f dX9_acting_115 (by decide) ?_
                  refine V_goto (tgt := 120) f dX9_acting_116 (by decide) ?_
                  refine V_iast f dX9_acting_120 zm_20 ha ?_
                  refine V_aload_n f dX9_acting_121 0 rfl ?_
                  refine V_getR f dX9_acting_122 lf_9_73 rfl zm_0 rfl ?_
                  refine V_iload_n f dX9_acting_125 1 rfl ?_
                  refine V_ialdE (x := 5) f dX9_acting_126 zm_20 ha up_s ?_
                  refine V_iconst (v := (-1)) f dX9_acting_127 (by decide) ?_
                  refine V_icmp_eq (tgt := 135) f dX9_acting_128 (by decide) (fun h => absurd h (by decide)) (fun _ => ?_)
                  refine V_iconst (v := 1) f dX9_acting_131 (by decide) ?_
                  refine V_goto (tgt := 136) f dX9_acting_132 (by decide) ?_
                  exact V_iret f q dX9_acting_136 rfl (Nat.zero_le _) (Nat.zero_le _) ⟨rfl, rfl, Or.inl ⟨(txnx T N (txnx T N q5)), (txrl_a hq2 h3).trans ((txrl_e hq5 h6).trans ((txsq_y h15).trans ((txsq_y (m11 h18)).trans (rfl)))), rfl, (RS_w kC18 (Kt_cs kR18 (by decide) _ _).1 (upo (by decide)) (upo (by decide))), (Kt_cs kR18 (by decide) _ _), (EN_u kE18 _ _), n012 up_s (by decide)⟩⟩
                · have kR18 : Kt sP M Mx18 := Kt_trans kR17 (b_s hk18)
                  have kC18 : RSx T N Mx18 (txnx T N q5) := (RS_st kC17 hk18 b17 e18)
                  have kE18 : EN (Int32.toNatClampNeg a) M Mx18 := (EN_b kE17 hk18)
                  have k25_18 : Mx18 25 (Int32.toNatClampNeg a) = 2 := (congrFun (hk18.2.2 25 (by unfold bP; decide)) _).trans k25_17
                  show V K ad 0 0 ZM Mx18 112 [(0, .ref (ad 0)), (1, .int a)] [.int 0, .int a, .ref (ad 20)]
                  refine V_if_eq (tgt := 119) f dX9_acting_112 (by decide) (fun _ => ?_) (fun h => absurd (by decide) h)
                  refine V_iconst (v := (-1)) f dX9_acting_119 (by decide) ?_
                  refine V_iast f dX9_acting_120 zm_20 ha ?_
                  refine V_aload_n f dX9_acting_121 0 rfl ?_
                  refine V_getR f dX9_acting_122 lf_9_73 rfl zm_0 rfl ?_
                  refine V_iload_n f dX9_acting_125 1 rfl ?_
                  refine V_ialdE (x := (-1)) f dX9_acting_126 zm_20 ha up_s ?_
                  refine V_iconst (v := (-1)) f dX9_acting_127 (by decide) ?_
                  refine V_icmp_eq (tgt := 135) f dX9_acting_128 (by decide) (fun _ => ?_) (fun h => absurd (by decide) h)
                  refine V_iconst (v := 0) f dX9_acting_135 (by decide) ?_
                  exact V_iret f q dX9_acting_136 rfl (Nat.zero_le _) (Nat.zero_le _) ⟨rfl, rfl, Or.inr ⟨(txnx T N q5), (txrl_a hq2 h3).trans ((txrl_e hq5 h6).trans ((txsq_y h15).trans (txsq_n (nm3 h16 h17 h18)))), rfl, (up_c (by decide) e18), (Kt_cs kR18 (by decide) _ _), (EN_u kE18 _ _)⟩⟩
          · have kR15 : Kt sP M Mx15 := Kt_trans kR6 (b_s hk15)
            have kC15 : RSx T N Mx15 q5 := (RS_st kC6 hk15 b17 e15)
            have kE15 : EN (Int32.toNatClampNeg a) M Mx15 := (EN_b kE6 hk15)
            have k25_15 : Mx15 25 (Int32.toNatClampNeg a) = 2 := (congrFun (hk15.2.2 25 (by unfold bP; decide)) _).trans k25_6
            show V K ad 0 0 ZM Mx15 67 [(0, .ref (ad 0)), (1, .int a)] [.int 0]
            refine V_if_ne (tgt := 72) f dX9_acting_67 (by decide) (fun h => absurd (by decide) h) (fun _ => ?_)
            refine V_iconst (v := 0) f dX9_acting_70 (by decide) ?_
            exact V_iret f q dX9_acting_71 rfl (Nat.zero_le _) (Nat.zero_le _) ⟨rfl, rfl, Or.inr ⟨q5, (txrl_a hq2 h3).trans ((txrl_e hq5 h6).trans (txsq_n h15)), rfl, e15, kR15, kE15⟩⟩
      · have kR5 : Kt sP M Mx5 := Kt_trans kR4 (t_s hk5)
        have kE5 : EN (Int32.toNatClampNeg a) M Mx5 := (EN_t kE4 hk5)
        have k25_5 : Mx5 25 (Int32.toNatClampNeg a) = 1 := (congrFun (hk5.2.2 25 (by unfold tP; decide)) _).trans k25_4
        show V K ad 0 0 ZM Mx5 35 [(0, .ref (ad 0)), (1, .int a)] [.int 0]
        refine V_if_ne (tgt := 40) f dX9_acting_35 (by decide) (fun h => absurd (by decide) h) (fun _ => ?_)
        refine V_iconst (v := 0) f dX9_acting_38 (by decide) ?_
        exact V_iret f q dX9_acting_39 rfl (Nat.zero_le _) (Nat.zero_le _) ⟨rfl, rfl, Or.inr ⟨q5, (txrl_a hq2 h3).trans (txrl_n hq5), rfl, e5, kR5, kE5⟩⟩
    · have kR3 : Kt sP M Mx3 := Kt_trans (Kt_25 kR2 (by decide)) (b_s hk3)
      have kC3 : RSx T N Mx3 q2 := (RS_st (RS_w kC2 (Kt_25 kR2 (by decide)).1 (upo (by decide)) (upo (by decide))) hk3 b17 e3)
      have kE3 : EN (Int32.toNatClampNeg a) M Mx3 := (EN_b (EN_c kE2 (by decide) _ _) hk3)
      have k25_3 : Mx3 25 (Int32.toNatClampNeg a) = 1 := (congrFun (hk3.2.2 25 (by unfold bP; decide)) _).trans up_s
      show V K ad 0 0 ZM Mx3 57 [(0, .ref (ad 0)), (1, .int a)] [.int 0]
      refine V_if_ne (tgt := 7) f dX9_acting_57 (by decide) (fun h => absurd (by decide) h) (fun _ => ?_)
      refine V_aload_n f dX9_acting_60 0 rfl ?_
      refine V_ldc2 (v := 1952998766) f dX9_acting_61 lc_X9_166 ?_
      refine V_cVp (As := [.long 1952998766]) (rest := []) f dX9_acting_64 lk_X9_154 ml_X9_154 ins_X9_takes sel_X9_takes zm_0 (by decide) rfl (c4_X9_takes _ _ _ _ ad Mx3 1952998766 T N q2 kC3 7 8 (by decide) (by decide) (by decide)) rfl (Nat.le_of_ble_eq_true rfl) rfl ⟨by decide, by decide⟩ ⟨Nat.zero_le _, Nat.zero_le _⟩ rfl rfl (fun v19 Mx19 hp19 => ?_)
      rcases hp19 with ⟨h19, rfl, hk19, e19⟩ | ⟨h19, rfl, hk19, e19⟩
      · have kR19 : Kt sP M Mx19 := Kt_trans kR3 (b_s hk19)
        have kC19 : RSx T N Mx19 (txnx T N q2) := (RS_nx kC3 hk19 b17 e19)
        have kE19 : EN (Int32.toNatClampNeg a) M Mx19 := (EN_b kE3 hk19)
        have k25_19 : Mx19 25 (Int32.toNatClampNeg a) = 1 := (congrFun (hk19.2.2 25 (by unfold bP; decide)) _).trans k25_3
        show V K ad 0 0 ZM Mx19 67 [(0, .ref (ad 0)), (1, .int a)] [.int 1]
        refine V_if_ne (tgt := 72) f dX9_acting_67 (by decide) (fun _ => ?_) (fun h => absurd h (by decide))
        refine V_aload_n f dX9_acting_72 0 rfl ?_
        refine V_getR f dX9_acting_73 lf_9_73 rfl zm_0 rfl ?_
        refine V_iload_n f dX9_acting_76 1 rfl ?_
        refine V_aload_n f dX9_acting_77 0 rfl ?_
        refine V_ldc2 (v := 1953854062) f dX9_acting_78 lc_X9_168 ?_
        refine V_cVp (As := [.long 1953854062]) (rest := [.int a, .ref (ad 20)]) f dX9_acting_81 lk_X9_154 ml_X9_154 ins_X9_takes sel_X9_takes zm_0 (by decide) rfl (c4_X9_takes _ _ _ _ ad Mx19 1953854062 T N (txnx T N q2) kC19 8 9 (by decide) (by decide) (by decide)) rfl (Nat.le_of_ble_eq_true rfl) rfl ⟨by decide, by decide⟩ ⟨Nat.zero_le _, Nat.zero_le _⟩ rfl rfl (fun v20 Mx20 hp20 => ?_)
        rcases hp20 with ⟨h20, rfl, hk20, e20⟩ | ⟨h20, rfl, hk20, e20⟩
        · have kR20 : Kt sP M Mx20 := Kt_trans kR19 (b_s hk20)
          have kC20 : RSx T N Mx20 (txnx T N (txnx T N q2)) := (RS_nx kC19 hk20 b17 e20)
          have kE20 : EN (Int32.toNatClampNeg a) M Mx20 := (EN_b kE19 hk20)
          have k25_20 : Mx20 25 (Int32.toNatClampNeg a) = 1 := (congrFun (hk20.2.2 25 (by unfold bP; decide)) _).trans k25_19
          show V K ad 0 0 ZM Mx20 84 [(0, .ref (ad 0)), (1, .int a)] [.int 1, .int a, .ref (ad 20)]
          refine V_if_eq (tgt := 91) f dX9_acting_84 (by decide) (fun h => absurd h (by decide)) (fun _ => ?_)
          refine V_iconst (v := 3) f dX9_acting_87 (by decide) ?_
          refine V_goto (tgt := 120) f dX9_acting_88 (by decide) ?_
          refine V_iast f dX9_acting_120 zm_20 ha ?_
          refine V_aload_n f dX9_acting_121 0 rfl ?_
          refine V_getR f dX9_acting_122 lf_9_73 rfl zm_0 rfl ?_
          refine V_iload_n f dX9_acting_125 1 rfl ?_
          refine V_ialdE (x := 3) f dX9_acting_126 zm_20 ha up_s ?_
          refine V_iconst (v := (-1)) f dX9_acting_127 (by decide) ?_
          refine V_icmp_eq (tgt := 135) f dX9_acting_128 (by decide) (fun h => absurd h (by decide)) (fun _ => ?_)
          refine V_iconst (v := 1) f dX9_acting_131 (by decide) ?_
          refine V_goto (tgt := 136) f dX9_acting_132 (by decide) ?_
          exact V_iret f q dX9_acting_136 rfl (Nat.zero_le _) (Nat.zero_le _) ⟨rfl, rfl, Or.inl ⟨(txnx T N (txnx T N q2)), (txrl_e hq2 h3).trans ((txsq_y h19).trans ((txsq_y (m9 h20)).trans (rfl))), rfl, (RS_w kC20 (Kt_cs kR20 (by decide) _ _).1 (upo (by decide)) (upo (by decide))), (Kt_cs kR20 (by decide) _ _), (EN_u kE20 _ _), n012 up_s (by decide)⟩⟩
        · have kR20 : Kt sP M Mx20 := Kt_trans kR19 (b_s hk20)
          have kC20 : RSx T N Mx20 (txnx T N q2) := (RS_st kC19 hk20 b17 e20)
          have kE20 : EN (Int32.toNatClampNeg a) M Mx20 := (EN_b kE19 hk20)
          have k25_20 : Mx20 25 (Int32.toNatClampNeg a) = 1 := (congrFun (hk20.2.2 25 (by unfold bP; decide)) _).trans k25_19
          show V K ad 0 0 ZM Mx20 84 [(0, .ref (ad 0)), (1, .int a)] [.int 0, .int a, .ref (ad 20)]
          refine V_if_eq (tgt := 91) f dX9_acting_84 (by decide) (fun _ => ?_) (fun h => absurd (by decide) h)
          refine V_aload_n f dX9_acting_91 0 rfl ?_
          refine V_ldc2 (v := 1936027236) f dX9_acting_92 lc_X9_170 ?_
          refine V_cVp (As := [.long 1936027236]) (rest := [.int a, .ref (ad 20)]) f dX9_acting_95 lk_X9_154 ml_X9_154 ins_X9_takes sel_X9_takes zm_0 (by decide) rfl (c4_X9_takes _ _ _ _ ad Mx20 1936027236 T N (txnx T N q2) kC20 9 10 (by decide) (by decide) (by decide)) rfl (Nat.le_of_ble_eq_true rfl) rfl ⟨by decide, by decide⟩ ⟨Nat.zero_le _, Nat.zero_le _⟩ rfl rfl (fun v21 Mx21 hp21 => ?_)
          rcases hp21 with ⟨h21, rfl, hk21, e21⟩ | ⟨h21, rfl, hk21, e21⟩
          · have kR21 : Kt sP M Mx21 := Kt_trans kR20 (b_s hk21)
            have kC21 : RSx T N Mx21 (txnx T N (txnx T N q2)) := (RS_nx kC20 hk21 b17 e21)
            have kE21 : EN (Int32.toNatClampNeg a) M Mx21 := (EN_b kE20 hk21)
            have k25_21 : Mx21 25 (Int32.toNatClampNeg a) = 1 := (congrFun (hk21.2.2 25 (by unfold bP; decide)) _).trans k25_20
            show V K ad 0 0 ZM Mx21 98 [(0, .ref (ad 0)), (1, .int a)] [.int 1, .int a, .ref (ad 20)]
            refine V_if_eq (tgt := 105) f dX9_acting_98 (by decide) (fun h => absurd h (by decide)) (fun _ => ?_)
            refine V_iconst (v := 4) f dX9_acting_101 (by decide) ?_
            refine V_goto (tgt := 120) f dX9_acting_102 (by decide) ?_
            refine V_iast f dX9_acting_120 zm_20 ha ?_
            refine V_aload_n f dX9_acting_121 0 rfl ?_
            refine V_getR f dX9_acting_122 lf_9_73 rfl zm_0 rfl ?_
            refine V_iload_n f dX9_acting_125 1 rfl ?_
            refine V_ialdE (x := 4) f dX9_acting_126 zm_20 ha up_s ?_
            refine V_iconst (v := (-1)) f dX9_acting_127 (by decide) ?_
            refine V_icmp_eq (tgt := 135) f dX9_acting_128 (by decide) (fun h => absurd h (by decide)) (fun _ => ?_)
            refine V_iconst (v := 1) f dX9_acting_131 (by decide) ?_
            refine V_goto (tgt := 136) f dX9_acting_132 (by decide) ?_
            exact V_iret f q dX9_acting_136 rfl (Nat.zero_le _) (Nat.zero_le _) ⟨rfl, rfl, Or.inl ⟨(txnx T N (txnx T N q2)), (txrl_e hq2 h3).trans ((txsq_y h19).trans ((txsq_y (m10 h21)).trans (rfl))), rfl, (RS_w kC21 (Kt_cs kR21 (by decide) _ _).1 (upo (by decide)) (upo (by decide))), (Kt_cs kR21 (by decide) _ _), (EN_u kE21 _ _), n012 up_s (by decide)⟩⟩
          · have kR21 : Kt sP M Mx21 := Kt_trans kR20 (b_s hk21)
            have kC21 : RSx T N Mx21 (txnx T N q2) := (RS_st kC20 hk21 b17 e21)
            have kE21 : EN (Int32.toNatClampNeg a) M Mx21 := (EN_b kE20 hk21)
            have k25_21 : Mx21 25 (Int32.toNatClampNeg a) = 1 := (congrFun (hk21.2.2 25 (by unfold bP; decide)) _).trans k25_20
            show V K ad 0 0 ZM Mx21 98 [(0, .ref (ad 0)), (1, .int a)] [.int 0, .int a, .ref (ad 20)]
            refine V_if_eq (tgt := 105) f dX9_acting_98 (by decide) (fun _ => ?_) (fun h => absurd (by decide) h)
            refine V_aload_n f dX9_acting_105 0 rfl ?_
            refine V_ldc2 (v := 1801807216) f dX9_acting_106 lc_X9_172 ?_
            refine V_cVp (As := [.long 1801807216]) (rest := [.int a, .ref (ad 20)]) f dX9_acting_109 lk_X9_154 ml_X9_154 ins_X9_takes sel_X9_takes zm_0 (by decide) rfl (c4_X9_takes _ _ _ _ ad Mx21 1801807216 T N (txnx T N q2) kC21 10 11 (by decide) (by decide) (by decide)) rfl (Nat.le_of_ble_eq_true rfl) rfl ⟨by decide, by decide⟩ ⟨Nat.zero_le _, Nat.zero_le _⟩ rfl rfl (fun v22 Mx22 hp22 => ?_)
            rcases hp22 with ⟨h22, rfl, hk22, e22⟩ | ⟨h22, rfl, hk22, e22⟩
            · have kR22 : Kt sP M Mx22 := Kt_trans kR21 (b_s hk22)
              have kC22 : RSx T N Mx22 (txnx T N (txnx T N q2)) := (RS_nx kC21 hk22 b17 e22)
              have kE22 : EN (Int32.toNatClampNeg a) M Mx22 := (EN_b kE21 hk22)
              have k25_22 : Mx22 25 (Int32.toNatClampNeg a) = 1 := (congrFun (hk22.2.2 25 (by unfold bP; decide)) _).trans k25_21
              show V K ad 0 0 ZM Mx22 112 [(0, .ref (ad 0)), (1, .int a)] [.int 1, .int a, .ref (ad 20)]
              refine V_if_eq (tgt := 119) f dX9_acting_112 (by decide) (fun h => absurd h (by decide)) (fun _ => ?_)
              refine V_iconst (v := 5) f dX9_acting_115 (by decide) ?_
              refine V_goto (tgt := 120) f dX9_acting_116 (by decide) ?_
              refine V_iast f dX9_acting_120 zm_20 ha ?_
              refine V_aload_n f dX9_acting_121 0 rfl ?_
              refine V_getR f dX9_acting_122 lf_9_73 rfl zm_0 rfl ?_
              refine V_iload_n f dX9_acting_125 1 rfl ?_
              refine V_ialdE (x := 5) f dX9_acting_126 zm_20 ha up_s ?_
              refine V_iconst (v := (-1)) f dX9_acting_127 (by decide) ?_
              refine V_icmp_eq (tgt := 135) f dX9_acting_128 (by decide) (fun h => absurd h (by decide)) (fun _ => ?_)
              refine V_iconst (v := 1) f dX9_acting_131 (by decide) ?_
              refine V_goto (tgt := 136) f dX9_acting_132 (by decide) ?_
              exact V_iret f q dX9_acting_136 rfl (Nat.zero_le _) (Nat.zero_le _) ⟨rfl, rfl, Or.inl ⟨(txnx T N (txnx T N q2)), (txrl_e hq2 h3).trans ((txsq_y h19).trans ((txsq_y (m11 h22)).trans (rfl))), rfl, (RS_w kC22 (Kt_cs kR22 (by decide) _ _).1 (upo (by decide)) (upo (by decide))), (Kt_cs kR22 (by decide) _ _), (EN_u kE22 _ _), n012 up_s (by decide)⟩⟩
            · have kR22 : Kt sP M Mx22 := Kt_trans kR21 (b_s hk22)
              have kC22 : RSx T N Mx22 (txnx T N q2) := (RS_st kC21 hk22 b17 e22)
              have kE22 : EN (Int32.toNatClampNeg a) M Mx22 := (EN_b kE21 hk22)
              have k25_22 : Mx22 25 (Int32.toNatClampNeg a) = 1 := (congrFun (hk22.2.2 25 (by unfold bP; decide)) _).trans k25_21
              show V K ad 0 0 ZM Mx22 112 [(0, .ref (ad 0)), (1, .int a)] [.int 0, .int a, .ref (ad 20)]
              refine V_if_eq (tgt := 119) f dX9_acting_112 (by decide) (fun _ => ?_) (fun h => absurd (by decide) h)
              refine V_iconst (v := (-1)) f dX9_acting_119 (by decide) ?_
              refine V_iast f dX9_acting_120 zm_20 ha ?_
              refine V_aload_n f dX9_acting_121 0 rfl ?_
              refine V_getR f dX9_acting_122 lf_9_73 rfl zm_0 rfl ?_
              refine V_iload_n f dX9_acting_125 1 rfl ?_
              refine V_ialdE (x := (-1)) f dX9_acting_126 zm_20 ha up_s ?_
              refine V_iconst (v := (-1)) f dX9_acting_127 (by decide) ?_
              refine V_icmp_eq (tgt := 135) f dX9_acting_128 (by decide) (fun _ => ?_) (fun h => absurd (by decide) h)
              refine V_iconst (v := 0) f dX9_acting_135 (by decide) ?_
              exact V_iret f q dX9_acting_136 rfl (Nat.zero_le _) (Nat.zero_le _) ⟨rfl, rfl, Or.inr ⟨(txnx T N q2), (txrl_e hq2 h3).trans ((txsq_y h19).trans (txsq_n (nm3 h20 h21 h22))), rfl, (up_c (by decide) e22), (Kt_cs kR22 (by decide) _ _), (EN_u kE22 _ _)⟩⟩
      · have kR19 : Kt sP M Mx19 := Kt_trans kR3 (b_s hk19)
        have kC19 : RSx T N Mx19 q2 := (RS_st kC3 hk19 b17 e19)
        have kE19 : EN (Int32.toNatClampNeg a) M Mx19 := (EN_b kE3 hk19)
        have k25_19 : Mx19 25 (Int32.toNatClampNeg a) = 1 := (congrFun (hk19.2.2 25 (by unfold bP; decide)) _).trans k25_3
        show V K ad 0 0 ZM Mx19 67 [(0, .ref (ad 0)), (1, .int a)] [.int 0]
        refine V_if_ne (tgt := 72) f dX9_acting_67 (by decide) (fun h => absurd (by decide) h) (fun _ => ?_)
        refine V_iconst (v := 0) f dX9_acting_70 (by decide) ?_
        exact V_iret f q dX9_acting_71 rfl (Nat.zero_le _) (Nat.zero_le _) ⟨rfl, rfl, Or.inr ⟨q2, (txrl_e hq2 h3).trans (txsq_n h19), rfl, e19, kR19, kE19⟩⟩
  · have kR2 : Kt sP M Mx2 := Kt_trans kR1 (t_s hk2)
    have kE2 : EN (Int32.toNatClampNeg a) M Mx2 := (EN_t kE1 hk2)
    have k25_2 : Mx2 25 (Int32.toNatClampNeg a) = 0 := (congrFun (hk2.2.2 25 (by unfold tP; decide)) _).trans k25_1
    show V K ad 0 0 ZM Mx2 35 [(0, .ref (ad 0)), (1, .int a)] [.int 0]
    refine V_if_ne (tgt := 40) f dX9_acting_35 (by decide) (fun h => absurd (by decide) h) (fun _ => ?_)
    refine V_iconst (v := 0) f dX9_acting_38 (by decide) ?_
    exact V_iret f q dX9_acting_39 rfl (Nat.zero_le _) (Nat.zero_le _) ⟨rfl, rfl, Or.inr ⟨q2, txrl_n hq2, rfl, e2, kR2, kE2⟩⟩
set_option maxHeartbeats 4000000 in
set_option maxRecDepth 100000 in
theorem c4_X9_statement (l : Launch) (D : va_G) (cy : Nat → ClassId) (X : va_W) (ad : Nat → Nat) (M : MT) (a : Int32) (T : Nat → Int32) (N p : Nat) (hS : RSx T N M p) (ha : vp_in a 144) : CtP l yX9_statement cX9_statement 2 (some .boolean) (rK 4) D cy X ad ZM M [.ref (ad 0), .int a] (fun v M1 => (∃ q, txst T N p = (true, q) ∧ v = some (.int 1) ∧ RSx T N M1 q ∧ Kt sP M M1 ∧ EN (Int32.toNatClampNeg a) M M1 ∧ ∀ c, effM M1 (Int32.toNatClampNeg a) c = txef T N p c) ∨ (∃ q, txst T N p = (false, q) ∧ v = some (.int 0) ∧ M1 0 29 = Int32.ofNat q ∧ Kt sP M M1 ∧ EN (Int32.toNatClampNeg a) M M1)) := by
  refine Ctr.of (by decide +kernel) (Nat.le_of_ble_eq_true rfl) ?_
  intro K f q hnm hl0 hD0 hy0 hX0
  show V K ad 0 0 ZM M 0 [(0, .ref (ad 0)), (1, .int a)] []
  refine V_aload_n f dX9_statement_0 0 rfl ?_
  refine V_ldc2 (v := 427021005669) f dX9_statement_1 lc_X9_174 ?_
  refine V_cVp (As := [.long 427021005669]) (rest := []) f dX9_statement_4 lk_X9_154 ml_X9_154 ins_X9_takes sel_X9_takes zm_0 (by decide) rfl (c4_X9_takes _ _ _ _ ad M 427021005669 T N p hS 2 3 (by decide) (by decide) (by decide)) rfl (Nat.le_of_ble_eq_true rfl) rfl ⟨by decide, by decide⟩ ⟨Nat.zero_le _, Nat.zero_le _⟩ rfl rfl (fun v1 Mx1 hp1 => ?_)
  rcases hp1 with ⟨h1, rfl, hk1, e1⟩ | ⟨h1, rfl, hk1, e1⟩
  · have kR1 : Kt sP M Mx1 := Kt_trans (Kt_refl (P := sP) hS.1) (b_s hk1)
    have kC1 : RSx T N Mx1 (txnx T N p) := (RS_nx hS hk1 b17 e1)
    have kE1 : EN (Int32.toNatClampNeg a) M Mx1 := (EN_b (EN_refl _ M) hk1)
    show V K ad 0 0 ZM Mx1 7 [(0, .ref (ad 0)), (1, .int a)] [.int 1]
    refine V_if_eq (tgt := 20) f dX9_statement_7 (by decide) (fun h => absurd h (by decide)) (fun _ => ?_)
    refine V_aload_n f dX9_statement_10 0 rfl ?_
    refine V_iload_n f dX9_statement_11 1 rfl ?_
    refine V_cVp (As := [.int a]) (rest := []) f dX9_statement_12 lk_X9_176 ml_X9_176 ins_X9_closing sel_X9_closing zm_0 (by decide) rfl (c4_X9_closing _ _ _ _ ad Mx1 a T N (txnx T N p) kC1 ha) rfl (Nat.le_of_ble_eq_true rfl) rfl ⟨by decide, by decide⟩ ⟨Nat.zero_le _, Nat.zero_le _⟩ rfl rfl (fun v2 Mx2 hp2 => ?_)
    rcases hp2 with ⟨q2, hq2, rfl, hC2, hk2, hE2, h20_2, h21_2, h22_2, h23_2, h24_2⟩ | ⟨q2, hq2, rfl, e2, hk2, hE2⟩
    · have kR2 : Kt sP M Mx2 := Kt_trans kR1 (s_s hk2)
      have kC2 : RSx T N Mx2 q2 := hC2
      have kE2 : EN (Int32.toNatClampNeg a) M Mx2 := (EN_trans kE1 hE2)
      show V K ad 0 0 ZM Mx2 15 [(0, .ref (ad 0)), (1, .int a)] [.int 1]
      refine V_if_ne (tgt := 104) f dX9_statement_15 (by decide) (fun _ => ?_) (fun h => absurd h (by decide))
      refine V_aload_n f dX9_statement_104 0 rfl ?_
      refine V_cVp (As := []) (rest := []) f dX9_statement_105 lk_X9_129 ml_X9_129 ins_X9_blanks sel_X9_blanks zm_0 (by decide) rfl (c4_X9_blanks _ _ _ _ ad Mx2 T N q2 kC2) rfl (Nat.le_of_ble_eq_true rfl) rfl ⟨by decide, by decide⟩ ⟨Nat.zero_le _, Nat.zero_le _⟩ rfl rfl (fun v3 Mx3 hp3 => ?_)
      obtain ⟨rfl, hk3, e3⟩ := hp3
      have kR3 : Kt sP M Mx3 := Kt_trans kR2 (b_s hk3)
      have kC3 : RSx T N Mx3 q2 := (RS_st kC2 hk3 b17 e3)
      have kE3 : EN (Int32.toNatClampNeg a) M Mx3 := (EN_b kE2 hk3)
      have k20_3 : Mx3 20 (Int32.toNatClampNeg a) = 2 := (congrFun (hk3.2.2 20 (by unfold bP; decide)) _).trans h20_2
      have k21_3 : Mx3 21 (Int32.toNatClampNeg a) = (txtv T N (txnx T N p)) := (congrFun (hk3.2.2 21 (by unfold bP; decide)) _).trans h21_2
      have k22_3 : Mx3 22 (Int32.toNatClampNeg a) = (txtv T N (txnx T N (txnx T N (txnx T N p)))) := (congrFun (hk3.2.2 22 (by unfold bP; decide)) _).trans h22_2
      have k23_3 : Mx3 23 (Int32.toNatClampNeg a) = (txtv T N (txnx T N (txnx T N (txnx T N (txnx T N (txnx T N p)))))) := (congrFun (hk3.2.2 23 (by unfold bP; decide)) _).trans h23_2
      have k24_3 : Mx3 24 (Int32.toNatClampNeg a) = (txtv T N (txnx T N (txnx T N (txnx T N (txnx T N (txnx T N (txnx T N (txnx T N p)))))))) := (congrFun (hk3.2.2 24 (by unfold bP; decide)) _).trans h24_2
      show V K ad 0 0 ZM Mx3 108 [(0, .ref (ad 0)), (1, .int a)] []
      refine V_aload_n f dX9_statement_108 0 rfl ?_
      refine V_getE (x := Mx3 0 29) f dX9_statement_109 lf_9_123 rfl zm_0 rfl ?_
      refine V_aload_n f dX9_statement_112 0 rfl ?_
      refine V_getE (x := Mx3 0 28) f dX9_statement_113 lf_9_126 rfl zm_0 rfl ?_
      refine V_icmp_eq (tgt := 133) f dX9_statement_116 (by decide) (fun c4 => ?_) (fun c4 => ?_)
      · refine V_iconst (v := 0) f dX9_statement_133 (by decide) ?_
        exact V_iret f q dX9_statement_134 rfl (Nat.zero_le _) (Nat.zero_le _) ⟨rfl, rfl, Or.inr ⟨q2, (txst_3 h1).trans ((txsq_a txCL _ hq2).trans (txsq_n (at_0 kC3 e3 c4 (by decide)))), rfl, e3, kR3, kE3⟩⟩
      · refine V_aload_n f dX9_statement_119 0 rfl ?_
        refine V_getR f dX9_statement_120 lf_9_60 rfl zm_0 rfl ?_
        refine V_aload_n f dX9_statement_123 0 rfl ?_
        refine V_getE (x := Mx3 0 29) f dX9_statement_124 lf_9_123 rfl zm_0 rfl ?_
        refine V_bald f dX9_statement_127 zm_17 (tin kR3.1 kR3.1.2.2.1 (tne kR3.1 c4)) ?_
        refine V_bipush (v := 59) f dX9_statement_128 (by decide) ?_
        refine V_icmp_eq (tgt := 135) f dX9_statement_130 (by decide) (fun c5 => ?_) (fun c5 => ?_)
        · refine V_aload_n f dX9_statement_135 0 rfl ?_
          refine V_dup f dX9_statement_136 rfl ?_
          refine V_getE (x := Mx3 0 29) f dX9_statement_137 lf_9_123 rfl zm_0 rfl ?_
          refine V_iconst (v := 1) f dX9_statement_140 (by decide) ?_
          refine V_iadd f dX9_statement_141 ?_
          refine V_putI f dX9_statement_142 lf_9_123 lp_9_29 rfl rfl rfl rfl zm_0 ?_
          refine V_iconst (v := 1) f dX9_statement_145 (by decide) ?_
          exact V_iret f q dX9_statement_146 rfl (Nat.zero_le _) (Nat.zero_le _) ⟨rfl, rfl, Or.inl ⟨(txnx T N q2), (txst_3 h1).trans ((txsq_a txCL _ hq2).trans ((txsq_y (List.mem_singleton.mpr ((at_s kC3 e3 c4 (by decide)).mp c5))).trans (rfl))), rfl, (RS_mv kC3 (at_1 e3 (te_s (by decide) ((at_s kC3 e3 c4 (by decide)).mp c5)).1) (txte_b (RS_le kC3).1).2.1), (Kt_at kR3 s1 (kt_b hS (at_1 e3 (te_s (by decide) ((at_s kC3 e3 c4 (by decide)).mp c5)).1) (txte_b (RS_le kC3).1).2.1)), (EN_0 kE3 _ _), fun c => (eff_2 (up_c (by decide) k20_3) (up_c (by decide) k21_3) (up_c (by decide) k22_3) (up_c (by decide) k23_3) (up_c (by decide) k24_3) c).trans (txef_3 h1 c).symm⟩⟩
        · refine V_iconst (v := 0) f dX9_statement_133 (by decide) ?_
          exact V_iret f q dX9_statement_134 rfl (Nat.zero_le _) (Nat.zero_le _) ⟨rfl, rfl, Or.inr ⟨q2, (txst_3 h1).trans ((txsq_a txCL _ hq2).trans (txsq_n (fun g => c5 ((at_s kC3 e3 c4 (by decide)).mpr (List.mem_singleton.mp g))))), rfl, e3, kR3, kE3⟩⟩
    · have kR2 : Kt sP M Mx2 := Kt_trans kR1 (s_s hk2)
      have kE2 : EN (Int32.toNatClampNeg a) M Mx2 := (EN_trans kE1 hE2)
      show V K ad 0 0 ZM Mx2 15 [(0, .ref (ad 0)), (1, .int a)] [.int 0]
      refine V_if_ne (tgt := 104) f dX9_statement_15 (by decide) (fun h => absurd (by decide) h) (fun _ => ?_)
      refine V_iconst (v := 0) f dX9_statement_18 (by decide) ?_
      exact V_iret f q dX9_statement_19 rfl (Nat.zero_le _) (Nat.zero_le _) ⟨rfl, rfl, Or.inr ⟨q2, (txst_3 h1).trans (txsq_f txCL _ hq2), rfl, e2, kR2, kE2⟩⟩
  · have kR1 : Kt sP M Mx1 := Kt_trans (Kt_refl (P := sP) hS.1) (b_s hk1)
    have kC1 : RSx T N Mx1 p := (RS_st hS hk1 b17 e1)
    have kE1 : EN (Int32.toNatClampNeg a) M Mx1 := (EN_b (EN_refl _ M) hk1)
    show V K ad 0 0 ZM Mx1 7 [(0, .ref (ad 0)), (1, .int a)] [.int 0]
    refine V_if_eq (tgt := 20) f dX9_statement_7 (by decide) (fun _ => ?_) (fun h => absurd (by decide) h)
    refine V_aload_n f dX9_statement_20 0 rfl ?_
    refine V_ldc2 (v := 26982) f dX9_statement_21 lc_X9_179 ?_
    refine V_cVp (As := [.long 26982]) (rest := []) f dX9_statement_24 lk_X9_154 ml_X9_154 ins_X9_takes sel_X9_takes zm_0 (by decide) rfl (c4_X9_takes _ _ _ _ ad Mx1 26982 T N p kC1 5 6 (by decide) (by decide) (by decide)) rfl (Nat.le_of_ble_eq_true rfl) rfl ⟨by decide, by decide⟩ ⟨Nat.zero_le _, Nat.zero_le _⟩ rfl rfl (fun v6 Mx6 hp6 => ?_)
    rcases hp6 with ⟨h6, rfl, hk6, e6⟩ | ⟨h6, rfl, hk6, e6⟩
    · have kR6 : Kt sP M Mx6 := Kt_trans kR1 (b_s hk6)
      have kC6 : RSx T N Mx6 (txnx T N p) := (RS_nx kC1 hk6 b17 e6)
      have kE6 : EN (Int32.toNatClampNeg a) M Mx6 := (EN_b kE1 hk6)
      show V K ad 0 0 ZM Mx6 27 [(0, .ref (ad 0)), (1, .int a)] [.int 1]
      refine V_if_eq (tgt := 40) f dX9_statement_27 (by decide) (fun h => absurd h (by decide)) (fun _ => ?_)
      refine V_aload_n f dX9_statement_30 0 rfl ?_
      refine V_iload_n f dX9_statement_31 1 rfl ?_
      refine V_cVp (As := [.int a]) (rest := []) f dX9_statement_32 lk_X9_181 ml_X9_181 ins_X9_acting sel_X9_acting zm_0 (by decide) rfl (c4_X9_acting _ _ _ _ ad Mx6 a T N (txnx T N p) kC6 ha) rfl (Nat.le_of_ble_eq_true rfl) rfl ⟨by decide, by decide⟩ ⟨Nat.zero_le _, Nat.zero_le _⟩ rfl rfl (fun v7 Mx7 hp7 => ?_)
      rcases hp7 with ⟨q7, hq7, rfl, hC7, hk7, hE7, hn_7⟩ | ⟨q7, hq7, rfl, e7, hk7, hE7⟩
      · have kR7 : Kt sP M Mx7 := Kt_trans kR6 (s_s hk7)
        have kC7 : RSx T N Mx7 q7 := hC7
        have kE7 : EN (Int32.toNatClampNeg a) M Mx7 := (EN_trans kE6 hE7)
        show V K ad 0 0 ZM Mx7 35 [(0, .ref (ad 0)), (1, .int a)] [.int 1]
        refine V_if_ne (tgt := 104) f dX9_statement_35 (by decide) (fun _ => ?_) (fun h => absurd h (by decide))
        refine V_aload_n f dX9_statement_104 0 rfl ?_
        refine V_cVp (As := []) (rest := []) f dX9_statement_105 lk_X9_129 ml_X9_129 ins_X9_blanks sel_X9_blanks zm_0 (by decide) rfl (c4_X9_blanks _ _ _ _ ad Mx7 T N q7 kC7) rfl (Nat.le_of_ble_eq_true rfl) rfl ⟨by decide, by decide⟩ ⟨Nat.zero_le _, Nat.zero_le _⟩ rfl rfl (fun v8 Mx8 hp8 => ?_)
        obtain ⟨rfl, hk8, e8⟩ := hp8
        have kR8 : Kt sP M Mx8 := Kt_trans kR7 (b_s hk8)
        have kC8 : RSx T N Mx8 q7 := (RS_st kC7 hk8 b17 e8)
        have kE8 : EN (Int32.toNatClampNeg a) M Mx8 := (EN_b kE7 hk8)
        have k20_8 : ¬ Mx8 20 (Int32.toNatClampNeg a) = 0 ∧ ¬ Mx8 20 (Int32.toNatClampNeg a) = 1 ∧ ¬ Mx8 20 (Int32.toNatClampNeg a) = 2 := by rw [hk8.2.2 20 (by unfold bP; decide)]; exact hn_7
        show V K ad 0 0 ZM Mx8 108 [(0, .ref (ad 0)), (1, .int a)] []
        refine V_aload_n f dX9_statement_108 0 rfl ?_
        refine V_getE (x := Mx8 0 29) f dX9_statement_109 lf_9_123 rfl zm_0 rfl ?_
        refine V_aload_n f dX9_statement_112 0 rfl ?_
        refine V_getE (x := Mx8 0 28) f dX9_statement_113 lf_9_126 rfl zm_0 rfl ?_
        refine V_icmp_eq (tgt := 133) f dX9_statement_116 (by decide) (fun c9 => ?_) (fun c9 => ?_)
        · refine V_iconst (v := 0) f dX9_statement_133 (by decide) ?_
          exact V_iret f q dX9_statement_134 rfl (Nat.zero_le _) (Nat.zero_le _) ⟨rfl, rfl, Or.inr ⟨q7, (txst_6 h6).trans (((txrl_x 3 _ [[59]]).1 _ hq7).trans (txsq_n (at_0 kC8 e8 c9 (by decide)))), rfl, e8, kR8, kE8⟩⟩
        · refine V_aload_n f dX9_statement_119 0 rfl ?_
          refine V_getR f dX9_statement_120 lf_9_60 rfl zm_0 rfl ?_
          refine V_aload_n f dX9_statement_123 0 rfl ?_
          refine V_getE (x := Mx8 0 29) f dX9_statement_124 lf_9_123 rfl zm_0 rfl ?_
          refine V_bald f dX9_statement_127 zm_17 (tin kR8.1 kR8.1.2.2.1 (tne kR8.1 c9)) ?_
          refine V_bipush (v := 59) f dX9_statement_128 (by decide) ?_
          refine V_icmp_eq (tgt := 135) f dX9_statement_130 (by decide) (fun c10 => ?_) (fun c10 => ?_)
          · refine V_aload_n f dX9_statement_135 0 rfl ?_
            refine V_dup f dX9_statement_136 rfl ?_
            refine V_getE (x := Mx8 0 29) f dX9_statement_137 lf_9_123 rfl zm_0 rfl ?_
            refine V_iconst (v := 1) f dX9_statement_140 (by decide) ?_
            refine V_iadd f dX9_statement_141 ?_
            refine V_putI f dX9_statement_142 lf_9_123 lp_9_29 rfl rfl rfl rfl zm_0 ?_
            refine V_iconst (v := 1) f dX9_statement_145 (by decide) ?_
            exact V_iret f q dX9_statement_146 rfl (Nat.zero_le _) (Nat.zero_le _) ⟨rfl, rfl, Or.inl ⟨(txnx T N q7), (txst_6 h6).trans (((txrl_x 3 _ [[59]]).1 _ hq7).trans ((txsq_y (List.mem_singleton.mpr ((at_s kC8 e8 c9 (by decide)).mp c10))).trans (rfl))), rfl, (RS_mv kC8 (at_1 e8 (te_s (by decide) ((at_s kC8 e8 c9 (by decide)).mp c10)).1) (txte_b (RS_le kC8).1).2.1), (Kt_at kR8 s1 (kt_b hS (at_1 e8 (te_s (by decide) ((at_s kC8 e8 c9 (by decide)).mp c10)).1) (txte_b (RS_le kC8).1).2.1)), (EN_0 kE8 _ _), fun c => (eff_3 (by rw [upo (by decide)]; exact k20_8) c).trans (txef_6 h6 c).symm⟩⟩
          · refine V_iconst (v := 0) f dX9_statement_133 (by decide) ?_
            exact V_iret f q dX9_statement_134 rfl (Nat.zero_le _) (Nat.zero_le _) ⟨rfl, rfl, Or.inr ⟨q7, (txst_6 h6).trans (((txrl_x 3 _ [[59]]).1 _ hq7).trans (txsq_n (fun g => c10 ((at_s kC8 e8 c9 (by decide)).mpr (List.mem_singleton.mp g))))), rfl, e8, kR8, kE8⟩⟩
      · have kR7 : Kt sP M Mx7 := Kt_trans kR6 (s_s hk7)
        have kE7 : EN (Int32.toNatClampNeg a) M Mx7 := (EN_trans kE6 hE7)
        show V K ad 0 0 ZM Mx7 35 [(0, .ref (ad 0)), (1, .int a)] [.int 0]
        refine V_if_ne (tgt := 104) f dX9_statement_35 (by decide) (fun h => absurd (by decide) h) (fun _ => ?_)
        refine V_iconst (v := 0) f dX9_statement_38 (by decide) ?_
        exact V_iret f q dX9_statement_39 rfl (Nat.zero_le _) (Nat.zero_le _) ⟨rfl, rfl, Or.inr ⟨q7, (txst_6 h6).trans ((txrl_x 3 _ [[59]]).2 _ hq7), rfl, e7, kR7, kE7⟩⟩
    · have kR6 : Kt sP M Mx6 := Kt_trans kR1 (b_s hk6)
      have kC6 : RSx T N Mx6 p := (RS_st kC1 hk6 b17 e6)
      have kE6 : EN (Int32.toNatClampNeg a) M Mx6 := (EN_b kE1 hk6)
      show V K ad 0 0 ZM Mx6 27 [(0, .ref (ad 0)), (1, .int a)] [.int 0]
      refine V_if_eq (tgt := 40) f dX9_statement_27 (by decide) (fun _ => ?_) (fun h => absurd (by decide) h)
      refine V_aload_n f dX9_statement_40 0 rfl ?_
      refine V_getR f dX9_statement_41 lf_9_73 rfl zm_0 rfl ?_
      refine V_iload_n f dX9_statement_44 1 rfl ?_
      refine V_aload_n f dX9_statement_45 0 rfl ?_
      refine V_ldc2 (v := 465625246068) f dX9_statement_46 lc_X9_184 ?_
      refine V_cVp (As := [.long 465625246068]) (rest := [.int a, .ref (ad 20)]) f dX9_statement_49 lk_X9_154 ml_X9_154 ins_X9_takes sel_X9_takes zm_0 (by decide) rfl (c4_X9_takes _ _ _ _ ad Mx6 465625246068 T N p kC6 0 1 (by decide) (by decide) (by decide)) rfl (Nat.le_of_ble_eq_true rfl) rfl ⟨by decide, by decide⟩ ⟨Nat.zero_le _, Nat.zero_le _⟩ rfl rfl (fun v11 Mx11 hp11 => ?_)
      rcases hp11 with ⟨h11, rfl, hk11, e11⟩ | ⟨h11, rfl, hk11, e11⟩
      · have kR11 : Kt sP M Mx11 := Kt_trans kR6 (b_s hk11)
        have kC11 : RSx T N Mx11 (txnx T N p) := (RS_nx kC6 hk11 b17 e11)
        have kE11 : EN (Int32.toNatClampNeg a) M Mx11 := (EN_b kE6 hk11)
        show V K ad 0 0 ZM Mx11 52 [(0, .ref (ad 0)), (1, .int a)] [.int 1, .int a, .ref (ad 20)]
        refine V_if_eq (tgt := 59) f dX9_statement_52 (by decide) (fun h => absurd h (by decide)) (fun _ => ?_)
        refine V_iconst (v := 0) f dX9_statement_55 (by decide) ?_
        refine V_goto (tgt := 74) f dX9_statement_56 (by decide) ?_
        refine V_iast f dX9_statement_74 zm_20 ha ?_
        refine V_aload_n f dX9_statement_75 0 rfl ?_
        refine V_getR f dX9_statement_76 lf_9_73 rfl zm_0 rfl ?_
        refine V_iload_n f dX9_statement_79 1 rfl ?_
        refine V_ialdE (x := 0) f dX9_statement_80 zm_20 ha up_s ?_
        refine V_iconst (v := (-1)) f dX9_statement_81 (by decide) ?_
        refine V_icmp_eq (tgt := 92) f dX9_statement_82 (by decide) (fun h => absurd h (by decide)) (fun _ => ?_)
        refine V_aload_n f dX9_statement_85 0 rfl ?_
        refine V_cVp (As := []) (rest := []) f dX9_statement_86 lk_X9_148 ml_X9_148 ins_X9_takesNumber sel_X9_takesNumber zm_0 (by decide) rfl (c4_X9_takesNumber _ _ _ _ ad (up2 Mx11 20 (Int32.toNatClampNeg a) 0) T N (txnx T N p) (RS_w kC11 (Kt_cs kR11 (by decide) _ _).1 (upo (by decide)) (upo (by decide)))) rfl (Nat.le_of_ble_eq_true rfl) rfl ⟨by decide, by decide⟩ ⟨Nat.zero_le _, Nat.zero_le _⟩ rfl rfl (fun v12 Mx12 hp12 => ?_)
        rcases hp12 with ⟨h12, rfl, hk12, e12, e44_12⟩ | ⟨h12, rfl, hk12, e12⟩
        · have kR12 : Kt sP M Mx12 := Kt_trans (Kt_cs kR11 (by decide) _ _) (b_s hk12)
          have kC12 : RSx T N Mx12 (txnx T N (txnx T N p)) := (RS_nx (RS_w kC11 (Kt_cs kR11 (by decide) _ _).1 (upo (by decide)) (upo (by decide))) hk12 b17 e12)
          have kE12 : EN (Int32.toNatClampNeg a) M Mx12 := (EN_b (EN_u kE11 _ _) hk12)
          have k20_12 : Mx12 20 (Int32.toNatClampNeg a) = 0 := (congrFun (hk12.2.2 20 (by unfold bP; decide)) _).trans up_s
          show V K ad 0 0 ZM Mx12 89 [(0, .ref (ad 0)), (1, .int a)] [.int 1]
          refine V_if_ne (tgt := 94) f dX9_statement_89 (by decide) (fun _ => ?_) (fun h => absurd h (by decide))
          refine V_aload_n f dX9_statement_94 0 rfl ?_
          refine V_getR f dX9_statement_95 lf_9_76 rfl zm_0 rfl ?_
          refine V_iload_n f dX9_statement_98 1 rfl ?_
          refine V_aload_n f dX9_statement_99 0 rfl ?_
          refine V_getE (x := txtv T N (txnx T N p)) f dX9_statement_100 lf_9_139 rfl zm_0 e44_12 ?_
          refine V_iast f dX9_statement_103 zm_21 ha ?_
          refine V_aload_n f dX9_statement_104 0 rfl ?_
          refine V_cVp (As := []) (rest := []) f dX9_statement_105 lk_X9_129 ml_X9_129 ins_X9_blanks sel_X9_blanks zm_0 (by decide) rfl (c4_X9_blanks _ _ _ _ ad (up2 Mx12 21 (Int32.toNatClampNeg a) (txtv T N (txnx T N p))) T N (txnx T N (txnx T N p)) (RS_w kC12 (Kt_cs kR12 (by decide) _ _).1 (upo (by decide)) (upo (by decide)))) rfl (Nat.le_of_ble_eq_true rfl) rfl ⟨by decide, by decide⟩ ⟨Nat.zero_le _, Nat.zero_le _⟩ rfl rfl (fun v13 Mx13 hp13 => ?_)
          obtain ⟨rfl, hk13, e13⟩ := hp13
          have kR13 : Kt sP M Mx13 := Kt_trans (Kt_cs kR12 (by decide) _ _) (b_s hk13)
          have kC13 : RSx T N Mx13 (txnx T N (txnx T N p)) := (RS_st (RS_w kC12 (Kt_cs kR12 (by decide) _ _).1 (upo (by decide)) (upo (by decide))) hk13 b17 e13)
          have kE13 : EN (Int32.toNatClampNeg a) M Mx13 := (EN_b (EN_u kE12 _ _) hk13)
          have k20_13 : Mx13 20 (Int32.toNatClampNeg a) = 0 := (congrFun (hk13.2.2 20 (by unfold bP; decide)) _).trans (up_c (by decide) k20_12)
          have k21_13 : Mx13 21 (Int32.toNatClampNeg a) = (txtv T N (txnx T N p)) := (congrFun (hk13.2.2 21 (by unfold bP; decide)) _).trans up_s
          show V K ad 0 0 ZM Mx13 108 [(0, .ref (ad 0)), (1, .int a)] []
          refine V_aload_n f dX9_statement_108 0 rfl ?_
          refine V_getE (x := Mx13 0 29) f dX9_statement_109 lf_9_123 rfl zm_0 rfl ?_
          refine V_aload_n f dX9_statement_112 0 rfl ?_
          refine V_getE (x := Mx13 0 28) f dX9_statement_113 lf_9_126 rfl zm_0 rfl ?_
          refine V_icmp_eq (tgt := 133) f dX9_statement_116 (by decide) (fun c14 => ?_) (fun c14 => ?_)
          · refine V_iconst (v := 0) f dX9_statement_133 (by decide) ?_
            exact V_iret f q dX9_statement_134 rfl (Nat.zero_le _) (Nat.zero_le _) ⟨rfl, rfl, Or.inr ⟨(txnx T N (txnx T N p)), (txst_1 h11).trans ((txsq_y h12).trans (txsq_n (at_0 kC13 e13 c14 (by decide)))), rfl, e13, kR13, kE13⟩⟩
          · refine V_aload_n f dX9_statement_119 0 rfl ?_
            refine V_getR f dX9_statement_120 lf_9_60 rfl zm_0 rfl ?_
            refine V_aload_n f dX9_statement_123 0 rfl ?_
            refine V_getE (x := Mx13 0 29) f dX9_statement_124 lf_9_123 rfl zm_0 rfl ?_
            refine V_bald f dX9_statement_127 zm_17 (tin kR13.1 kR13.1.2.2.1 (tne kR13.1 c14)) ?_
            refine V_bipush (v := 59) f dX9_statement_128 (by decide) ?_
            refine V_icmp_eq (tgt := 135) f dX9_statement_130 (by decide) (fun c15 => ?_) (fun c15 => ?_)
            · refine V_aload_n f dX9_statement_135 0 rfl ?_
              refine V_dup f dX9_statement_136 rfl ?_
              refine V_getE (x := Mx13 0 29) f dX9_statement_137 lf_9_123 rfl zm_0 rfl ?_
              refine V_iconst (v := 1) f dX9_statement_140 (by decide) ?_
              refine V_iadd f dX9_statement_141 ?_
              refine V_putI f dX9_statement_142 lf_9_123 lp_9_29 rfl rfl rfl rfl zm_0 ?_
              refine V_iconst (v := 1) f dX9_statement_145 (by decide) ?_
              exact V_iret f q dX9_statement_146 rfl (Nat.zero_le _) (Nat.zero_le _) ⟨rfl, rfl, Or.inl ⟨(txnx T N (txnx T N (txnx T N p))), (txst_1 h11).trans ((txsq_y h12).trans ((txsq_y (List.mem_singleton.mpr ((at_s kC13 e13 c14 (by decide)).mp c15))).trans (rfl))), rfl, (RS_mv kC13 (at_1 e13 (te_s (by decide) ((at_s kC13 e13 c14 (by decide)).mp c15)).1) (txte_b (RS_le kC13).1).2.1), (Kt_at kR13 s1 (kt_b hS (at_1 e13 (te_s (by decide) ((at_s kC13 e13 c14 (by decide)).mp c15)).1) (txte_b (RS_le kC13).1).2.1)), (EN_0 kE13 _ _), fun c => (eff_0 (up_c (by decide) k20_13) (up_c (by decide) k21_13) c).trans (txef_1 h11 c).symm⟩⟩
            · refine V_iconst (v := 0) f dX9_statement_133 (by decide) ?_
              exact V_iret f q dX9_statement_134 rfl (Nat.zero_le _) (Nat.zero_le _) ⟨rfl, rfl, Or.inr ⟨(txnx T N (txnx T N p)), (txst_1 h11).trans ((txsq_y h12).trans (txsq_n (fun g => c15 ((at_s kC13 e13 c14 (by decide)).mpr (List.mem_singleton.mp g))))), rfl, e13, kR13, kE13⟩⟩
        · have kR12 : Kt sP M Mx12 := Kt_trans (Kt_cs kR11 (by decide) _ _) (b_s hk12)
          have kC12 : RSx T N Mx12 (txnx T N p) := (RS_st (RS_w kC11 (Kt_cs kR11 (by decide) _ _).1 (upo (by decide)) (upo (by decide))) hk12 b17 e12)
          have kE12 : EN (Int32.toNatClampNeg a) M Mx12 := (EN_b (EN_u kE11 _ _) hk12)
          have k20_12 : Mx12 20 (Int32.toNatClampNeg a) = 0 := (congrFun (hk12.2.2 20 (by unfold bP; decide)) _).trans up_s
          show V K ad 0 0 ZM Mx12 89 [(0, .ref (ad 0)), (1, .int a)] [.int 0]
          refine V_if_ne (tgt := 94) f dX9_statement_89 (by decide) (fun h => absurd (by decide) h) (fun _ => ?_)
          refine V_iconst (v := 0) f dX9_statement_92 (by decide) ?_
          exact V_iret f q dX9_statement_93 rfl (Nat.zero_le _) (Nat.zero_le _) ⟨rfl, rfl, Or.inr ⟨(txnx T N p), (txst_1 h11).trans (txsq_n h12), rfl, e12, kR12, kE12⟩⟩
      · have kR11 : Kt sP M Mx11 := Kt_trans kR6 (b_s hk11)
        have kC11 : RSx T N Mx11 p := (RS_st kC6 hk11 b17 e11)
        have kE11 : EN (Int32.toNatClampNeg a) M Mx11 := (EN_b kE6 hk11)
        show V K ad 0 0 ZM Mx11 52 [(0, .ref (ad 0)), (1, .int a)] [.int 0, .int a, .ref (ad 20)]
        refine V_if_eq (tgt := 59) f dX9_statement_52 (by decide) (fun _ => ?_) (fun h => absurd (by decide) h)
        refine V_aload_n f dX9_statement_59 0 rfl ?_
        refine V_ldc2 (v := 431198598248) f dX9_statement_60 lc_X9_186 ?_
        refine V_cVp (As := [.long 431198598248]) (rest := [.int a, .ref (ad 20)]) f dX9_statement_63 lk_X9_154 ml_X9_154 ins_X9_takes sel_X9_takes zm_0 (by decide) rfl (c4_X9_takes _ _ _ _ ad Mx11 431198598248 T N p kC11 1 2 (by decide) (by decide) (by decide)) rfl (Nat.le_of_ble_eq_true rfl) rfl ⟨by decide, by decide⟩ ⟨Nat.zero_le _, Nat.zero_le _⟩ rfl rfl (fun v16 Mx16 hp16 => ?_)
        rcases hp16 with ⟨h16, rfl, hk16, e16⟩ | ⟨h16, rfl, hk16, e16⟩
        · have kR16 : Kt sP M Mx16 := Kt_trans kR11 (b_s hk16)
          have kC16 : RSx T N Mx16 (txnx T N p) := (RS_nx kC11 hk16 b17 e16)
          have kE16 : EN (Int32.toNatClampNeg a) M Mx16 := (EN_b kE11 hk16)
          show V K ad 0 0 ZM Mx16 66 [(0, .ref (ad 0)), (1, .int a)] [.int 1, .int a, .ref (ad 20)]
          refine V_if_eq (tgt := 73) f dX9_statement_66 (by decide) (fun h => absurd h (by decide)) (fun _ => ?_)
          refine V_iconst (v := 1) f dX9_statement_69 (by decide) ?_
          refine V_goto (tgt := 74) f dX9_statement_70 (by decide) ?_
          refine V_iast f dX9_statement_74 zm_20 ha ?_
          refine V_aload_n f dX9_statement_75 0 rfl ?_
          refine V_getR f dX9_statement_76 lf_9_73 rfl zm_0 rfl ?_
          refine V_iload_n f dX9_statement_79 1 rfl ?_
          refine V_ialdE (x := 1) f dX9_statement_80 zm_20 ha up_s ?_
          refine V_iconst (v := (-1)) f dX9_statement_81 (by decide) ?_
          refine V_icmp_eq (tgt := 92) f dX9_statement_82 (by decide) (fun h => absurd h (by decide)) (fun _ => ?_)
          refine V_aload_n f dX9_statement_85 0 rfl ?_
          refine V_cVp (As := []) (rest := []) f dX9_statement_86 lk_X9_148 ml_X9_148 ins_X9_takesNumber sel_X9_takesNumber zm_0 (by decide) rfl (c4_X9_takesNumber _ _ _ _ ad (up2 Mx16 20 (Int32.toNatClampNeg a) 1) T N (txnx T N p) (RS_w kC16 (Kt_cs kR16 (by decide) _ _).1 (upo (by decide)) (upo (by decide)))) rfl (Nat.le_of_ble_eq_true rfl) rfl ⟨by decide, by decide⟩ ⟨Nat.zero_le _, Nat.zero_le _⟩ rfl rfl (fun v17 Mx17 hp17 => ?_)
          rcases hp17 with ⟨h17, rfl, hk17, e17, e44_17⟩ | ⟨h17, rfl, hk17, e17⟩
          · have kR17 : Kt sP M Mx17 := Kt_trans (Kt_cs kR16 (by decide) _ _) (b_s hk17)
            have kC17 : RSx T N Mx17 (txnx T N (txnx T N p)) := (RS_nx (RS_w kC16 (Kt_cs kR16 (by decide) _ _).1 (upo (by decide)) (upo (by decide))) hk17 b17 e17)
            have kE17 : EN (Int32.toNatClampNeg a) M Mx17 := (EN_b (EN_u kE16 _ _) hk17)
            have k20_17 : Mx17 20 (Int32.toNatClampNeg a) = 1 := (congrFun (hk17.2.2 20 (by unfold bP; decide)) _).trans up_s
            show V K ad 0 0 ZM Mx17 89 [(0, .ref (ad 0)), (1, .int a)] [.int 1]
            refine V_if_ne (tgt := 94) f dX9_statement_89 (by decide) (fun _ => ?_) (fun h => absurd h (by decide))
            refine V_aload_n f dX9_statement_94 0 rfl ?_
            refine V_getR f dX9_statement_95 lf_9_76 rfl zm_0 rfl ?_
            refine V_iload_n f dX9_statement_98 1 rfl ?_
            refine V_aload_n f dX9_statement_99 0 rfl ?_
            refine V_getE (x := txtv T N (txnx T N p)) f dX9_statement_100 lf_9_139 rfl zm_0 e44_17 ?_
            refine V_iast f dX9_statement_103 zm_21 ha ?_
            refine V_aload_n f dX9_statement_104 0 rfl ?_
            refine V_cVp (As := []) (rest := []) f dX9_statement_105 lk_X9_129 ml_X9_129 ins_X9_blanks sel_X9_blanks zm_0 (by decide) rfl (c4_X9_blanks _ _ _ _ ad (up2 Mx17 21 (Int32.toNatClampNeg a) (txtv T N (txnx T N p))) T N (txnx T N (txnx T N p)) (RS_w kC17 (Kt_cs kR17 (by decide) _ _).1 (upo (by decide)) (upo (by decide)))) rfl (Nat.le_of_ble_eq_true rfl) rfl ⟨by decide, by decide⟩ ⟨Nat.zero_le _, Nat.zero_le _⟩ rfl rfl (fun v18 Mx18 hp18 => ?_)
            obtain ⟨rfl, hk18, e18⟩ := hp18
            have kR18 : Kt sP M Mx18 := Kt_trans (Kt_cs kR17 (by decide) _ _) (b_s hk18)
            have kC18 : RSx T N Mx18 (txnx T N (txnx T N p)) := (RS_st (RS_w kC17 (Kt_cs kR17 (by decide) _ _).1 (upo (by decide)) (upo (by decide))) hk18 b17 e18)
            have kE18 : EN (Int32.toNatClampNeg a) M Mx18 := (EN_b (EN_u kE17 _ _) hk18)
            have k20_18 : Mx18 20 (Int32.toNatClampNeg a) = 1 := (congrFun (hk18.2.2 20 (by unfold bP; decide)) _).trans (up_c (by decide) k20_17)
            have k21_18 : Mx18 21 (Int32.toNatClampNeg a) = (txtv T N (txnx T N p)) := (congrFun (hk18.2.2 21 (by unfold bP; decide)) _).trans up_s
            show V K ad 0 0 ZM Mx18 108 [(0, .ref (ad 0)), (1, .int a)] []
            refine V_aload_n f dX9_statement_108 0 rfl ?_
            refine V_getE (x := Mx18 0 29) f dX9_statement_109 lf_9_123 rfl zm_0 rfl ?_
            refine V_aload_n f dX9_statement_112 0 rfl ?_
            refine V_getE (x := Mx18 0 28) f dX9_statement_113 lf_9_126 rfl zm_0 rfl ?_
            refine V_icmp_eq (tgt := 133) f dX9_statement_116 (by decide) (fun c19 => ?_) (fun c19 => ?_)
            · refine V_iconst (v := 0) f dX9_statement_133 (by decide) ?_
              exact V_iret f q dX9_statement_134 rfl (Nat.zero_le _) (Nat.zero_le _) ⟨rfl, rfl, Or.inr ⟨(txnx T N (txnx T N p)), (txst_2 h16).trans ((txsq_y h17).trans (txsq_n (at_0 kC18 e18 c19 (by decide)))), rfl, e18, kR18, kE18⟩⟩
            · refine V_aload_n f dX9_statement_119 0 rfl ?_
              refine V_getR f dX9_statement_120 lf_9_60 rfl zm_0 rfl ?_
              refine V_aload_n f dX9_statement_123 0 rfl ?_
              refine V_getE (x := Mx18 0 29) f dX9_statement_124 lf_9_123 rfl zm_0 rfl ?_
              refine V_bald f dX9_statement_127 zm_17 (tin kR18.1 kR18.1.2.2.1 (tne kR18.1 c19)) ?_
              refine V_bipush (v := 59) f dX9_statement_128 (by decide) ?_
              refine V_icmp_eq (tgt := 135) f dX9_statement_130 (by decide) (fun c20 => ?_) (fun c20 => ?_)
              · refine V_aload_n f dX9_statement_135 0 rfl ?_
                refine V_dup f dX9_statement_136 rfl ?_
                refine V_getE (x := Mx18 0 29) f dX9_statement_137 lf_9_123 rfl zm_0 rfl ?_
                refine V_iconst (v := 1) f dX9_statement_140 (by decide) ?_
                refine V_iadd f dX9_statement_141 ?_
                refine V_putI f dX9_statement_142 lf_9_123 lp_9_29 rfl rfl rfl rfl zm_0 ?_
                refine V_iconst (v := 1) f dX9_statement_145 (by decide) ?_
                exact V_iret f q dX9_statement_146 rfl (Nat.zero_le _) (Nat.zero_le _) ⟨rfl, rfl, Or.inl ⟨(txnx T N (txnx T N (txnx T N p))), (txst_2 h16).trans ((txsq_y h17).trans ((txsq_y (List.mem_singleton.mpr ((at_s kC18 e18 c19 (by decide)).mp c20))).trans (rfl))), rfl, (RS_mv kC18 (at_1 e18 (te_s (by decide) ((at_s kC18 e18 c19 (by decide)).mp c20)).1) (txte_b (RS_le kC18).1).2.1), (Kt_at kR18 s1 (kt_b hS (at_1 e18 (te_s (by decide) ((at_s kC18 e18 c19 (by decide)).mp c20)).1) (txte_b (RS_le kC18).1).2.1)), (EN_0 kE18 _ _), fun c => (eff_1 (up_c (by decide) k20_18) (up_c (by decide) k21_18) c).trans (txef_2 h16 c).symm⟩⟩
              · refine V_iconst (v := 0) f dX9_statement_133 (by decide) ?_
                exact V_iret f q dX9_statement_134 rfl (Nat.zero_le _) (Nat.zero_le _) ⟨rfl, rfl, Or.inr ⟨(txnx T N (txnx T N p)), (txst_2 h16).trans ((txsq_y h17).trans (txsq_n (fun g => c20 ((at_s kC18 e18 c19 (by decide)).mpr (List.mem_singleton.mp g))))), rfl, e18, kR18, kE18⟩⟩
          · have kR17 : Kt sP M Mx17 := Kt_trans (Kt_cs kR16 (by decide) _ _) (b_s hk17)
            have kC17 : RSx T N Mx17 (txnx T N p) := (RS_st (RS_w kC16 (Kt_cs kR16 (by decide) _ _).1 (upo (by decide)) (upo (by decide))) hk17 b17 e17)
            have kE17 : EN (Int32.toNatClampNeg a) M Mx17 := (EN_b (EN_u kE16 _ _) hk17)
            have k20_17 : Mx17 20 (Int32.toNatClampNeg a) = 1 := (congrFun (hk17.2.2 20 (by unfold bP; decide)) _).trans up_s
            show V K ad 0 0 ZM Mx17 89 [(0, .ref (ad 0)), (1, .int a)] [.int 0]
            refine V_if_ne (tgt := 94) f dX9_statement_89 (by decide) (fun h => absurd (by decide) h) (fun _ => ?_)
            refine V_iconst (v := 0) f dX9_statement_92 (by decide) ?_
            exact V_iret f q dX9_statement_93 rfl (Nat.zero_le _) (Nat.zero_le _) ⟨rfl, rfl, Or.inr ⟨(txnx T N p), (txst_2 h16).trans (txsq_n h17), rfl, e17, kR17, kE17⟩⟩
        · have kR16 : Kt sP M Mx16 := Kt_trans kR11 (b_s hk16)
          have kC16 : RSx T N Mx16 p := (RS_st kC11 hk16 b17 e16)
          have kE16 : EN (Int32.toNatClampNeg a) M Mx16 := (EN_b kE11 hk16)
          show V K ad 0 0 ZM Mx16 66 [(0, .ref (ad 0)), (1, .int a)] [.int 0, .int a, .ref (ad 20)]
          refine V_if_eq (tgt := 73) f dX9_statement_66 (by decide) (fun _ => ?_) (fun h => absurd (by decide) h)
          refine V_iconst (v := (-1)) f dX9_statement_73 (by decide) ?_
          refine V_iast f dX9_statement_74 zm_20 ha ?_
          refine V_aload_n f dX9_statement_75 0 rfl ?_
          refine V_getR f dX9_statement_76 lf_9_73 rfl zm_0 rfl ?_
          refine V_iload_n f dX9_statement_79 1 rfl ?_
          refine V_ialdE (x := (-1)) f dX9_statement_80 zm_20 ha up_s ?_
          refine V_iconst (v := (-1)) f dX9_statement_81 (by decide) ?_
          refine V_icmp_eq (tgt := 92) f dX9_statement_82 (by decide) (fun _ => ?_) (fun h => absurd (by decide) h)
          refine V_iconst (v := 0) f dX9_statement_92 (by decide) ?_
          exact V_iret f q dX9_statement_93 rfl (Nat.zero_le _) (Nat.zero_le _) ⟨rfl, rfl, Or.inr ⟨p, txst_n h11 h16 h1 h6, rfl, (up_c (by decide) e16), (Kt_cs kR16 (by decide) _ _), (EN_u kE16 _ _)⟩⟩

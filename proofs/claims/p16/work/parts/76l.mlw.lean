set_option maxHeartbeats 4000000 in
set_option maxRecDepth 100000 in
theorem c4_X9_law (l : Launch) (D : va_G) (cy : Nat → ClassId) (X : va_W) (ad : Nat → Nat) (M : MT) (a : Int32) (hS : InvS M) (T : Nat → Int32) (hT : ∀ k : Nat, (k : Int) < (M 0 27).toInt → BY (M 16 k) (T k)) : CtP l yX9_law cX9_law 3 (some .int) (rK 5) D cy X ad ZM M [.ref (ad 0), .int a] (LM T M a) := by
  refine Ctr.of (by decide +kernel) (Nat.le_of_ble_eq_true rfl) ?_
  intro K f q hnm hl0 hD0 hy0 hX0
  show V K ad 0 0 ZM M 0 [(0, .ref (ad 0)), (1, .int a)] []
  have fin : ¬ (s_X9_isIn M a 0 (M 0 27)) = 0 → ¬ (M 0 31) = 8 → ∀ (q : Nat) (M2 : MT), LRq T a.toInt.toNat M M2 q → V K ad 0 0 ZM M2 83 [(2, .int 0), (0, .ref (ad 0)), (1, .int a)] [] := by
    intro w1 w2 q9 M2 hR
    refine V_iload_n f dX9_law_83 0 rfl ?_
    refine V_if_eq (tgt := 169) f dX9_law_84 (by decide) (fun _ => ?_) (fun h => absurd (by decide) h)
    refine V_aload_n f dX9_law_169 1 rfl ?_
    refine V_iload_n f dX9_law_170 0 rfl ?_
    refine V_if_eq (tgt := 178) f dX9_law_171 (by decide) (fun _ => ?_) (fun h => absurd (by decide) h)
    refine V_aload_n f dX9_law_178 1 rfl ?_
    refine V_getE (x := M2 0 29) f dX9_law_179 lf_9_123 rfl zm_0 rfl ?_
    refine V_putI f dX9_law_182 lf_9_63 lp_9_30 rfl rfl rfl rfl zm_0 ?_
    refine V_iload_n f dX9_law_185 0 rfl ?_
    refine V_if_ne (tgt := 191) f dX9_law_186 (by decide) (fun h => absurd (by decide) h) (fun _ => ?_)
    refine V_iconst (v := (-1)) f dX9_law_189 (by decide) ?_
    exact V_iret f q dX9_law_190 rfl (Nat.zero_le _) (Nat.zero_le _) ⟨rfl, rfl, LM_bad w1 w2 hR⟩
  have loop : ¬ (s_X9_isIn M a 0 (M 0 27)) = 0 → ¬ (M 0 31) = 8 → ∀ (n c : Nat) (M2 : MT) (p : Nat), c + n = 17 → LRx T a.toInt.toNat c M M2 p → V K ad 0 0 ZM M2 83 [(2, .int 1), (0, .ref (ad 0)), (1, .int a)] [] := by
    intro w1 w2 n
    have hl := l7 hS w2
    induction n with
    | zero => intro c M2 p hn hR; exact absurd hR.2.2.2.1 (by omega)
    | succ n ih =>
      intro c M2 p hn hR
      refine V_iload_n f dX9_law_83 0 rfl ?_
      refine V_if_eq (tgt := 169) f dX9_law_84 (by decide) (fun h => absurd h (by decide)) (fun _ => ?_)
      refine V_aload_n f dX9_law_87 1 rfl ?_
      refine V_getE (x := M2 0 29) f dX9_law_88 lf_9_123 rfl zm_0 rfl ?_
      refine V_aload_n f dX9_law_91 1 rfl ?_
      refine V_getE (x := M2 0 28) f dX9_law_92 lf_9_126 rfl zm_0 rfl ?_
      refine V_icmp_ge (tgt := 169) f dX9_law_95 (by decide) (fun c3 => ?_) (fun c3 => ?_)
      · refine V_aload_n f dX9_law_169 1 rfl ?_
        refine V_iload_n f dX9_law_170 0 rfl ?_
        refine V_if_eq (tgt := 178) f dX9_law_171 (by decide) (fun h => absurd h (by decide)) (fun _ => ?_)
        refine V_iconst (v := (-1)) f dX9_law_174 (by decide) ?_
        refine V_goto (tgt := 182) f dX9_law_175 (by decide) ?_
        refine V_putI f dX9_law_182 lf_9_63 lp_9_30 rfl rfl rfl rfl zm_0 ?_
        refine V_iload_n f dX9_law_185 0 rfl ?_
        refine V_if_ne (tgt := 191) f dX9_law_186 (by decide) (fun _ => ?_) (fun h => absurd h (by decide))
        refine V_aload_n f dX9_law_191 1 rfl ?_
        refine V_getR f dX9_law_192 lf_9_70 rfl zm_0 rfl ?_
        refine V_aload_n f dX9_law_195 1 rfl ?_
        refine V_getE (x := M 0 31) f dX9_law_196 lf_9_188 rfl zm_0 (up_k (by decide) hR.1.2.2.1) ?_
        refine V_aload_n f dX9_law_199 1 rfl ?_
        refine V_getE (x := M2 0 0) f dX9_law_200 lf_9_194 rfl zm_0 (up_k (by decide) rfl) ?_
        refine V_iast f dX9_law_203 zm_19 (sl4 hl).1 ?_
        refine V_aload_n f dX9_law_204 1 rfl ?_
        refine V_dup f dX9_law_205 rfl ?_
        refine V_getE (x := M 0 31) f dX9_law_206 lf_9_188 rfl zm_0 (up_c (by decide) (up_k (by decide) hR.1.2.2.1)) ?_
        refine V_iconst (v := 1) f dX9_law_209 (by decide) ?_
        refine V_iadd f dX9_law_210 ?_
        refine V_putI f dX9_law_211 lf_9_188 lp_9_31 rfl rfl rfl rfl zm_0 ?_
        refine V_aload_n f dX9_law_214 1 rfl ?_
        refine V_getE (x := (M 0 31) + 1) f dX9_law_215 lf_9_188 rfl zm_0 up_s ?_
        refine V_iconst (v := 1) f dX9_law_218 (by decide) ?_
        refine V_isub f dX9_law_219 ?_
        exact V_iret f q dX9_law_220 rfl (Nat.zero_le _) (Nat.zero_le _) ⟨rfl, rfl, LM_good w1 w2 hl hR ((lrx_p hR).mp c3) (hR.1.2.1.2.1 0 (by decide))⟩
      · refine V_aload_n f dX9_law_98 1 rfl ?_
        refine V_getR f dX9_law_99 lf_9_67 rfl zm_0 rfl ?_
        refine V_aload_n f dX9_law_102 1 rfl ?_
        refine V_getE (x := M 0 31) f dX9_law_103 lf_9_188 rfl zm_0 hR.1.2.2.1 ?_
        refine V_ialdE (x := M2 18 (Int32.toNatClampNeg (M 0 31))) f dX9_law_106 zm_18 (sl4 hl).1 rfl ?_
        refine V_bipush (v := 16) f dX9_law_107 (by decide) ?_
        refine V_icmp_ge (tgt := 140) f dX9_law_109 (by decide) (fun c4 => ?_) (fun c4 => ?_)
        · refine V_iconst (v := 0) f dX9_law_140 (by decide) ?_
          refine V_istore_n f dX9_law_141 rfl (by decide) rfl ?_
          refine V_iload_n f dX9_law_142 0 rfl ?_
          refine V_if_ne (tgt := 149) f dX9_law_143 (by decide) (fun h => absurd (by decide) h) (fun _ => ?_)
          refine V_goto (tgt := 83) f dX9_law_146 (by decide) ?_
          exact fin w1 w2 _ _ (LRx_many hR (fun g => absurd c4 (by rw [Int32.le_iff_toInt_le, hR.1.2.2.2, show (16 : Int32).toInt = 16 by decide]; omega)) (Classical.byContradiction fun g => c3 ((lrx_p hR).mpr g)))
        · refine V_aload_n f dX9_law_112 1 rfl ?_
          refine V_bipush (v := 16) f dX9_law_113 (by decide) ?_
          refine V_aload_n f dX9_law_115 1 rfl ?_
          refine V_getE (x := M 0 31) f dX9_law_116 lf_9_188 rfl zm_0 hR.1.2.2.1 ?_
          refine V_imul f dX9_law_119 ?_
          refine V_aload_n f dX9_law_120 1 rfl ?_
          refine V_getR f dX9_law_121 lf_9_67 rfl zm_0 rfl ?_
          refine V_aload_n f dX9_law_124 1 rfl ?_
          refine V_getE (x := M 0 31) f dX9_law_125 lf_9_188 rfl zm_0 hR.1.2.2.1 ?_
          refine V_ialdE (x := M2 18 (Int32.toNatClampNeg (M 0 31))) f dX9_law_128 zm_18 (sl4 hl).1 rfl ?_
          refine V_iadd f dX9_law_129 ?_
          refine V_cVp (As := [.int ((16 * (M 0 31)) + (M2 18 (Int32.toNatClampNeg (M 0 31))))]) (rest := []) f dX9_law_130 lk_X9_191 ml_X9_191 ins_X9_statement sel_X9_statement zm_0 (by decide) rfl (c4_X9_statement _ _ _ _ ad M2 ((16 * (M 0 31)) + (M2 18 (Int32.toNatClampNeg (M 0 31)))) T a.toInt.toNat p hR.2.1 (st144 hl (by rw [hR.1.2.2.2]; omega) c4)) rfl (Nat.le_of_ble_eq_true rfl) rfl ⟨by decide, by decide⟩ ⟨Nat.zero_le _, Nat.zero_le _⟩ rfl rfl (fun v5 Mx5 hp5 => ?_)
          rcases hp5 with ⟨q5, hq5, rfl, hC5, hk5, hE5, hf5⟩ | ⟨q5, hq5, rfl, e5, hk5, hE5⟩
          · show V K ad 0 0 ZM Mx5 133 [(2, .int 1), (0, .ref (ad 0)), (1, .int a)] [.int 1]
            refine V_if_eq (tgt := 140) f dX9_law_133 (by decide) (fun h => absurd h (by decide)) (fun _ => ?_)
            refine V_iconst (v := 1) f dX9_law_136 (by decide) ?_
            refine V_goto (tgt := 141) f dX9_law_137 (by decide) ?_
            refine V_istore_n f dX9_law_141 rfl (by decide) rfl ?_
            refine V_iload_n f dX9_law_142 0 rfl ?_
            refine V_if_ne (tgt := 149) f dX9_law_143 (by decide) (fun _ => ?_) (fun h => absurd h (by decide))
            refine V_aload_n f dX9_law_149 1 rfl ?_
            refine V_getR f dX9_law_150 lf_9_67 rfl zm_0 rfl ?_
            refine V_aload_n f dX9_law_153 1 rfl ?_
            refine V_getE (x := M 0 31) f dX9_law_154 lf_9_188 rfl zm_0 ((hk5.2.1 31 (by decide) (by decide) (by decide)).trans hR.1.2.2.1) ?_
            refine V_dup2 f dX9_law_157 rfl rfl ?_
            refine V_ialdE (x := Mx5 18 (Int32.toNatClampNeg (M 0 31))) f dX9_law_158 zm_18 (sl4 hl).1 rfl ?_
            refine V_iconst (v := 1) f dX9_law_159 (by decide) ?_
            refine V_iadd f dX9_law_160 ?_
            refine V_iast f dX9_law_161 zm_18 (sl4 hl).1 ?_
            refine V_aload_n f dX9_law_162 1 rfl ?_
            refine V_cVp (As := []) (rest := []) f dX9_law_163 lk_X9_129 ml_X9_129 ins_X9_blanks sel_X9_blanks zm_0 (by decide) rfl (c4_X9_blanks _ _ _ _ ad (up2 Mx5 18 (Int32.toNatClampNeg (M 0 31)) ((Mx5 18 (Int32.toNatClampNeg (M 0 31))) + 1)) T a.toInt.toNat q5 (RS_w hC5 (LR_inc (LR_Kt hR.1 hk5) (lt16 hR.1.2.2.2 c4)).1 (upo (by decide)) (upo (by decide)))) rfl (Nat.le_of_ble_eq_true rfl) rfl ⟨by decide, by decide⟩ ⟨Nat.zero_le _, Nat.zero_le _⟩ rfl rfl (fun v6 Mx6 hp6 => ?_)
            obtain ⟨rfl, hk6, e6⟩ := hp6
            show V K ad 0 0 ZM Mx6 166 [(2, .int 1), (0, .ref (ad 0)), (1, .int a)] []
            refine V_goto (tgt := 83) f dX9_law_166 (by decide) ?_
            have kC := RS_w hC5 (LR_inc (LR_Kt hR.1 hk5) (lt16 hR.1.2.2.2 c4)).1 (upo (by decide)) (upo (by decide))
            exact ih (c + 1) _ _ (by omega) (LRx_s hR (lt16 hR.1.2.2.2 c4) (Classical.byContradiction fun g => c3 ((lrx_p hR).mpr g)) (st_ix hl hR.1.2.2.2 (lt16 hR.1.2.2.2 c4)) hq5 hC5 hk5 hE5 hf5 hk6 e6 (RS_st kC hk6 b17 e6))
          · show V K ad 0 0 ZM Mx5 133 [(2, .int 1), (0, .ref (ad 0)), (1, .int a)] [.int 0]
            refine V_if_eq (tgt := 140) f dX9_law_133 (by decide) (fun _ => ?_) (fun h => absurd (by decide) h)
            refine V_iconst (v := 0) f dX9_law_140 (by decide) ?_
            refine V_istore_n f dX9_law_141 rfl (by decide) rfl ?_
            refine V_iload_n f dX9_law_142 0 rfl ?_
            refine V_if_ne (tgt := 149) f dX9_law_143 (by decide) (fun h => absurd (by decide) h) (fun _ => ?_)
            refine V_goto (tgt := 83) f dX9_law_146 (by decide) ?_
            exact fin w1 w2 _ _ (LRx_bad hR (lt16 hR.1.2.2.2 c4) (Classical.byContradiction fun g => c3 ((lrx_p hR).mpr g)) (st_ix hl hR.1.2.2.2 (lt16 hR.1.2.2.2 c4)) hq5 hk5 hE5 e5)
  have copy : ¬ (s_X9_isIn M a 0 (M 0 27)) = 0 → ¬ (M 0 31) = 8 → ∀ (n b : Nat) (x : Int32) (M1 : MT), x.toInt = (b : Int) → b + n = a.toInt.toNat → KT2 M M1 b → V K ad 0 0 ZM M1 29 [(2, .int x), (0, .ref (ad 0)), (1, .int a)] [] := by
    intro w1 w2 n
    have hA9 := aN hS w1
    have hA : 0 ≤ a.toInt ∧ a.toInt.toNat ≤ 500 := by omega
    have hl := l7 hS w2
    have haN : a.toInt = ((a.toInt.toNat : Nat) : Int) := by omega
    have hT2 : ∀ k, k < a.toInt.toNat → BY (M 16 k) (T k) := fun k hk => hT k (by have := (within_to (M := M) w1).2; omega)
    induction n with
    | zero =>
      intro b x M1 hx hn hC
      obtain rfl : b = a.toInt.toNat := by omega
      refine V_iload_n f dX9_law_29 0 rfl ?_
      refine V_iload_n f dX9_law_30 2 rfl ?_
      refine V_icmp_ge (tgt := 52) f dX9_law_31 (by decide) (fun _ => ?_) (fun h => absurd (by rw [Int32.le_iff_toInt_le]; omega) h)
      refine V_aload_n f dX9_law_52 1 rfl ?_
      refine V_iload_n f dX9_law_53 2 rfl ?_
      refine V_putI f dX9_law_54 lf_9_126 lp_9_28 rfl rfl rfl rfl zm_0 ?_
      refine V_aload_n f dX9_law_57 1 rfl ?_
      refine V_iconst (v := 0) f dX9_law_58 (by decide) ?_
      refine V_putI f dX9_law_59 lf_9_116 lp_9_27 rfl rfl rfl rfl zm_0 ?_
      refine V_aload_n f dX9_law_62 1 rfl ?_
      refine V_iconst (v := 0) f dX9_law_63 (by decide) ?_
      refine V_putI f dX9_law_64 lf_9_123 lp_9_29 rfl rfl rfl rfl zm_0 ?_
      refine V_aload_n f dX9_law_67 1 rfl ?_
      refine V_getR f dX9_law_68 lf_9_67 rfl zm_0 rfl ?_
      refine V_aload_n f dX9_law_71 1 rfl ?_
      refine V_getE (x := M 0 31) f dX9_law_72 lf_9_188 rfl zm_0 (up_k (by decide) (up_k (by decide) (up_k (by decide) (congrFun (hC.1 0 (by decide)) 31)))) ?_
      refine V_iconst (v := 0) f dX9_law_75 (by decide) ?_
      refine V_iast f dX9_law_76 zm_18 (sl4 hl).1 ?_
      refine V_iconst (v := 1) f dX9_law_77 (by decide) ?_
      refine V_istore_n f dX9_law_78 rfl (by decide) rfl ?_
      refine V_aload_n f dX9_law_79 1 rfl ?_
      refine V_cVp (As := []) (rest := []) f dX9_law_80 lk_X9_129 ml_X9_129 ins_X9_blanks sel_X9_blanks zm_0 (by decide) rfl (c4_X9_blanks _ _ _ _ ad (up2 (up2 (up2 (up2 M1 0 28 a) 0 27 0) 0 29 0) 18 (Int32.toNatClampNeg (M 0 31)) 0) T a.toInt.toNat (txsk T a.toInt.toNat 0) (LRx_RS hS hC haN hA.2 hT2 _)) rfl (Nat.le_of_ble_eq_true rfl) rfl ⟨by decide, by decide⟩ ⟨Nat.zero_le _, Nat.zero_le _⟩ rfl rfl (fun v7 Mx7 hp7 => ?_)
      obtain ⟨rfl, hk7, e7⟩ := hp7
      show V K ad 0 0 ZM Mx7 83 [(2, .int 1), (0, .ref (ad 0)), (1, .int a)] []
      exact loop w1 w2 17 0 _ _ rfl (LRx_0 hS hC haN hA.2 hT2 hk7 e7)
    | succ n ih =>
      intro b x M1 hx hn hC
      have hb9 : b < a.toInt.toNat := by omega
      have hv9 : vp_nar .byte (M1 16 (Int32.toNatClampNeg x)) = M 16 b := by rw [hC.1 16 (by decide), nat_eq hx]; exact by_nar (hT2 b hb9)
      have hx1 : (x + 1).toInt = ((b + 1 : Nat) : Int) := by have e1 : (1 : Int32).toInt = 1 := (by decide); have := i32_add (x := x) (by omega) (by omega) (k := 1) (by decide) (by decide); omega
      refine V_iload_n f dX9_law_29 0 rfl ?_
      refine V_iload_n f dX9_law_30 2 rfl ?_
      refine V_icmp_ge (tgt := 52) f dX9_law_31 (by decide) (fun h => absurd h (by rw [Int32.le_iff_toInt_le]; omega)) (fun _ => ?_)
      refine V_aload_n f dX9_law_34 1 rfl ?_
      refine V_getR f dX9_law_35 lf_9_60 rfl zm_0 rfl ?_
      refine V_iload_n f dX9_law_38 0 rfl ?_
      refine V_aload_n f dX9_law_39 1 rfl ?_
      refine V_getR f dX9_law_40 lf_9_56 rfl zm_0 rfl ?_
      refine V_iload_n f dX9_law_43 0 rfl ?_
      refine V_bald f dX9_law_44 zm_16 (by rw [vp_in_iff]; omega) ?_
      refine V_bast f dX9_law_45 zm_17 (by rw [vp_in_iff]; omega) ?_
      refine V_iinc (v := x + 1) f dX9_law_46 0 rfl rfl (by decide) rfl ?_
      refine V_goto (tgt := 29) f dX9_law_49 (by decide) ?_
      rw [hv9, nat_eq hx]
      exact ih (b + 1) (x + 1) _ hx1 (by omega) (KT2_s hC rfl)
  refine V_iload_n f dX9_law_0 1 rfl ?_
  refine V_iconst (v := 0) f dX9_law_1 (by decide) ?_
  refine V_aload_n f dX9_law_2 0 rfl ?_
  refine V_getE (x := M 0 27) f dX9_law_3 lf_9_116 rfl zm_0 rfl ?_
  refine V_cSi (As := [.int a, .int 0, .int (M 0 27)]) (rest := []) f dX9_law_6 lk_X9_109 ml_X9_109 sta_X9_isIn (c_X9_isIn (kl K) (kD K) (ky K) (kX K) ad M a 0 (M 0 27)) rfl (Nat.le_of_ble_eq_true rfl) rfl ⟨by decide, by decide⟩ ⟨Nat.zero_le _, Nat.zero_le _⟩ rfl rfl ?_
  refine V_if_ne (tgt := 15) f dX9_law_9 (by decide) (fun c1 => ?_) (fun c1 => ?_)
  · refine V_aload_n f dX9_law_15 0 rfl ?_
    refine V_getE (x := M 0 31) f dX9_law_16 lf_9_188 rfl zm_0 rfl ?_
    refine V_bipush (v := 8) f dX9_law_19 (by decide) ?_
    refine V_icmp_ne (tgt := 27) f dX9_law_21 (by decide) (fun c2 => ?_) (fun c2 => ?_)
    · refine V_iconst (v := 0) f dX9_law_27 (by decide) ?_
      refine V_istore_n f dX9_law_28 rfl (by decide) rfl ?_
      exact copy c1 c2 a.toInt.toNat 0 0 M (by decide) (by have := aN hS c1; omega) ⟨fun _ _ => rfl, fun k hk => absurd hk (Nat.not_lt_zero k)⟩
    · refine V_bipush (v := (-3)) f dX9_law_24 (by decide) ?_
      exact V_iret f q dX9_law_26 rfl (Nat.zero_le _) (Nat.zero_le _) ⟨rfl, rfl, Or.inr (Or.inl ⟨c1, c2, rfl, rfl⟩)⟩
  · refine V_bipush (v := (-2)) f dX9_law_12 (by decide) ?_
    exact V_iret f q dX9_law_14 rfl (Nat.zero_le _) (Nat.zero_le _) ⟨rfl, rfl, Or.inl ⟨c1, rfl, rfl⟩⟩

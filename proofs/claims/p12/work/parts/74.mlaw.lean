/-- kept by law and feed -/
def KL (M M1 : MT) : Prop := InvS M1 ∧ (∀ k, k < 10 → M1 0 k = M 0 k) ∧ ∀ i, 1 ≤ i → i ≤ 15 → M1 i = M i
theorem KL_refl {M : MT} (h : InvS M) : KL M M := ⟨h, fun _ _ => rfl, fun _ _ _ => rfl⟩
theorem KL_Kt {M M1 M2 : MT} (h : KL M M1) (g : Kt sP M1 M2) : KL M M2 := ⟨g.1.1, fun k hk => (g.2.1 k (by omega) (by omega) (by omega)).trans (h.2.1 k hk), fun i a b => (g.2.2 i ⟨by omega, by omega⟩).trans (h.2.2 i a b)⟩
theorem KL_W {wb sb : Int} {M M1 : MT} (h : KL M M1) (g : InvW wb sb M) : InvW wb sb M1 := by
  obtain ⟨-, h1, h2⟩ := h
  unfold InvW
  rw [h1 3 (by decide), h1 4 (by decide), h2 8 (by decide) (by decide), h2 2 (by decide) (by decide), h2 3 (by decide) (by decide)]
  exact g
def KC (M M1 : MT) : Prop := ∀ i, ¬ i = 17 → M1 i = M i
theorem KC_up {M M1 : MT} (h : KC M M1) (k : Nat) (v : Int32) : KC M (up2 M1 17 k v) := fun i hi => (upo hi).trans (h i hi)
theorem InvS_18 {M : MT} (h : InvS M) {k : Nat} {v : Int32} (hv : 0 ≤ v.toInt ∧ v.toInt ≤ 16) : InvS (up2 M 18 k v) := by
  obtain ⟨h1, h2, h3, h4, h5⟩ := h
  refine ⟨by rw [upo (by decide)]; exact h1, by rw [upo (by decide)]; exact h2, by rw [upo (by decide)]; exact h3, fun j hj => ?_, by rw [upo (by decide)]; exact h5⟩
  by_cases q : j = k
  · subst q; rw [up_s]; exact hv
  · rw [up_k q rfl]; exact h4 j hj
theorem InvS_KC {M M1 : MT} (h : InvS M) (g : KC M M1) : InvS M1 := by
  unfold InvS
  rw [g 0 (by decide), g 18 (by decide), g 25 (by decide)]
  exact h
theorem InvS_27 {M : MT} (h : InvS M) {v : Int32} (hv : 0 ≤ v.toInt ∧ v.toInt ≤ 500) : InvS (up2 M 0 27 v) := by
  obtain ⟨h1, h2, h3, h4, h5⟩ := h
  exact ⟨by rw [up_k (by decide) rfl]; exact h1, by rw [up_k (by decide) rfl]; exact h2, by rw [up_s]; exact hv, by rw [upo (by decide)]; exact h4, by rw [upo (by decide)]; exact h5⟩
theorem InvS_31 {M : MT} (h : InvS M) {v : Int32} (hv : 0 ≤ v.toInt ∧ v.toInt ≤ 8) : InvS (up2 M 0 31 v) := by
  obtain ⟨h1, h2, h3, h4, h5⟩ := h
  exact ⟨by rw [up_k (by decide) rfl]; exact h1, by rw [up_s]; exact hv, by rw [up_k (by decide) rfl]; exact h3, by rw [upo (by decide)]; exact h4, by rw [upo (by decide)]; exact h5⟩
/-- while law reads: c STATEMENTS so far -/
def LR (c : Nat) (M M2 : MT) : Prop := ParI M2 ∧ KL M M2 ∧ M2 0 31 = M 0 31 ∧ (M2 18 (Int32.toNatClampNeg (M 0 31))).toInt = (c : Int)
theorem LR_start {M M1 Mx : MT} {a : Int32} (hS : InvS M) (hC : KC M M1) (ha : 0 ≤ a.toInt ∧ a.toInt ≤ 500) (g : Kt bP (up2 (up2 (up2 (up2 M1 0 28 a) 0 27 0) 0 29 0) 18 (Int32.toNatClampNeg (M 0 31)) 0) Mx) : LR 0 M Mx := by
  have e0 : (0 : Int32).toInt = 0 := by decide
  have hc : KL M (up2 (up2 (up2 (up2 M1 0 28 a) 0 27 0) 0 29 0) 18 (Int32.toNatClampNeg (M 0 31)) 0) := by
    refine ⟨InvS_18 (InvS_0 (InvS_27 (InvS_0 (InvS_KC hS hC) (by decide) a) (by decide)) (by decide) 0) (by decide), fun k hk => ?_, fun i h1 h2 => ?_⟩
    · rw [upo (by decide), up_k (by omega) rfl, up_k (by omega) rfl, up_k (by omega) rfl, hC 0 (by decide)]
    · rw [upo (by omega), upo (by omega), upo (by omega), upo (by omega), hC i (by omega)]
  refine ⟨g.1, KL_Kt hc (b_s g), ?_, ?_⟩
  · rw [g.2.1 31 (by decide) (by decide) (by decide), upo (by decide), up_k (by decide) rfl, up_k (by decide) rfl, up_k (by decide) rfl, hC 0 (by decide)]
  · rw [congrFun (g.2.2 18 (fun q => absurd q (by decide))) _, up_s, e0]; rfl
theorem law_par {M M1 : MT} {a : Int32} (hS : InvS M) (hC : KC M M1) (ha : 0 ≤ a.toInt ∧ a.toInt ≤ 500) (k : Nat) : ParI (up2 (up2 (up2 (up2 M1 0 28 a) 0 27 0) 0 29 0) 18 k 0) := by
  have e0 : (0 : Int32).toInt = 0 := by decide
  refine ⟨InvS_18 (InvS_0 (InvS_27 (InvS_0 (InvS_KC hS hC) (by decide) a) (by decide)) (by decide) 0) (by decide), ?_, ?_⟩
  · rw [upo (by decide), up_k (by decide) rfl, up_k (by decide) rfl, up_s]; exact ha
  · rw [upo (by decide), up_s, up_k (by decide) rfl, up_k (by decide) rfl, up_s, e0]; exact ⟨Int.le_refl 0, ha.1⟩
theorem LR_Kt {c : Nat} {M M2 Mx : MT} (h : LR c M M2) (g : Kt sP M2 Mx) : LR c M Mx := ⟨g.1, KL_Kt h.2.1 g, (g.2.1 31 (by decide) (by decide) (by decide)).trans h.2.2.1, by rw [congrFun (g.2.2 18 ⟨by decide, Or.inl (by decide)⟩) _]; exact h.2.2.2⟩
theorem LR_inc {c : Nat} {M M2 : MT} (h : LR c M M2) (hc : c < 16) : LR (c + 1) M (up2 M2 18 (Int32.toNatClampNeg (M 0 31)) ((M2 18 (Int32.toNatClampNeg (M 0 31))) + 1)) := by
  obtain ⟨⟨p1, p2, p3⟩, ⟨k1, k2, k3⟩, h3, h4⟩ := h
  have e1 : (1 : Int32).toInt = 1 := by decide
  have a1 := i32_add (x := M2 18 (Int32.toNatClampNeg (M 0 31))) (by omega) (by omega) (k := 1) (by decide) (by decide)
  have i1 : InvS (up2 M2 18 (Int32.toNatClampNeg (M 0 31)) ((M2 18 (Int32.toNatClampNeg (M 0 31))) + 1)) := InvS_18 p1 (by omega)
  refine ⟨⟨i1, by rw [upo (by decide)]; exact p2, by rw [upo (by decide)]; exact p3⟩, ⟨i1, fun k hk => by rw [upo (by decide)]; exact k2 k hk, fun i a b => (upo (by omega)).trans (k3 i a b)⟩, by rw [upo (by decide)]; exact h3, ?_⟩
  rw [up_s]; omega
theorem l7 {M : MT} (hS : InvS M) (h : ¬ (M 0 31) = 8) : 0 ≤ (M 0 31).toInt ∧ (M 0 31).toInt ≤ 7 := by
  have h2 := hS.2.1
  have e : ¬ (M 0 31).toInt = 8 := fun q => h (Int32.toInt_inj.mp (by rw [q]; decide))
  omega
theorem st144 {r t : Int32} (h : 0 ≤ r.toInt ∧ r.toInt ≤ 7) (ht : 0 ≤ t.toInt) (hc : ¬ 16 ≤ t) : vp_in ((16 * r) + t) 144 := by
  have h1 := sl1 h
  have e6 : (16 : Int32).toInt = 16 := by decide
  rw [Int32.le_iff_toInt_le, e6] at hc
  have e : ((16 * r) + t).toInt = 16 * r.toInt + t.toInt := by rw [Int32.toInt_add, h1, Int.bmod_eq_of_le (by omega) (by omega)]
  rw [vp_in_iff]; omega
theorem LR_bad {c : Nat} {M M2 : MT} (h : LR c M M2) (v : Int32) : KL M (up2 M2 0 30 v) := ⟨InvS_0 h.1.1 (by decide) v, fun k hk => (up_k (by omega) rfl).trans (h.2.1.2.1 k hk), fun i a b => (upo (by omega)).trans (h.2.1.2.2 i a b)⟩
theorem LR_good {c : Nat} {M M2 : MT} (h : LR c M M2) (hl : 0 ≤ (M 0 31).toInt ∧ (M 0 31).toInt ≤ 7) (v x : Int32) (k : Nat) : KL M (up2 (up2 (up2 M2 0 30 v) 19 k x) 0 31 ((M 0 31) + 1)) := by
  have b := LR_bad h v
  have e1 : (1 : Int32).toInt = 1 := by decide
  have a1 := i32_add (x := M 0 31) (by omega) (by omega) (k := 1) (by decide) (by decide)
  exact ⟨InvS_31 (InvS_up b.1 (by decide) k x) (by omega), fun k hk => (up_k (by omega) ((congrFun (upo (by decide)) _).trans (b.2.1 k hk))), fun i h1 h2 => (upo (by omega)).trans ((upo (by omega)).trans (b.2.2 i h1 h2))⟩
theorem aN {M : MT} {a : Int32} (hS : InvS M) (h : ¬ s_X9_isIn M a 0 (M 0 27) = 0) : 0 ≤ a.toInt ∧ a.toInt ≤ 500 := by
  have := within_to (M := M) h
  have h3 := hS.2.2.1
  have e0 : (0 : Int32).toInt = 0 := by decide
  omega
theorem lt16 {x : Int32} {c : Nat} (h : x.toInt = (c : Int)) (hc : ¬ 16 ≤ x) : c < 16 := by
  have e6 : (16 : Int32).toInt = 16 := by decide
  rw [Int32.le_iff_toInt_le, e6] at hc
  omega
set_option maxHeartbeats 4000000 in
set_option maxRecDepth 100000 in
theorem c3_X9_law (l : Launch) (D : va_G) (cy : Nat → ClassId) (X : va_W) (ad : Nat → Nat) (M : MT) (a : Int32) (hS : InvS M) : CtP l yX9_law cX9_law 3 (some .int) (rK 5) D cy X ad ZM M [.ref (ad 0), .int a] (fun v M1 => (∃ r : Int32, v = some (.int r)) ∧ KL M M1) := by
  refine Ctr.of (by decide +kernel) (Nat.le_of_ble_eq_true rfl) ?_
  intro K f q hnm hl0 hD0 hy0 hX0
  show V K ad 0 0 ZM M 0 [(0, .ref (ad 0)), (1, .int a)] []
  have fin : ∀ (c : Nat) (M2 : MT), LR c M M2 → V K ad 0 0 ZM M2 83 [(2, .int 0), (0, .ref (ad 0)), (1, .int a)] [] := by
    intro c M2 hR
    refine V_iload_n f dX9_law_83 0 rfl ?_
    refine V_if_eq (tgt := 169) f dX9_law_84 (by decide) (fun _ => ?_) (fun h => absurd (by decide) h)
    refine V_aload_n f dX9_law_169 1 rfl ?_
    refine V_iload_n f dX9_law_170 0 rfl ?_
    refine V_if_eq (tgt := 178) f dX9_law_171 (by decide) (fun _ => ?_) (fun h => absurd (by decide) h)
    refine V_aload_n f dX9_law_178 1 rfl ?_
    refine V_getE (x := M2 0 29) f dX9_law_179 lf_9_123 rfl zm_0 rfl ?_
    refine V_putI f dX9_law_182 lf_9_63 lp_9_30 rfl rfl rfl rfl zm_0 ?_
    refine V_iload_n f dX9_law_185 0 rfl ?_
    refine V_if_ne (tgt := 191) f dX9_law_186 (by decide) (fun h => absurd (by decide) h) (fun _ => ?_)
    refine V_iconst (v := (-1)) f dX9_law_189 (by decide) ?_
    exact V_iret f q dX9_law_190 rfl (Nat.zero_le _) (Nat.zero_le _) ⟨rfl, rfl, ⟨_, rfl⟩, LR_bad hR _⟩
  have loop : ¬ (s_X9_isIn M a 0 (M 0 27)) = 0 → ¬ (M 0 31) = 8 → ∀ (n c : Nat) (M2 : MT), c + n = 17 → LR c M M2 → V K ad 0 0 ZM M2 83 [(2, .int 1), (0, .ref (ad 0)), (1, .int a)] [] := by
    intro w1 w2 n
    have hl := l7 hS w2
    induction n with
    | zero => intro c M2 hn hR; exact absurd (hR.1.1.2.2.2.1 _ (show Int32.toNatClampNeg (M 0 31) < 9 from vlt (sl4 hl).1)).2 (by rw [hR.2.2.2]; omega)
    | succ n ih =>
      intro c M2 hn hR
      refine V_iload_n f dX9_law_83 0 rfl ?_
      refine V_if_eq (tgt := 169) f dX9_law_84 (by decide) (fun h => absurd h (by decide)) (fun _ => ?_)
      refine V_aload_n f dX9_law_87 1 rfl ?_
      refine V_getE (x := M2 0 29) f dX9_law_88 lf_9_123 rfl zm_0 rfl ?_
      refine V_aload_n f dX9_law_91 1 rfl ?_
      refine V_getE (x := M2 0 28) f dX9_law_92 lf_9_126 rfl zm_0 rfl ?_
      refine V_icmp_ge (tgt := 169) f dX9_law_95 (by decide) (fun c3 => ?_) (fun c3 => ?_)
      · refine V_aload_n f dX9_law_169 1 rfl ?_
        refine V_iload_n f dX9_law_170 0 rfl ?_
        refine V_if_eq (tgt := 178) f dX9_law_171 (by decide) (fun h => absurd h (by decide)) (fun _ => ?_)
        refine V_iconst (v := (-1)) f dX9_law_174 (by decide) ?_
        refine V_goto (tgt := 182) f dX9_law_175 (by decide) ?_
        refine V_putI f dX9_law_182 lf_9_63 lp_9_30 rfl rfl rfl rfl zm_0 ?_
        refine V_iload_n f dX9_law_185 0 rfl ?_
        refine V_if_ne (tgt := 191) f dX9_law_186 (by decide) (fun _ => ?_) (fun h => absurd h (by decide))
        refine V_aload_n f dX9_law_191 1 rfl ?_
        refine V_getR f dX9_law_192 lf_9_70 rfl zm_0 rfl ?_
        refine V_aload_n f dX9_law_195 1 rfl ?_
        refine V_getE (x := M 0 31) f dX9_law_196 lf_9_188 rfl zm_0 (up_k (by decide) hR.2.2.1) ?_
        refine V_aload_n f dX9_law_199 1 rfl ?_
        refine V_getE (x := M2 0 0) f dX9_law_200 lf_9_194 rfl zm_0 (up_k (by decide) rfl) ?_
        refine V_iast f dX9_law_203 zm_19 (sl4 hl).1 ?_
        refine V_aload_n f dX9_law_204 1 rfl ?_
        refine V_dup f dX9_law_205 rfl ?_
        refine V_getE (x := M 0 31) f dX9_law_206 lf_9_188 rfl zm_0 (up_c (by decide) (up_k (by decide) hR.2.2.1)) ?_
        refine V_iconst (v := 1) f dX9_law_209 (by decide) ?_
        refine V_iadd f dX9_law_210 ?_
        refine V_putI f dX9_law_211 lf_9_188 lp_9_31 rfl rfl rfl rfl zm_0 ?_
        refine V_aload_n f dX9_law_214 1 rfl ?_
        refine V_getE (x := (M 0 31) + 1) f dX9_law_215 lf_9_188 rfl zm_0 up_s ?_
        refine V_iconst (v := 1) f dX9_law_218 (by decide) ?_
        refine V_isub f dX9_law_219 ?_
        exact V_iret f q dX9_law_220 rfl (Nat.zero_le _) (Nat.zero_le _) ⟨rfl, rfl, ⟨_, rfl⟩, LR_good hR hl _ _ _⟩
      · refine V_aload_n f dX9_law_98 1 rfl ?_
        refine V_getR f dX9_law_99 lf_9_67 rfl zm_0 rfl ?_
        refine V_aload_n f dX9_law_102 1 rfl ?_
        refine V_getE (x := M 0 31) f dX9_law_103 lf_9_188 rfl zm_0 hR.2.2.1 ?_
        refine V_ialdE (x := M2 18 (Int32.toNatClampNeg (M 0 31))) f dX9_law_106 zm_18 (sl4 hl).1 rfl ?_
        refine V_bipush (v := 16) f dX9_law_107 (by decide) ?_
        refine V_icmp_ge (tgt := 140) f dX9_law_109 (by decide) (fun c4 => ?_) (fun c4 => ?_)
        · refine V_iconst (v := 0) f dX9_law_140 (by decide) ?_
          refine V_istore_n f dX9_law_141 rfl (by decide) rfl ?_
          refine V_iload_n f dX9_law_142 0 rfl ?_
          refine V_if_ne (tgt := 149) f dX9_law_143 (by decide) (fun h => absurd (by decide) h) (fun _ => ?_)
          refine V_goto (tgt := 83) f dX9_law_146 (by decide) ?_
          exact fin _ _ hR
        · refine V_aload_n f dX9_law_112 1 rfl ?_
          refine V_bipush (v := 16) f dX9_law_113 (by decide) ?_
          refine V_aload_n f dX9_law_115 1 rfl ?_
          refine V_getE (x := M 0 31) f dX9_law_116 lf_9_188 rfl zm_0 hR.2.2.1 ?_
          refine V_imul f dX9_law_119 ?_
          refine V_aload_n f dX9_law_120 1 rfl ?_
          refine V_getR f dX9_law_121 lf_9_67 rfl zm_0 rfl ?_
          refine V_aload_n f dX9_law_124 1 rfl ?_
          refine V_getE (x := M 0 31) f dX9_law_125 lf_9_188 rfl zm_0 hR.2.2.1 ?_
          refine V_ialdE (x := M2 18 (Int32.toNatClampNeg (M 0 31))) f dX9_law_128 zm_18 (sl4 hl).1 rfl ?_
          refine V_iadd f dX9_law_129 ?_
          refine V_cVp (As := [.int ((16 * (M 0 31)) + (M2 18 (Int32.toNatClampNeg (M 0 31))))]) (rest := []) f dX9_law_130 lk_X9_191 ml_X9_191 ins_X9_statement sel_X9_statement zm_0 (by decide) rfl (c3_X9_statement _ _ _ _ ad M2 ((16 * (M 0 31)) + (M2 18 (Int32.toNatClampNeg (M 0 31)))) ((Kt_refl (P := sP) hR.1).1) (st144 hl (by rw [hR.2.2.2]; omega) c4)) rfl (Nat.le_of_ble_eq_true rfl) rfl ⟨by decide, by decide⟩ ⟨Nat.zero_le _, Nat.zero_le _⟩ rfl rfl (fun v5 Mx5 hp5 => ?_)
          obtain ⟨⟨r5, rfl, hr5⟩, hk5⟩ := hp5
          show V K ad 0 0 ZM Mx5 133 [(2, .int 1), (0, .ref (ad 0)), (1, .int a)] [.int r5]
          refine V_if_eq (tgt := 140) f dX9_law_133 (by decide) (fun c6 => ?_) (fun c6 => ?_)
          · refine V_iconst (v := 0) f dX9_law_140 (by decide) ?_
            refine V_istore_n f dX9_law_141 rfl (by decide) rfl ?_
            refine V_iload_n f dX9_law_142 0 rfl ?_
            refine V_if_ne (tgt := 149) f dX9_law_143 (by decide) (fun h => absurd (by decide) h) (fun _ => ?_)
            refine V_goto (tgt := 83) f dX9_law_146 (by decide) ?_
            exact fin _ _ (LR_Kt hR hk5)
          · refine V_iconst (v := 1) f dX9_law_136 (by decide) ?_
            refine V_goto (tgt := 141) f dX9_law_137 (by decide) ?_
            refine V_istore_n f dX9_law_141 rfl (by decide) rfl ?_
            refine V_iload_n f dX9_law_142 0 rfl ?_
            refine V_if_ne (tgt := 149) f dX9_law_143 (by decide) (fun _ => ?_) (fun h => absurd h (by decide))
            refine V_aload_n f dX9_law_149 1 rfl ?_
            refine V_getR f dX9_law_150 lf_9_67 rfl zm_0 rfl ?_
            refine V_aload_n f dX9_law_153 1 rfl ?_
            refine V_getE (x := M 0 31) f dX9_law_154 lf_9_188 rfl zm_0 (LR_Kt hR hk5).2.2.1 ?_
            refine V_dup2 f dX9_law_157 rfl rfl ?_
            refine V_ialdE (x := Mx5 18 (Int32.toNatClampNeg (M 0 31))) f dX9_law_158 zm_18 (sl4 hl).1 rfl ?_
            refine V_iconst (v := 1) f dX9_law_159 (by decide) ?_
            refine V_iadd f dX9_law_160 ?_
            refine V_iast f dX9_law_161 zm_18 (sl4 hl).1 ?_
            refine V_aload_n f dX9_law_162 1 rfl ?_
            refine V_cVp (As := []) (rest := []) f dX9_law_163 lk_X9_129 ml_X9_129 ins_X9_blanks sel_X9_blanks zm_0 (by decide) rfl (c3_X9_blanks _ _ _ _ ad (up2 Mx5 18 (Int32.toNatClampNeg (M 0 31)) ((Mx5 18 (Int32.toNatClampNeg (M 0 31))) + 1)) ((Kt_refl (P := sP) (LR_inc (LR_Kt hR hk5) (lt16 hR.2.2.2 c4)).1).1)) rfl (Nat.le_of_ble_eq_true rfl) rfl ⟨by decide, by decide⟩ ⟨Nat.zero_le _, Nat.zero_le _⟩ rfl rfl (fun v7 Mx7 hp7 => ?_)
            obtain ⟨rfl, hk7⟩ := hp7
            show V K ad 0 0 ZM Mx7 166 [(2, .int 1), (0, .ref (ad 0)), (1, .int a)] []
            refine V_goto (tgt := 83) f dX9_law_166 (by decide) ?_
            exact ih (c + 1) _ (by omega) (LR_Kt (LR_inc (LR_Kt hR hk5) (lt16 hR.2.2.2 c4)) (b_s hk7))
  have copy : ¬ (s_X9_isIn M a 0 (M 0 27)) = 0 → ¬ (M 0 31) = 8 → ∀ (n : Nat) (x : Int32) (M1 : MT), 0 ≤ x.toInt → x.toInt + (n : Nat) = 1000 → KC M M1 → V K ad 0 0 ZM M1 29 [(2, .int x), (0, .ref (ad 0)), (1, .int a)] [] := by
    intro w1 w2 n
    have hA := aN hS w1
    have hl := l7 hS w2
    induction n using Nat.strongRecOn with
    | ind n ih =>
      intro x M1 x0 hx hC
      refine V_iload_n f dX9_law_29 0 rfl ?_
      refine V_iload_n f dX9_law_30 2 rfl ?_
      refine V_icmp_ge (tgt := 52) f dX9_law_31 (by decide) (fun c8 => ?_) (fun c8 => ?_)
      · refine V_aload_n f dX9_law_52 1 rfl ?_
        refine V_iload_n f dX9_law_53 2 rfl ?_
        refine V_putI f dX9_law_54 lf_9_126 lp_9_28 rfl rfl rfl rfl zm_0 ?_
        refine V_aload_n f dX9_law_57 1 rfl ?_
        refine V_iconst (v := 0) f dX9_law_58 (by decide) ?_
        refine V_putI f dX9_law_59 lf_9_116 lp_9_27 rfl rfl rfl rfl zm_0 ?_
        refine V_aload_n f dX9_law_62 1 rfl ?_
        refine V_iconst (v := 0) f dX9_law_63 (by decide) ?_
        refine V_putI f dX9_law_64 lf_9_123 lp_9_29 rfl rfl rfl rfl zm_0 ?_
        refine V_aload_n f dX9_law_67 1 rfl ?_
        refine V_getR f dX9_law_68 lf_9_67 rfl zm_0 rfl ?_
        refine V_aload_n f dX9_law_71 1 rfl ?_
        refine V_getE (x := M 0 31) f dX9_law_72 lf_9_188 rfl zm_0 (up_k (by decide) (up_k (by decide) (up_k (by decide) (congrFun (hC 0 (by decide)) 31)))) ?_
        refine V_iconst (v := 0) f dX9_law_75 (by decide) ?_
        refine V_iast f dX9_law_76 zm_18 (sl4 hl).1 ?_
        refine V_iconst (v := 1) f dX9_law_77 (by decide) ?_
        refine V_istore_n f dX9_law_78 rfl (by decide) rfl ?_
        refine V_aload_n f dX9_law_79 1 rfl ?_
        refine V_cVp (As := []) (rest := []) f dX9_law_80 lk_X9_129 ml_X9_129 ins_X9_blanks sel_X9_blanks zm_0 (by decide) rfl (c3_X9_blanks _ _ _ _ ad (up2 (up2 (up2 (up2 M1 0 28 a) 0 27 0) 0 29 0) 18 (Int32.toNatClampNeg (M 0 31)) 0) ((Kt_refl (P := sP) (law_par hS hC hA _)).1)) rfl (Nat.le_of_ble_eq_true rfl) rfl ⟨by decide, by decide⟩ ⟨Nat.zero_le _, Nat.zero_le _⟩ rfl rfl (fun v9 Mx9 hp9 => ?_)
        obtain ⟨rfl, hk9⟩ := hp9
        show V K ad 0 0 ZM Mx9 83 [(2, .int 1), (0, .ref (ad 0)), (1, .int a)] []
        exact loop w1 w2 17 0 _ rfl (LR_start hS hC hA hk9)
      · refine V_aload_n f dX9_law_34 1 rfl ?_
        refine V_getR f dX9_law_35 lf_9_60 rfl zm_0 rfl ?_
        refine V_iload_n f dX9_law_38 0 rfl ?_
        refine V_aload_n f dX9_law_39 1 rfl ?_
        refine V_getR f dX9_law_40 lf_9_56 rfl zm_0 rfl ?_
        refine V_iload_n f dX9_law_43 0 rfl ?_
        refine V_bald f dX9_law_44 zm_16 (vinN x0 c8 (n := 500) hA.2) ?_
        refine V_bast f dX9_law_45 zm_17 (vinN x0 c8 (n := 500) hA.2) ?_
        refine V_iinc (v := x + 1) f dX9_law_46 0 rfl rfl (by decide) rfl ?_
        refine V_goto (tgt := 29) f dX9_law_49 (by decide) ?_
        obtain ⟨k9, e9, y0, y1⟩ := lo_inc x0 hx c8 (by omega)
        exact ih k9 (by omega) (x + 1) _ y0 y1 (KC_up hC _ _)
  refine V_iload_n f dX9_law_0 1 rfl ?_
  refine V_iconst (v := 0) f dX9_law_1 (by decide) ?_
  refine V_aload_n f dX9_law_2 0 rfl ?_
  refine V_getE (x := M 0 27) f dX9_law_3 lf_9_116 rfl zm_0 rfl ?_
  refine V_cSi (As := [.int a, .int 0, .int (M 0 27)]) (rest := []) f dX9_law_6 lk_X9_109 ml_X9_109 sta_X9_isIn (c_X9_isIn (kl K) (kD K) (ky K) (kX K) ad M a 0 (M 0 27)) rfl (Nat.le_of_ble_eq_true rfl) rfl ⟨by decide, by decide⟩ ⟨Nat.zero_le _, Nat.zero_le _⟩ rfl rfl ?_
  refine V_if_ne (tgt := 15) f dX9_law_9 (by decide) (fun c1 => ?_) (fun c1 => ?_)
  · refine V_aload_n f dX9_law_15 0 rfl ?_
    refine V_getE (x := M 0 31) f dX9_law_16 lf_9_188 rfl zm_0 rfl ?_
    refine V_bipush (v := 8) f dX9_law_19 (by decide) ?_
    refine V_icmp_ne (tgt := 27) f dX9_law_21 (by decide) (fun c2 => ?_) (fun c2 => ?_)
    · refine V_iconst (v := 0) f dX9_law_27 (by decide) ?_
      refine V_istore_n f dX9_law_28 rfl (by decide) rfl ?_
      exact copy c1 c2 1000 0 M (by decide) (by decide) (fun _ _ => rfl)
    · refine V_bipush (v := (-3)) f dX9_law_24 (by decide) ?_
      exact V_iret f q dX9_law_26 rfl (Nat.zero_le _) (Nat.zero_le _) ⟨rfl, rfl, ⟨(-3), rfl⟩, KL_refl hS⟩
  · refine V_bipush (v := (-2)) f dX9_law_12 (by decide) ?_
    exact V_iret f q dX9_law_14 rfl (Nat.zero_le _) (Nat.zero_le _) ⟨rfl, rfl, ⟨(-2), rfl⟩, KL_refl hS⟩
def FM (M : MT) (c : Nat) : Prop := 0 ≤ (M 0 27).toInt ∧ (M 0 27).toInt + (c : Int) ≤ 500
theorem FM_1 {M : MT} {c : Nat} (h : FM M (c + 4)) : (M 0 27).toInt ≤ 496 := by have := h.2; omega
theorem four_len {M : MT} {a : Int32} (h0 : 0 ≤ (M 0 27).toInt) (h1 : (M 0 27).toInt ≤ 496) : (s_X9_four M a 0 27).toInt = (M 0 27).toInt + 4 := by
  unfold s_X9_four
  rw [up_s]
  exact add4 h0 h1
theorem four_fr (M : MT) (a : Int32) {i : Nat} (h1 : ¬ i = 0) (h2 : ¬ i = 16) : s_X9_four M a i = M i := by
  unfold s_X9_four
  rw [upo h1, upo h2, upo h1, upo h2, upo h1, upo h2, upo h1, upo h2]
theorem upc {M : MT} {i j k k' : Nat} {v : Int32} (h : j ≠ i) : up2 M i k v j k' = M j k' := by rw [upo h]
theorem four_0 (M : MT) (a : Int32) {k : Nat} (h1 : k ≠ 27) : s_X9_four M a 0 k = M 0 k := by
  unfold s_X9_four
  rw [up_k h1 rfl, upc (by decide), up_k h1 rfl, upc (by decide), up_k h1 rfl, upc (by decide), up_k h1 rfl, upc (by decide)]
theorem FM_four {M : MT} {a : Int32} {c : Nat} (h : FM M (c + 4)) : FM (s_X9_four M a) c := by
  have e := four_len (a := a) h.1 (FM_1 h)
  have := h.2
  have := h.1
  unfold FM
  rw [e]; omega
theorem fm20_of {M : MT} (hS : InvS M) (h : ((M 0 27) + 20) ≤ 500) : FM M 20 := by
  have h3 := hS.2.2.1
  have := i32_add h3.1 (by omega) (k := 20) (by decide) (by decide)
  have e4 : (20 : Int32).toInt = 20 := by decide
  have e5 : (500 : Int32).toInt = 500 := by decide
  rw [Int32.le_iff_toInt_le] at h
  unfold FM; omega
def s3_X9_feed (M : MT) (a : Int32) (b : Int32) (e : Int32) (h : Int32) (g : Int32) : Int32 × MT := (if ((M 0 27) + 20) ≤ 500 then ((s_X9_four (s_X9_four (s_X9_four (s_X9_four (s_X9_four M a) b) e) h) g) 0 27, (s_X9_four (s_X9_four (s_X9_four (s_X9_four (s_X9_four M a) b) e) h) g)) else ((-1), M))
set_option maxHeartbeats 4000000 in
set_option maxRecDepth 100000 in
theorem c3_X9_feed (l : Launch) (D : va_G) (cy : Nat → ClassId) (X : va_W) (ad : Nat → Nat) (M : MT) (a : Int32) (b : Int32) (e : Int32) (h : Int32) (g : Int32) (hS : InvS M) : CtI l yX9_feed cX9_feed 6 .int (rK 1) D cy X ad ZM M [.ref (ad 0), .int a, .int b, .int e, .int h, .int g] (s3_X9_feed M a b e h g).1 (s3_X9_feed M a b e h g).2 := by
  refine Ctr.of (by decide +kernel) (Nat.le_of_ble_eq_true rfl) ?_
  intro K f q hnm hl0 hD0 hy0 hX0
  show V K ad 0 0 ZM M 0 [(0, .ref (ad 0)), (1, .int a), (2, .int b), (3, .int e), (4, .int h), (5, .int g)] []
  refine V_aload_n f dX9_feed_0 0 rfl ?_
  refine V_getE (x := M 0 27) f dX9_feed_1 lf_9_116 rfl zm_0 rfl ?_
  refine V_bipush (v := 20) f dX9_feed_4 (by decide) ?_
  refine V_iadd f dX9_feed_6 ?_
  refine V_sipush (v := 500) f dX9_feed_7 (by decide) ?_
  refine V_icmp_le (tgt := 15) f dX9_feed_10 (by decide) (fun c1 => ?_) (fun c1 => ?_)
  · refine V_aload_n f dX9_feed_15 0 rfl ?_
    refine V_iload_n f dX9_feed_16 1 rfl ?_
    refine V_cVv (As := [.int a]) (rest := []) f dX9_feed_17 lk_X9_119 ml_X9_119 ins_X9_four sel_X9_four zm_0 (by decide) rfl (c_X9_four (kl K) (kD K) (ky K) (kX K) ad M a (fm20_of hS c1).1 (FM_1 (fm20_of hS c1))) rfl (Nat.le_of_ble_eq_true rfl) rfl ⟨by decide, by decide⟩ ⟨Nat.zero_le _, Nat.zero_le _⟩ rfl rfl ?_
    refine V_aload_n f dX9_feed_20 0 rfl ?_
    refine V_iload_n f dX9_feed_21 2 rfl ?_
    refine V_cVv (As := [.int b]) (rest := []) f dX9_feed_22 lk_X9_119 ml_X9_119 ins_X9_four sel_X9_four zm_0 (by decide) rfl (c_X9_four (kl K) (kD K) (ky K) (kX K) ad (s_X9_four M a) b (FM_four (fm20_of hS c1)).1 (FM_1 (FM_four (fm20_of hS c1)))) rfl (Nat.le_of_ble_eq_true rfl) rfl ⟨by decide, by decide⟩ ⟨Nat.zero_le _, Nat.zero_le _⟩ rfl rfl ?_
    refine V_aload_n f dX9_feed_25 0 rfl ?_
    refine V_iload_n f dX9_feed_26 3 rfl ?_
    refine V_cVv (As := [.int e]) (rest := []) f dX9_feed_27 lk_X9_119 ml_X9_119 ins_X9_four sel_X9_four zm_0 (by decide) rfl (c_X9_four (kl K) (kD K) (ky K) (kX K) ad (s_X9_four (s_X9_four M a) b) e (FM_four (FM_four (fm20_of hS c1))).1 (FM_1 (FM_four (FM_four (fm20_of hS c1))))) rfl (Nat.le_of_ble_eq_true rfl) rfl ⟨by decide, by decide⟩ ⟨Nat.zero_le _, Nat.zero_le _⟩ rfl rfl ?_
    refine V_aload_n f dX9_feed_30 0 rfl ?_
    refine V_iload f dX9_feed_31 4 rfl ?_
    refine V_cVv (As := [.int h]) (rest := []) f dX9_feed_33 lk_X9_119 ml_X9_119 ins_X9_four sel_X9_four zm_0 (by decide) rfl (c_X9_four (kl K) (kD K) (ky K) (kX K) ad (s_X9_four (s_X9_four (s_X9_four M a) b) e) h (FM_four (FM_four (FM_four (fm20_of hS c1)))).1 (FM_1 (FM_four (FM_four (FM_four (fm20_of hS c1)))))) rfl (Nat.le_of_ble_eq_true rfl) rfl ⟨by decide, by decide⟩ ⟨Nat.zero_le _, Nat.zero_le _⟩ rfl rfl ?_
    refine V_aload_n f dX9_feed_36 0 rfl ?_
    refine V_iload f dX9_feed_37 5 rfl ?_
    refine V_cVv (As := [.int g]) (rest := []) f dX9_feed_39 lk_X9_119 ml_X9_119 ins_X9_four sel_X9_four zm_0 (by decide) rfl (c_X9_four (kl K) (kD K) (ky K) (kX K) ad (s_X9_four (s_X9_four (s_X9_four (s_X9_four M a) b) e) h) g (FM_four (FM_four (FM_four (FM_four (fm20_of hS c1))))).1 (FM_1 (FM_four (FM_four (FM_four (FM_four (fm20_of hS c1))))))) rfl (Nat.le_of_ble_eq_true rfl) rfl ⟨by decide, by decide⟩ ⟨Nat.zero_le _, Nat.zero_le _⟩ rfl rfl ?_
    refine V_aload_n f dX9_feed_42 0 rfl ?_
    refine V_getE (x := (s_X9_four (s_X9_four (s_X9_four (s_X9_four (s_X9_four M a) b) e) h) g) 0 27) f dX9_feed_43 lf_9_116 rfl zm_0 rfl ?_
    exact V_iret f q dX9_feed_46 rfl (Nat.zero_le _) (Nat.zero_le _) ⟨rfl, rfl, (by simp only [s3_X9_feed, if_pos c1]), (by simp only [s3_X9_feed, if_pos c1])⟩
  · refine V_iconst (v := (-1)) f dX9_feed_13 (by decide) ?_
    exact V_iret f q dX9_feed_14 rfl (Nat.zero_le _) (Nat.zero_le _) ⟨rfl, rfl, (by simp only [s3_X9_feed, if_neg c1]), (by simp only [s3_X9_feed, if_neg c1])⟩
theorem mfeed_0 {M : MT} (a b e h g : Int32) (q : ¬ ((M 0 27) + 20) ≤ 500) : s3_X9_feed M a b e h g = ((-1), M) := by unfold s3_X9_feed; rw [if_neg q]
theorem mfeed_1 {M : MT} (a b e h g : Int32) (q : ((M 0 27) + 20) ≤ 500) : s3_X9_feed M a b e h g = ((s_X9_four (s_X9_four (s_X9_four (s_X9_four (s_X9_four M a) b) e) h) g) 0 27, (s_X9_four (s_X9_four (s_X9_four (s_X9_four (s_X9_four M a) b) e) h) g)) := by unfold s3_X9_feed; rw [if_pos q]
theorem mfeed_KL {M : MT} (hS : InvS M) (a b e h g : Int32) : KL M (s3_X9_feed M a b e h g).2 := by
  by_cases q : ((M 0 27) + 20) ≤ 500
  · rw [sn_of (mfeed_1 a b e h g q)]
    have t := FM_four (a := g) (c := 0) (FM_four (a := h) (FM_four (a := e) (FM_four (a := b) (FM_four (a := a) (fm20_of hS q)))))
    have f0 : ∀ k, k ≠ 27 → (s_X9_four (s_X9_four (s_X9_four (s_X9_four (s_X9_four M a) b) e) h) g) 0 k = M 0 k := fun k hk => by rw [four_0 _ _ hk, four_0 _ _ hk, four_0 _ _ hk, four_0 _ _ hk, four_0 _ _ hk]
    have fi : ∀ i, ¬ i = 0 → ¬ i = 16 → (s_X9_four (s_X9_four (s_X9_four (s_X9_four (s_X9_four M a) b) e) h) g) i = M i := fun i h1 h2 => by rw [four_fr _ _ h1 h2, four_fr _ _ h1 h2, four_fr _ _ h1 h2, four_fr _ _ h1 h2, four_fr _ _ h1 h2]
    refine ⟨?_, fun k hk => f0 k (by omega), fun i h1 h2 => fi i (by omega) (by omega)⟩
    obtain ⟨h1, h2, h3, h4, h5⟩ := hS
    exact ⟨by rw [f0 9 (by decide)]; exact h1, by rw [f0 31 (by decide)]; exact h2, ⟨t.1, by have := t.2; omega⟩, by rw [fi 18 (by decide) (by decide)]; exact h4, by rw [fi 25 (by decide) (by decide)]; exact h5⟩
  · rw [sn_of (mfeed_0 a b e h g q)]; exact KL_refl hS

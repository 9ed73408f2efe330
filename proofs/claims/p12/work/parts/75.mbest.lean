/-- the laying's rows from place q on are BAYS -/
def LG (q n : Nat) (M1 : MT) : Prop := ∀ j, q ≤ j → j < n → 0 ≤ (M1 29 j).toInt ∧ (M1 29 j).toInt ≤ 15
theorem LG_put {q n : Nat} {v : Int32} {M1 : MT} (h : LG (q + 1) n M1) (hv : 0 ≤ v.toInt ∧ v.toInt ≤ 15) : LG q n (up2 M1 29 q v) := by
  intro j h1 h2
  by_cases e : j = q
  · subst e
    rw [up_s]
    exact hv
  · rw [up_k e rfl]
    exact h j (by omega) h2
theorem Kf_G3 {M M1 : MT} (hS : InvS M) (h : G3 M M1) : Kf M M1 := by
  have e : ∀ i, i < 29 → M1 i = M i := fun i hi => h i (by omega) (by omega) (by omega)
  refine ⟨?_, by rw [e 0 (by decide)], by rw [e 0 (by decide)], by rw [e 0 (by decide)], by rw [e 0 (by decide)], by rw [e 0 (by decide)], by rw [e 0 (by decide)], fun i hi => e i (by unfold eP at hi; omega)⟩
  unfold InvS
  rw [e 0 (by decide), e 18 (by decide), e 25 (by decide)]
  exact hS
theorem Km_G3 {wb sb : Int} {M M1 : MT} (hS : InvS M) (hW : InvW wb sb M) (h : G3 M M1) : Km wb sb M M1 := by
  have e : ∀ i, i < 29 → M1 i = M i := fun i hi => h i (by omega) (by omega) (by omega)
  refine ⟨Kf_G3 hS h, ?_⟩
  unfold InvW
  rw [e 0 (by decide), e 8 (by decide), e 2 (by decide), e 3 (by decide)]
  exact hW
set_option maxHeartbeats 4000000 in
set_option maxRecDepth 100000 in
theorem c3_X9_layingOf (l : Launch) (D : va_G) (cy : Nat → ClassId) (X : va_W) (ad : Nat → Nat) (M : MT) (a : Int32) (hd : 1 ≤ a.toInt ∧ a.toInt ≤ 3) (hy : ∀ j, j < a.toNatClampNeg → 0 ≤ (M 29 j).toInt ∧ (M 29 j).toInt ≤ 15) : CtP l yX9_layingOf cX9_layingOf 6 (some .int) (rK 1) D cy X ad ZM M [.ref (ad 0), .int a] (fun v M1 => (∃ r : Int32, v = some (.int r)) ∧ G1 M M1) := by
  refine Ctr.of (by decide +kernel) (Nat.le_of_ble_eq_true rfl) ?_
  intro K f q hnm hl0 hD0 hy0 hX0
  show V K ad 0 0 ZM M 0 [(0, .ref (ad 0)), (1, .int a)] []
  have days : ∀ (n : Nat) (i y t : Int32) (M1 : MT), 0 ≤ i.toInt → i.toInt + (n : Nat) = a.toInt → G1 M M1 → V K ad 0 0 ZM M1 31 [(4, .int i), (3, .int y), (2, .int t), (0, .ref (ad 0)), (1, .int a)] [] := by
    intro n
    induction n with
    | zero =>
      intro i y t M1 i0 hi hG
      refine V_iload f dX9_layingOf_31 0 rfl ?_
      refine V_iload_n f dX9_layingOf_33 4 rfl ?_
      refine V_icmp_ge (tgt := 128) f dX9_layingOf_34 (by decide) (fun _ => ?_) (fun h => absurd (lend hi) h)
      refine V_iload_n f dX9_layingOf_128 2 rfl ?_
      exact V_iret f q dX9_layingOf_129 rfl (Nat.zero_le _) (Nat.zero_le _) ⟨rfl, rfl, ⟨t, rfl⟩, hG⟩
    | succ n ih =>
      intro i z0 t0 M1 i0 hi hG
      have inner : ∀ (q : Nat) (b y t : Int32) (M2 : MT), 0 ≤ b.toInt → b.toInt + (q : Nat) = 16 → G1 M M2 → V K ad 0 0 ZM M2 71 [(5, .int b), (3, .int y), (2, .int t), (4, .int i), (0, .ref (ad 0)), (1, .int a)] [] := by
        intro q9
        induction q9 with
        | zero =>
          intro b y t M2 b0 hb hG
          refine V_iload f dX9_layingOf_71 0 rfl ?_
          refine V_bipush (v := 15) f dX9_layingOf_73 (by decide) ?_
          refine V_iload_n f dX9_layingOf_75 1 rfl ?_
          refine V_iconst (v := 1) f dX9_layingOf_76 (by decide) ?_
          refine V_iadd f dX9_layingOf_77 ?_
          refine V_mmin f dX9_layingOf_78 ml_X9_243 ma_min ma_ini mc_min (by decide) (Nat.le_of_ble_eq_true rfl) (Nat.zero_le _) (Nat.zero_le _) ?_
          refine V_icmp_gt (tgt := 122) f dX9_layingOf_81 (by decide) (fun _ => ?_) (fun h => absurd (fw1 hb) h)
          refine V_iinc (v := i + 1) f dX9_layingOf_122 3 rfl rfl (by decide) rfl ?_
          refine V_goto (tgt := 31) f dX9_layingOf_125 (by decide) ?_
          refine V.sub [0, 2, 3, 4, 5] rfl ?_
          exact ih (i + 1) y t M2 (linc i0 hi (by omega)).1 (linc i0 hi (by omega)).2.1 hG
        | succ q9 ih2 =>
          intro b y t M2 b0 hb hG
          refine V_iload f dX9_layingOf_71 0 rfl ?_
          refine V_bipush (v := 15) f dX9_layingOf_73 (by decide) ?_
          refine V_iload_n f dX9_layingOf_75 1 rfl ?_
          refine V_iconst (v := 1) f dX9_layingOf_76 (by decide) ?_
          refine V_iadd f dX9_layingOf_77 ?_
          refine V_mmin f dX9_layingOf_78 ml_X9_243 ma_min ma_ini mc_min (by decide) (Nat.le_of_ble_eq_true rfl) (Nat.zero_le _) (Nat.zero_le _) ?_
          refine V_icmp_gt (tgt := 122) f dX9_layingOf_81 (by decide) (fun c1 => ?_) (fun c1 => ?_)
          · refine V_iinc (v := i + 1) f dX9_layingOf_122 3 rfl rfl (by decide) rfl ?_
            refine V_goto (tgt := 31) f dX9_layingOf_125 (by decide) ?_
            refine V.sub [0, 2, 3, 4, 5] rfl ?_
            exact ih (i + 1) y t M2 (linc i0 hi (by omega)).1 (linc i0 hi (by omega)).2.1 hG
          · refine V_iload_n f dX9_layingOf_84 2 rfl ?_
            refine V_aload_n f dX9_layingOf_85 4 rfl ?_
            refine V_getR f dX9_layingOf_86 lf_9_106 rfl zm_0 rfl ?_
            refine V_iload f dX9_layingOf_89 0 rfl ?_
            refine V_zald f dX9_layingOf_91 zm_31 (fw2 b0 c1) ?_
            refine V_if_eq (tgt := 99) f dX9_layingOf_92 (by decide) (fun c2 => ?_) (fun c2 => ?_)
            · refine V_aload_n f dX9_layingOf_99 4 rfl ?_
              refine V_getR f dX9_layingOf_100 lf_9_16 rfl zm_0 rfl ?_
              refine V_iload f dX9_layingOf_103 0 rfl ?_
              refine V_ialdE (x := M2 3 (Int32.toNatClampNeg b)) f dX9_layingOf_105 zm_3 (fw2 b0 c1) rfl ?_
              refine V_iadd f dX9_layingOf_106 ?_
              refine V_istore_n f dX9_layingOf_107 rfl (by decide) rfl ?_
              refine V_aload_n f dX9_layingOf_108 4 rfl ?_
              refine V_getR f dX9_layingOf_109 lf_9_106 rfl zm_0 rfl ?_
              refine V_iload f dX9_layingOf_112 1 rfl ?_
              refine V_iconst (v := 1) f dX9_layingOf_114 (by decide) ?_
              refine V_zast f dX9_layingOf_115 zm_31 (fw2 b0 c1) ?_
              refine V_iinc (v := b + 1) f dX9_layingOf_116 1 rfl rfl (by decide) rfl ?_
              refine V_goto (tgt := 71) f dX9_layingOf_119 (by decide) ?_
              refine V.sub [0, 2, 1, 3, 4, 5] rfl ?_
              exact ih2 (b + 1) y _ _ (fw3 b0 hb).1 (fw3 b0 hb).2 (G1_put hG _ _)
            · refine V_iconst (v := 0) f dX9_layingOf_95 (by decide) ?_
              refine V_goto (tgt := 106) f dX9_layingOf_96 (by decide) ?_
              refine V_iadd f dX9_layingOf_106 ?_
              refine V_istore_n f dX9_layingOf_107 rfl (by decide) rfl ?_
              refine V_aload_n f dX9_layingOf_108 4 rfl ?_
              refine V_getR f dX9_layingOf_109 lf_9_106 rfl zm_0 rfl ?_
              refine V_iload f dX9_layingOf_112 1 rfl ?_
              refine V_iconst (v := 1) f dX9_layingOf_114 (by decide) ?_
              refine V_zast f dX9_layingOf_115 zm_31 (fw2 b0 c1) ?_
              refine V_iinc (v := b + 1) f dX9_layingOf_116 1 rfl rfl (by decide) rfl ?_
              refine V_goto (tgt := 71) f dX9_layingOf_119 (by decide) ?_
              refine V.sub [0, 2, 1, 3, 4, 5] rfl ?_
              exact ih2 (b + 1) y _ _ (fw3 b0 hb).1 (fw3 b0 hb).2 (G1_put hG _ _)
      refine V_iload f dX9_layingOf_31 0 rfl ?_
      refine V_iload_n f dX9_layingOf_33 4 rfl ?_
      refine V_icmp_ge (tgt := 128) f dX9_layingOf_34 (by decide) (fun h => absurd h (lpos hi)) (fun _ => ?_)
      refine V_iload_n f dX9_layingOf_37 2 rfl ?_
      refine V_iconst (v := 5) f dX9_layingOf_38 (by decide) ?_
      refine V_aload_n f dX9_layingOf_39 3 rfl ?_
      refine V_getR f dX9_layingOf_40 lf_9_100 rfl zm_0 rfl ?_
      refine V_iload f dX9_layingOf_43 0 rfl ?_
      refine V_ialdE (x := M 29 (Int32.toNatClampNeg i)) f dX9_layingOf_45 zm_29 (d4i i0 hi hd).1 (congrFun (hG 29 (by decide)) _) ?_
      refine V_iload_n f dX9_layingOf_46 1 rfl ?_
      refine V_isub f dX9_layingOf_47 ?_
      refine V_mabs f dX9_layingOf_48 ml_X9_225 ma_abs ma_ini mc_abs (by decide) (Nat.le_of_ble_eq_true rfl) (Nat.zero_le _) (Nat.zero_le _) ?_
      refine V_imul f dX9_layingOf_51 ?_
      refine V_isub f dX9_layingOf_52 ?_
      refine V_istore_n f dX9_layingOf_53 rfl (by decide) rfl ?_
      refine V_aload_n f dX9_layingOf_54 3 rfl ?_
      refine V_getR f dX9_layingOf_55 lf_9_100 rfl zm_0 rfl ?_
      refine V_iload f dX9_layingOf_58 1 rfl ?_
      refine V_ialdE (x := M 29 (Int32.toNatClampNeg i)) f dX9_layingOf_60 zm_29 (d4i i0 hi hd).1 (congrFun (hG 29 (by decide)) _) ?_
      refine V_istore_n f dX9_layingOf_61 rfl (by decide) rfl ?_
      refine V_iconst (v := 0) f dX9_layingOf_62 (by decide) ?_
      refine V_iload_n f dX9_layingOf_63 0 rfl ?_
      refine V_iconst (v := 1) f dX9_layingOf_64 (by decide) ?_
      refine V_isub f dX9_layingOf_65 ?_
      refine V_mmax f dX9_layingOf_66 ml_X9_216 ma_max ma_ini mc_max (by decide) (Nat.le_of_ble_eq_true rfl) (Nat.zero_le _) (Nat.zero_le _) ?_
      refine V_istore f dX9_layingOf_69 (by decide) rfl ?_
      have hw9 := fw0 (hy _ (d4i i0 hi hd).2)
      exact inner (16 - (if 0 < ((M 29 (Int32.toNatClampNeg i)) - 1) then ((M 29 (Int32.toNatClampNeg i)) - 1) else 0 : Int32).toInt.toNat) _ _ _ M1 hw9.1 (by omega) hG
  have clear : ∀ (q b : Nat) (x : Int32) (M1 : MT), b + q = 16 → x.toInt = b → G1 M M1 → V K ad 0 0 ZM M1 2 [(2, .int x), (0, .ref (ad 0)), (1, .int a)] [] := by
    intro q9
    induction q9 with
    | zero =>
      intro b x M1 hb hx hG
      obtain rfl : b = 16 := by omega
      refine V_iload_n f dX9_layingOf_2 0 rfl ?_
      refine V_bipush (v := 16) f dX9_layingOf_3 (by decide) ?_
      refine V_icmp_ge (tgt := 21) f dX9_layingOf_5 (by decide) (fun _ => ?_) (fun h => absurd (lq_ge hx (y := 16) (n := 16) (by decide) rfl) h)
      refine V_iconst (v := 0) f dX9_layingOf_21 (by decide) ?_
      refine V_istore_n f dX9_layingOf_22 rfl (by decide) rfl ?_
      refine V_aload_n f dX9_layingOf_23 1 rfl ?_
      refine V_getE (x := M 0 1) f dX9_layingOf_24 lf_9_222 rfl zm_0 (congrFun (hG 0 (by decide)) 1) ?_
      refine V_istore_n f dX9_layingOf_27 rfl (by decide) rfl ?_
      refine V_iconst (v := 0) f dX9_layingOf_28 (by decide) ?_
      refine V_istore f dX9_layingOf_29 (by decide) rfl ?_
      exact days a.toInt.toNat 0 _ 0 M1 (by decide) (by have e0 : (0 : Int32).toInt = 0 := (by decide); omega) hG
    | succ q9 ih =>
      intro b x M1 hb hx hG
      obtain ⟨hbl, hin, hnat, hx1⟩ := lq_lt hx hb (by decide)
      refine V_iload_n f dX9_layingOf_2 0 rfl ?_
      refine V_bipush (v := 16) f dX9_layingOf_3 (by decide) ?_
      refine V_icmp_ge (tgt := 21) f dX9_layingOf_5 (by decide) (fun h => absurd h (lq_nge hx (y := 16) (by decide) hb)) (fun _ => ?_)
      refine V_aload_n f dX9_layingOf_8 1 rfl ?_
      refine V_getR f dX9_layingOf_9 lf_9_106 rfl zm_0 rfl ?_
      refine V_iload_n f dX9_layingOf_12 0 rfl ?_
      refine V_iconst (v := 0) f dX9_layingOf_13 (by decide) ?_
      refine V_zast f dX9_layingOf_14 zm_31 hin ?_
      refine V_iinc (v := x + 1) f dX9_layingOf_15 0 rfl rfl (by decide) rfl ?_
      refine V_goto (tgt := 2) f dX9_layingOf_18 (by decide) ?_
      exact ih (b + 1) (x + 1) _ (by omega) hx1 (G1_put hG _ _)
  refine V_iconst (v := 0) f dX9_layingOf_0 (by decide) ?_
  refine V_istore_n f dX9_layingOf_1 rfl (by decide) rfl ?_
  exact clear 16 0 0 M rfl (by decide) (fun _ _ => rfl)
set_option maxHeartbeats 4000000 in
set_option maxRecDepth 100000 in
theorem c3_X9_best (l : Launch) (D : va_G) (cy : Nat → ClassId) (X : va_W) (ad : Nat → Nat) (M : MT) (a : Int32) (b : Int32) : CtP l yX9_best cX9_best 9 (some .int) (rK 2) D cy X ad ZM M [.ref (ad 0), .int a, .int b] (fun v M1 => (∃ r : Int32, v = some (.int r)) ∧ G3 M M1) := by
  refine Ctr.of (by decide +kernel) (Nat.le_of_ble_eq_true rfl) ?_
  intro K f q hnm hl0 hD0 hy0 hX0
  show V K ad 0 0 ZM M 0 [(0, .ref (ad 0)), (1, .int a), (2, .int b)] []
  have main : ¬ (s_X9_isIn M a 1 3) = 0 → ¬ (s_X9_isIn M b (-1) (a - 1)) = 0 → ∀ W : Int32, 1 ≤ W.toInt → W.toInt ≤ 4096 → V K ad 0 0 ZM M 46 [(0, .ref (ad 0)), (1, .int a), (2, .int b)] [.int W] := by
    intro w1 w2 W hW1 hW2
    have hd : 1 ≤ a.toInt ∧ a.toInt ≤ 3 := d13 (M := M) w1
    have han : a.toInt = (a.toNatClampNeg : Int) := by show a.toInt = ((a.toInt.toNat : Nat) : Int); omega
    have outer : ∀ (n : Nat) (x p : Int32) (M1 : MT), 0 ≤ x.toInt → x.toInt + (n : Nat) = W.toInt → G3 M M1 → V K ad 0 0 ZM M1 53 [(5, .int x), (4, .int p), (3, .int W), (0, .ref (ad 0)), (1, .int a), (2, .int b)] [] := by
      intro n
      induction n with
      | zero =>
        intro x p M1 x0 hx hG
        rcases Decidable.em (b = -1) with eb | eb
        · refine V_iload f dX9_best_53 0 rfl ?_
          refine V_iload_n f dX9_best_55 2 rfl ?_
          refine V_icmp_ge (tgt := 159) f dX9_best_56 (by decide) (fun _ => ?_) (fun h => absurd (lend hx) h)
          refine V_iload_n f dX9_best_159 5 rfl ?_
          refine V_iconst (v := (-1)) f dX9_best_160 (by decide) ?_
          refine V_icmp_ne (tgt := 169) f dX9_best_161 (by decide) (fun h => absurd eb h) (fun _ => ?_)
          refine V_iload f dX9_best_164 1 rfl ?_
          refine V_goto (tgt := 175) f dX9_best_166 (by decide) ?_
          exact V_iret f q dX9_best_175 rfl (Nat.zero_le _) (Nat.zero_le _) ⟨rfl, rfl, ⟨_, rfl⟩, hG⟩
        · have kb9 := kd3 hd (kd (M := M) w2 hd eb)
          refine V_iload f dX9_best_53 0 rfl ?_
          refine V_iload_n f dX9_best_55 2 rfl ?_
          refine V_icmp_ge (tgt := 159) f dX9_best_56 (by decide) (fun _ => ?_) (fun h => absurd (lend hx) h)
          refine V_iload_n f dX9_best_159 5 rfl ?_
          refine V_iconst (v := (-1)) f dX9_best_160 (by decide) ?_
          refine V_icmp_ne (tgt := 169) f dX9_best_161 (by decide) (fun _ => ?_) (fun h => absurd h eb)
          refine V_aload_n f dX9_best_169 3 rfl ?_
          refine V_getR f dX9_best_170 lf_9_103 rfl zm_0 rfl ?_
          refine V_iload_n f dX9_best_173 5 rfl ?_
          refine V_ialdE (x := M1 30 (Int32.toNatClampNeg b)) f dX9_best_174 zm_30 kb9.1 rfl ?_
          exact V_iret f q dX9_best_175 rfl (Nat.zero_le _) (Nat.zero_le _) ⟨rfl, rfl, ⟨_, rfl⟩, hG⟩
      | succ n ih =>
        intro x p M1 x0 hx hG
        have copy : ∀ (q c : Nat) (z p y u : Int32) (M2 : MT), c + q = a.toNatClampNeg → z.toInt = (c : Int) → G3 M M2 → V K ad 0 0 ZM M2 127 [(8, .int z), (4, .int p), (7, .int y), (6, .int u), (5, .int x), (3, .int W), (0, .ref (ad 0)), (1, .int a), (2, .int b)] [] := by
          intro q9
          induction q9 with
          | zero =>
            intro c z p y u M2 hc hzc hG2
            obtain rfl : c = a.toNatClampNeg := by omega
            refine V_iload f dX9_best_127 0 rfl ?_
            refine V_iload_n f dX9_best_129 7 rfl ?_
            refine V_icmp_ge (tgt := 153) f dX9_best_130 (by decide) (fun _ => ?_) (fun h => absurd (by rw [Int32.le_iff_toInt_le]; omega) h)
            refine V_iinc (v := x + 1) f dX9_best_153 4 rfl rfl (by decide) rfl ?_
            refine V_goto (tgt := 53) f dX9_best_156 (by decide) ?_
            refine V.sub [0, 2, 5, 6, 7, 8] rfl ?_
            exact ih (x + 1) _ M2 (linc x0 hx (by omega)).1 (linc x0 hx (by omega)).2.1 hG2
          | succ q9 ih2 =>
            intro c z p y u M2 hc hzc hG2
            have hz9 : vp_in z 3 := by rw [vp_in_iff]; omega
            have hz1 : (z + 1).toInt = ((c + 1 : Nat) : Int) := by have e9 := k1 (a := z) (by omega); omega
            refine V_iload f dX9_best_127 0 rfl ?_
            refine V_iload_n f dX9_best_129 7 rfl ?_
            refine V_icmp_ge (tgt := 153) f dX9_best_130 (by decide) (fun h => absurd h (by rw [Int32.le_iff_toInt_le]; omega)) (fun _ => ?_)
            refine V_aload_n f dX9_best_133 6 rfl ?_
            refine V_getR f dX9_best_134 lf_9_103 rfl zm_0 rfl ?_
            refine V_iload f dX9_best_137 0 rfl ?_
            refine V_aload_n f dX9_best_139 6 rfl ?_
            refine V_getR f dX9_best_140 lf_9_100 rfl zm_0 rfl ?_
            refine V_iload f dX9_best_143 0 rfl ?_
            refine V_ialdE (x := M2 29 (Int32.toNatClampNeg z)) f dX9_best_145 zm_29 hz9 rfl ?_
            refine V_iast f dX9_best_146 zm_30 hz9 ?_
            refine V_iinc (v := z + 1) f dX9_best_147 0 rfl rfl (by decide) rfl ?_
            refine V_goto (tgt := 127) f dX9_best_150 (by decide) ?_
            exact ih2 (c + 1) (z + 1) p y u _ (by omega) hz1 (G3_30 hG2 _ _)
        have after : ∀ (y u r : Int32) (M2 : MT), G3 M M2 → V K ad 0 0 ZM M2 103 [(7, .int y), (6, .int u), (5, .int x), (4, .int p), (3, .int W), (0, .ref (ad 0)), (1, .int a), (2, .int b)] [.int r] := by
          intro y u r M2 hG2
          refine V_istore f dX9_best_103 (by decide) rfl ?_
          refine V_iload f dX9_best_105 2 rfl ?_
          refine V_if_le (tgt := 120) f dX9_best_107 (by decide) (fun c5 => ?_) (fun c5 => ?_)
          · refine V_iload f dX9_best_120 0 rfl ?_
            refine V_istore f dX9_best_122 (by decide) rfl ?_
            refine V_iconst (v := 0) f dX9_best_124 (by decide) ?_
            refine V_istore f dX9_best_125 (by decide) rfl ?_
            exact copy a.toNatClampNeg 0 0 _ _ _ M2 (by omega) (by decide) hG2
          · refine V_iload f dX9_best_110 0 rfl ?_
            refine V_iload f dX9_best_112 3 rfl ?_
            refine V_icmp_gt (tgt := 120) f dX9_best_114 (by decide) (fun c6 => ?_) (fun c6 => ?_)
            · refine V_iload f dX9_best_120 0 rfl ?_
              refine V_istore f dX9_best_122 (by decide) rfl ?_
              refine V_iconst (v := 0) f dX9_best_124 (by decide) ?_
              refine V_istore f dX9_best_125 (by decide) rfl ?_
              exact copy a.toNatClampNeg 0 0 _ _ _ M2 (by omega) (by decide) hG2
            · refine V_goto (tgt := 153) f dX9_best_117 (by decide) ?_
              refine V_iinc (v := x + 1) f dX9_best_153 2 rfl rfl (by decide) rfl ?_
              refine V_goto (tgt := 53) f dX9_best_156 (by decide) ?_
              refine V.sub [0, 3, 4, 5, 6, 7] rfl ?_
              exact ih (x + 1) _ M2 (linc x0 hx (by omega)).1 (linc x0 hx (by omega)).2.1 hG2
        have digits : ∀ (q : Nat) (y u : Int32) (M2 : MT), q ≤ a.toNatClampNeg → y.toInt = (q : Int) - 1 → (0 ≤ u.toInt ∧ u.toInt ≤ 4096) → G3 M M2 → LG q a.toNatClampNeg M2 → V K ad 0 0 ZM M2 68 [(7, .int y), (6, .int u), (5, .int x), (4, .int p), (3, .int W), (0, .ref (ad 0)), (1, .int a), (2, .int b)] [] := by
          have ha3 : a.toNatClampNeg ≤ 3 := by omega
          intro q9
          induction q9 with
          | zero =>
            intro y u M2 hq hy hu hG2 hL2
            have hb9 := bx (n := 0) hy (by omega)
            refine V_iload f dX9_best_68 0 rfl ?_
            refine V_if_lt (tgt := 98) f dX9_best_70 (by decide) (fun _ => ?_) (fun h => absurd (hb9.1 rfl) h)
            refine V_aload_n f dX9_best_98 5 rfl ?_
            refine V_iload_n f dX9_best_99 6 rfl ?_
            refine V_cVp (As := [.int a]) (rest := []) f dX9_best_100 lk_X9_272 ml_X9_272 ins_X9_layingOf sel_X9_layingOf zm_0 (by decide) rfl (c3_X9_layingOf _ _ _ _ ad M2 a hd (fun j hj => hL2 j (Nat.zero_le _) hj)) rfl (Nat.le_of_ble_eq_true rfl) rfl ⟨by decide, by decide⟩ ⟨Nat.zero_le _, Nat.zero_le _⟩ rfl rfl (fun v7 Mx7 hp7 => ?_)
            obtain ⟨⟨r7, rfl⟩, hg7⟩ := hp7
            show V K ad 0 0 ZM Mx7 103 [(7, .int y), (6, .int u), (5, .int x), (4, .int p), (3, .int W), (0, .ref (ad 0)), (1, .int a), (2, .int b)] [.int r7]
            exact after y u _ _ (G3_G1 hG2 hg7)
          | succ q9 ih2 =>
            intro y u M2 hq hy hu hG2 hL2
            have hb9 := bx1 hy (by omega)
            have hm := md16 hu
            refine V_iload f dX9_best_68 0 rfl ?_
            refine V_if_lt (tgt := 98) f dX9_best_70 (by decide) (fun h => absurd h hb9.1) (fun _ => ?_)
            refine V_aload_n f dX9_best_73 5 rfl ?_
            refine V_getR f dX9_best_74 lf_9_100 rfl zm_0 rfl ?_
            refine V_iload f dX9_best_77 0 rfl ?_
            refine V_iload f dX9_best_79 1 rfl ?_
            refine V_bipush (v := 16) f dX9_best_81 (by decide) ?_
            refine V_irem f dX9_best_83 (by decide) ?_
            refine V_iast f dX9_best_84 zm_29 hb9.2.1 ?_
            refine V_iload f dX9_best_85 1 rfl ?_
            refine V_bipush (v := 16) f dX9_best_87 (by decide) ?_
            refine V_idiv f dX9_best_89 (by decide) ?_
            refine V_istore f dX9_best_90 (by decide) rfl ?_
            refine V_iinc (v := y + (-1)) f dX9_best_92 1 rfl rfl (by decide) rfl ?_
            refine V_goto (tgt := 68) f dX9_best_95 (by decide) ?_
            rw [hb9.2.2.1]
            exact ih2 (y + (-1)) (u / 16) _ (by omega) hb9.2.2.2 hm.2 (G3_29 hG2 _ _) (LG_put hL2 hm.1)
        refine V_iload f dX9_best_53 0 rfl ?_
        refine V_iload_n f dX9_best_55 2 rfl ?_
        refine V_icmp_ge (tgt := 159) f dX9_best_56 (by decide) (fun h => absurd h (lpos hx)) (fun _ => ?_)
        refine V_iload f dX9_best_59 0 rfl ?_
        refine V_istore f dX9_best_61 (by decide) rfl ?_
        refine V_iload_n f dX9_best_63 5 rfl ?_
        refine V_iconst (v := 1) f dX9_best_64 (by decide) ?_
        refine V_isub f dX9_best_65 ?_
        refine V_istore f dX9_best_66 (by decide) rfl ?_
        exact digits a.toNatClampNeg (a - 1) x M1 (Nat.le_refl _) (by have e9 := fcd hd; omega) (by omega) hG (fun j h1 h2 => absurd h2 (by omega))
    refine V_istore_n f dX9_best_46 rfl (by decide) rfl ?_
    refine V_iconst (v := 0) f dX9_best_47 (by decide) ?_
    refine V_istore f dX9_best_48 (by decide) rfl ?_
    refine V_iconst (v := 0) f dX9_best_50 (by decide) ?_
    refine V_istore f dX9_best_51 (by decide) rfl ?_
    exact outer W.toInt.toNat 0 _ M (by decide) (by have e0 : (0 : Int32).toInt = 0 := (by decide); omega) (fun _ _ _ _ => rfl)
  refine V_iload_n f dX9_best_0 1 rfl ?_
  refine V_iconst (v := 1) f dX9_best_1 (by decide) ?_
  refine V_iconst (v := 3) f dX9_best_2 (by decide) ?_
  refine V_cSi (As := [.int a, .int 1, .int 3]) (rest := []) f dX9_best_3 lk_X9_109 ml_X9_109 sta_X9_isIn (c_X9_isIn (kl K) (kD K) (ky K) (kX K) ad M a 1 3) rfl (Nat.le_of_ble_eq_true rfl) rfl ⟨by decide, by decide⟩ ⟨Nat.zero_le _, Nat.zero_le _⟩ rfl rfl ?_
  refine V_if_eq (tgt := 20) f dX9_best_6 (by decide) (fun c1 => ?_) (fun c1 => ?_)
  · refine V_iconst (v := (-1)) f dX9_best_20 (by decide) ?_
    exact V_iret f q dX9_best_21 rfl (Nat.zero_le _) (Nat.zero_le _) ⟨rfl, rfl, ⟨_, rfl⟩, fun _ _ _ _ => rfl⟩
  · refine V_iload_n f dX9_best_9 2 rfl ?_
    refine V_iconst (v := (-1)) f dX9_best_10 (by decide) ?_
    refine V_iload_n f dX9_best_11 1 rfl ?_
    refine V_iconst (v := 1) f dX9_best_12 (by decide) ?_
    refine V_isub f dX9_best_13 ?_
    refine V_cSi (As := [.int b, .int (-1), .int (a - 1)]) (rest := []) f dX9_best_14 lk_X9_109 ml_X9_109 sta_X9_isIn (c_X9_isIn (kl K) (kD K) (ky K) (kX K) ad M b (-1) (a - 1)) rfl (Nat.le_of_ble_eq_true rfl) rfl ⟨by decide, by decide⟩ ⟨Nat.zero_le _, Nat.zero_le _⟩ rfl rfl ?_
    refine V_if_ne (tgt := 22) f dX9_best_17 (by decide) (fun c2 => ?_) (fun c2 => ?_)
    · refine V_iload_n f dX9_best_22 1 rfl ?_
      refine V_iconst (v := 1) f dX9_best_23 (by decide) ?_
      refine V_icmp_ne (tgt := 32) f dX9_best_24 (by decide) (fun c3 => ?_) (fun c3 => ?_)
      · refine V_iload_n f dX9_best_32 1 rfl ?_
        refine V_iconst (v := 2) f dX9_best_33 (by decide) ?_
        refine V_icmp_ne (tgt := 43) f dX9_best_34 (by decide) (fun c4 => ?_) (fun c4 => ?_)
        · refine V_sipush (v := 4096) f dX9_best_43 (by decide) ?_
          exact main c1 c2 4096 (by decide) (by decide)
        · refine V_sipush (v := 256) f dX9_best_37 (by decide) ?_
          refine V_goto (tgt := 46) f dX9_best_40 (by decide) ?_
          exact main c1 c2 256 (by decide) (by decide)
      · refine V_bipush (v := 16) f dX9_best_27 (by decide) ?_
        refine V_goto (tgt := 46) f dX9_best_29 (by decide) ?_
        exact main c1 c2 16 (by decide) (by decide)
    · refine V_iconst (v := (-1)) f dX9_best_20 (by decide) ?_
      exact V_iret f q dX9_best_21 rfl (Nat.zero_le _) (Nat.zero_le _) ⟨rfl, rfl, ⟨_, rfl⟩, fun _ _ _ _ => rfl⟩

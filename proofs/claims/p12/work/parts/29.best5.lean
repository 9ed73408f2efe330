theorem md16 {y : Int32} (h : 0 ≤ y.toInt ∧ y.toInt ≤ 4096) : (0 ≤ (y - y / 16 * 16).toInt ∧ (y - y / 16 * 16).toInt ≤ 15) ∧ 0 ≤ (y / 16).toInt ∧ (y / 16).toInt ≤ 4096 := by
  have e : (16 : Int32).toInt = 16 := by decide
  have h1 := rem_toInt y 16
  rw [e] at h1
  have h2 : (y / 16).toInt = y.toInt.tdiv 16 := by
    rw [Int32.toInt_div_of_ne_right y 16 (by decide), e]
  have h3 : y.toInt.tdiv 16 = y.toInt / 16 := Int.tdiv_eq_ediv_of_nonneg h.1
  have h4 : y.toInt.tmod 16 = y.toInt % 16 := Int.tmod_eq_emod_of_nonneg h.1
  rw [h1, h2, h3, h4]
  omega
theorem add0 (x : Int32) : x + 0 = x := Int32.add_zero x
/-- all cells but isGone stay -/
def G1 (M M1 : MT) : Prop := ∀ i, ¬ i = 31 → M1 i = M i
theorem G1_put {M M1 : MT} (h : G1 M M1) (k : Nat) (v : Int32) : G1 M (up2 M1 31 k v) := fun i hi => by rw [← h i hi]; simp only [up2, va_up, if_neg hi]
theorem layw {s v : Int32} {k : Int} (hs : -(75 * k) ≤ s.toInt ∧ s.toInt ≤ 0) (hk : 0 ≤ k ∧ k ≤ 3) (hv : 0 ≤ v.toInt ∧ v.toInt ≤ 15) : -(75 * (k + 1)) ≤ (s - 5 * v).toInt ∧ (s - 5 * v).toInt ≤ 0 := by
  have := layv hs hk hv
  rw [add0] at this
  exact this
theorem d4i {x y : Int32} {n : Nat} (h0 : 0 ≤ x.toInt) (h : x.toInt + (n + 1 : Nat) = y.toInt) (hy : 1 ≤ y.toInt ∧ y.toInt ≤ 3) : vp_in x 3 ∧ x.toNatClampNeg < y.toNatClampNeg := by
  refine ⟨by rw [vp_in_iff]; omega, ?_⟩
  show x.toInt.toNat < y.toInt.toNat
  omega
set_option maxHeartbeats 4000000 in
set_option maxRecDepth 100000 in
theorem c1_X9_layingOf (l : Launch) (D : va_G) (cy : Nat → ClassId) (X : va_W) (ad : Nat → Nat) (M : MT) (a : Int32) (hd : 1 ≤ a.toInt ∧ a.toInt ≤ 3) (ht : M 0 1 = 0) (hl : ∀ j, j < 16 → M 3 j = 0) (hy : ∀ j, j < a.toNatClampNeg → 0 ≤ (M 29 j).toInt ∧ (M 29 j).toInt ≤ 15) : CtP l yX9_layingOf cX9_layingOf 6 (some .int) (rK 1) D cy X ad ZM M [.ref (ad 0), .int a] (fun v M1 => ∃ r : Int32, v = some (.int r) ∧ r.toInt ≤ 0 ∧ ((∀ j, j < a.toNatClampNeg → M 29 j = 0) → r = 0) ∧ G1 M M1) := by
  refine Ctr.of (by decide +kernel) (Nat.le_of_ble_eq_true rfl) ?_
  intro K f q hnm hl0 hD0 hy0 hX0
  show V K ad 0 0 ZM M 0 [(0, .ref (ad 0)), (1, .int a)] []
  have days : ∀ (n : Nat) (i y t : Int32) (M1 : MT), 0 ≤ i.toInt → i.toInt + (n : Nat) = a.toInt → (0 ≤ y.toInt ∧ y.toInt ≤ 15) → (-(75 * i.toInt) ≤ t.toInt ∧ t.toInt ≤ 0) → ((∀ j, j < a.toNatClampNeg → M 29 j = 0) → t = 0 ∧ y = 0) → G1 M M1 → V K ad 0 0 ZM M1 31 [(4, .int i), (3, .int y), (2, .int t), (0, .ref (ad 0)), (1, .int a)] [] := by
    intro n
    induction n with
    | zero =>
      intro i y t M1 i0 hi hyy htt hzz hG
      refine V_iload f dX9_layingOf_31 0 rfl ?_
      refine V_iload_n f dX9_layingOf_33 4 rfl ?_
      refine V_icmp_ge (tgt := 128) f dX9_layingOf_34 (by decide) (fun _ => ?_) (fun h => absurd (lend hi) h)
      refine V_iload_n f dX9_layingOf_128 2 rfl ?_
      exact V_iret f q dX9_layingOf_129 rfl (Nat.zero_le _) (Nat.zero_le _) ⟨rfl, rfl, t, rfl, htt.2, fun h => (hzz h).1, hG⟩
    | succ n ih =>
      intro i z0 t0 M1 i0 hi hyy htt hzz hG
      have inner : ∀ (q : Nat) (b y t : Int32) (M2 : MT), 0 ≤ b.toInt → b.toInt + (q : Nat) = 16 → (0 ≤ y.toInt ∧ y.toInt ≤ 15) → (-(75 * (i.toInt + 1)) ≤ t.toInt ∧ t.toInt ≤ 0) → ((∀ j, j < a.toNatClampNeg → M 29 j = 0) → t = 0 ∧ y = 0) → G1 M M2 → V K ad 0 0 ZM M2 71 [(5, .int b), (3, .int y), (2, .int t), (4, .int i), (0, .ref (ad 0)), (1, .int a)] [] := by
        intro q9
        induction q9 with
        | zero =>
          intro b y t M2 b0 hb hyy htt hzz hG
          refine V_iload f dX9_layingOf_71 0 rfl ?_
          refine V_bipush (v := 15) f dX9_layingOf_73 (by decide) ?_
          refine V_iload_n f dX9_layingOf_75 1 rfl ?_
          refine V_iconst (v := 1) f dX9_layingOf_76 (by decide) ?_
          refine V_iadd f dX9_layingOf_77 ?_
          refine V_mmin f dX9_layingOf_78 ml_X9_243 ma_min ma_ini mc_min (by decide) (Nat.le_of_ble_eq_true rfl) (Nat.zero_le _) (Nat.zero_le _) ?_
          refine V_icmp_gt (tgt := 122) f dX9_layingOf_81 (by decide) (fun _ => ?_) (fun h => absurd (fw1 hb) h)
          refine V_iinc (v := i + 1) f dX9_layingOf_122 3 rfl rfl (by decide) rfl ?_
          refine V_goto (tgt := 31) f dX9_layingOf_125 (by decide) ?_
          refine V.sub [0, 2, 3, 4, 5] rfl ?_
          exact ih (i + 1) y t M2 (linc i0 hi (by omega)).1 (linc i0 hi (by omega)).2.1 hyy (by have e9 := k1 (a := i) (by omega); rw [e9]; exact htt) hzz hG
        | succ q9 ih2 =>
          intro b y t M2 b0 hb hyy htt hzz hG
          refine V_iload f dX9_layingOf_71 0 rfl ?_
          refine V_bipush (v := 15) f dX9_layingOf_73 (by decide) ?_
          refine V_iload_n f dX9_layingOf_75 1 rfl ?_
          refine V_iconst (v := 1) f dX9_layingOf_76 (by decide) ?_
          refine V_iadd f dX9_layingOf_77 ?_
          refine V_mmin f dX9_layingOf_78 ml_X9_243 ma_min ma_ini mc_min (by decide) (Nat.le_of_ble_eq_true rfl) (Nat.zero_le _) (Nat.zero_le _) ?_
          refine V_icmp_gt (tgt := 122) f dX9_layingOf_81 (by decide) (fun c1 => ?_) (fun c1 => ?_)
          · refine V_iinc (v := i + 1) f dX9_layingOf_122 3 rfl rfl (by decide) rfl ?_
            refine V_goto (tgt := 31) f dX9_layingOf_125 (by decide) ?_
            refine V.sub [0, 2, 3, 4, 5] rfl ?_
            exact ih (i + 1) y t M2 (linc i0 hi (by omega)).1 (linc i0 hi (by omega)).2.1 hyy (by have e9 := k1 (a := i) (by omega); rw [e9]; exact htt) hzz hG
          · refine V_iload_n f dX9_layingOf_84 2 rfl ?_
            refine V_aload_n f dX9_layingOf_85 4 rfl ?_
            refine V_getR f dX9_layingOf_86 lf_9_106 rfl zm_0 rfl ?_
            refine V_iload f dX9_layingOf_89 0 rfl ?_
            refine V_zald f dX9_layingOf_91 zm_31 (fw2 b0 c1) ?_
            refine V_if_eq (tgt := 99) f dX9_layingOf_92 (by decide) (fun c2 => ?_) (fun c2 => ?_)
            · refine V_aload_n f dX9_layingOf_99 4 rfl ?_
              refine V_getR f dX9_layingOf_100 lf_9_16 rfl zm_0 rfl ?_
              refine V_iload f dX9_layingOf_103 0 rfl ?_
              refine V_ialdE (x := 0) f dX9_layingOf_105 zm_3 (fw2 b0 c1) ((congrFun (hG 3 (by decide)) _).trans (hl _ (vlt (fw2 b0 c1)))) ?_
              refine V_iadd f dX9_layingOf_106 ?_
              rw [add0]
              refine V_istore_n f dX9_layingOf_107 rfl (by decide) rfl ?_
              refine V_aload_n f dX9_layingOf_108 4 rfl ?_
              refine V_getR f dX9_layingOf_109 lf_9_106 rfl zm_0 rfl ?_
              refine V_iload f dX9_layingOf_112 1 rfl ?_
              refine V_iconst (v := 1) f dX9_layingOf_114 (by decide) ?_
              refine V_zast f dX9_layingOf_115 zm_31 (fw2 b0 c1) ?_
              refine V_iinc (v := b + 1) f dX9_layingOf_116 1 rfl rfl (by decide) rfl ?_
              refine V_goto (tgt := 71) f dX9_layingOf_119 (by decide) ?_
              refine V.sub [0, 2, 1, 3, 4, 5] rfl ?_
              exact ih2 (b + 1) y t _ (fw3 b0 hb).1 (fw3 b0 hb).2 hyy htt hzz (G1_put hG _ _)
            · refine V_iconst (v := 0) f dX9_layingOf_95 (by decide) ?_
              refine V_goto (tgt := 106) f dX9_layingOf_96 (by decide) ?_
              refine V_iadd f dX9_layingOf_106 ?_
              rw [add0]
              refine V_istore_n f dX9_layingOf_107 rfl (by decide) rfl ?_
              refine V_aload_n f dX9_layingOf_108 4 rfl ?_
              refine V_getR f dX9_layingOf_109 lf_9_106 rfl zm_0 rfl ?_
              refine V_iload f dX9_layingOf_112 1 rfl ?_
              refine V_iconst (v := 1) f dX9_layingOf_114 (by decide) ?_
              refine V_zast f dX9_layingOf_115 zm_31 (fw2 b0 c1) ?_
              refine V_iinc (v := b + 1) f dX9_layingOf_116 1 rfl rfl (by decide) rfl ?_
              refine V_goto (tgt := 71) f dX9_layingOf_119 (by decide) ?_
              refine V.sub [0, 2, 1, 3, 4, 5] rfl ?_
              exact ih2 (b + 1) y t _ (fw3 b0 hb).1 (fw3 b0 hb).2 hyy htt hzz (G1_put hG _ _)
      refine V_iload f dX9_layingOf_31 0 rfl ?_
      refine V_iload_n f dX9_layingOf_33 4 rfl ?_
      refine V_icmp_ge (tgt := 128) f dX9_layingOf_34 (by decide) (fun h => absurd h (lpos hi)) (fun _ => ?_)
      refine V_iload_n f dX9_layingOf_37 2 rfl ?_
      refine V_iconst (v := 5) f dX9_layingOf_38 (by decide) ?_
      refine V_aload_n f dX9_layingOf_39 3 rfl ?_
      refine V_getR f dX9_layingOf_40 lf_9_100 rfl zm_0 rfl ?_
      refine V_iload f dX9_layingOf_43 0 rfl ?_
      refine V_ialdE (x := M 29 (Int32.toNatClampNeg i)) f dX9_layingOf_45 zm_29 (d4i i0 hi hd).1 (congrFun (hG 29 (by decide)) _) ?_
      refine V_iload_n f dX9_layingOf_46 1 rfl ?_
      refine V_isub f dX9_layingOf_47 ?_
      refine V_mabs f dX9_layingOf_48 ml_X9_225 ma_abs ma_ini mc_abs (by decide) (Nat.le_of_ble_eq_true rfl) (Nat.zero_le _) (Nat.zero_le _) ?_
      refine V_imul f dX9_layingOf_51 ?_
      refine V_isub f dX9_layingOf_52 ?_
      refine V_istore_n f dX9_layingOf_53 rfl (by decide) rfl ?_
      refine V_aload_n f dX9_layingOf_54 3 rfl ?_
      refine V_getR f dX9_layingOf_55 lf_9_100 rfl zm_0 rfl ?_
      refine V_iload f dX9_layingOf_58 1 rfl ?_
      refine V_ialdE (x := M 29 (Int32.toNatClampNeg i)) f dX9_layingOf_60 zm_29 (d4i i0 hi hd).1 (congrFun (hG 29 (by decide)) _) ?_
      refine V_istore_n f dX9_layingOf_61 rfl (by decide) rfl ?_
      refine V_iconst (v := 0) f dX9_layingOf_62 (by decide) ?_
      refine V_iload_n f dX9_layingOf_63 0 rfl ?_
      refine V_iconst (v := 1) f dX9_layingOf_64 (by decide) ?_
      refine V_isub f dX9_layingOf_65 ?_
      refine V_mmax f dX9_layingOf_66 ml_X9_216 ma_max ma_ini mc_max (by decide) (Nat.le_of_ble_eq_true rfl) (Nat.zero_le _) (Nat.zero_le _) ?_
      refine V_istore f dX9_layingOf_69 (by decide) rfl ?_
      refine V.sub [0, 1, 2, 3, 4, 5] rfl ?_
      have hy9 := hy _ (d4i i0 hi hd).2
      have hw9 := fw0 hy9
      refine inner (16 - (if 0 < ((M 29 (Int32.toNatClampNeg i)) - 1) then ((M 29 (Int32.toNatClampNeg i)) - 1) else 0 : Int32).toInt.toNat) _ _ _ M1 hw9.1 (by omega) hy9 (layw htt (by omega) (absv hy9 hyy)) (fun h => ?_) hG
      have e1 := h _ (d4i i0 hi hd).2
      obtain ⟨e2, e3⟩ := hzz h
      rw [e1, e2, e3]
      exact ⟨by decide, rfl⟩
  have clear : ∀ (q b : Nat) (x : Int32) (M1 : MT), b + q = 16 → x.toInt = b → G1 M M1 → V K ad 0 0 ZM M1 2 [(2, .int x), (0, .ref (ad 0)), (1, .int a)] [] := by
    intro q9
    induction q9 with
    | zero =>
      intro b x M1 hb hx hG
      obtain rfl : b = 16 := by omega
      refine V_iload_n f dX9_layingOf_2 0 rfl ?_
      refine V_bipush (v := 16) f dX9_layingOf_3 (by decide) ?_
      refine V_icmp_ge (tgt := 21) f dX9_layingOf_5 (by decide) (fun _ => ?_) (fun h => absurd (lq_ge hx (y := 16) (n := 16) (by decide) rfl) h)
      refine V_iconst (v := 0) f dX9_layingOf_21 (by decide) ?_
      refine V_istore_n f dX9_layingOf_22 rfl (by decide) rfl ?_
      refine V_aload_n f dX9_layingOf_23 1 rfl ?_
      refine V_getE (x := 0) f dX9_layingOf_24 lf_9_222 rfl zm_0 ((congrFun (hG 0 (by decide)) 1).trans ht) ?_
      refine V_istore_n f dX9_layingOf_27 rfl (by decide) rfl ?_
      refine V_iconst (v := 0) f dX9_layingOf_28 (by decide) ?_
      refine V_istore f dX9_layingOf_29 (by decide) rfl ?_
      refine V.sub [0, 1, 2, 3, 4] rfl ?_
      exact days a.toInt.toNat 0 0 0 M1 (by decide) (by have e0 : (0 : Int32).toInt = 0 := (by decide); omega) (by decide) (by decide) (fun _ => ⟨rfl, rfl⟩) hG
    | succ q9 ih =>
      intro b x M1 hb hx hG
      obtain ⟨hbl, hin, hnat, hx1⟩ := lq_lt hx hb (by decide)
      refine V_iload_n f dX9_layingOf_2 0 rfl ?_
      refine V_bipush (v := 16) f dX9_layingOf_3 (by decide) ?_
      refine V_icmp_ge (tgt := 21) f dX9_layingOf_5 (by decide) (fun h => absurd h (lq_nge hx (y := 16) (by decide) hb)) (fun _ => ?_)
      refine V_aload_n f dX9_layingOf_8 1 rfl ?_
      refine V_getR f dX9_layingOf_9 lf_9_106 rfl zm_0 rfl ?_
      refine V_iload_n f dX9_layingOf_12 0 rfl ?_
      refine V_iconst (v := 0) f dX9_layingOf_13 (by decide) ?_
      refine V_zast f dX9_layingOf_14 zm_31 hin ?_
      refine V_iinc (v := x + 1) f dX9_layingOf_15 0 rfl rfl (by decide) rfl ?_
      refine V_goto (tgt := 2) f dX9_layingOf_18 (by decide) ?_
      exact ih (b + 1) (x + 1) _ (by omega) hx1 (G1_put hG _ _)
  refine V_iconst (v := 0) f dX9_layingOf_0 (by decide) ?_
  refine V_istore_n f dX9_layingOf_1 rfl (by decide) rfl ?_
  exact clear 16 0 0 M rfl (by decide) (fun _ _ => rfl)

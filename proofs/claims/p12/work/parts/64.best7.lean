set_option maxHeartbeats 4000000 in
set_option maxRecDepth 100000 in
theorem c3_X3_freshWeight (l : Launch) (D : va_G) (cy : Nat → ClassId) (X : va_W) (ad : Nat → Nat) (M : MT) (a : Int32) (b : Int32) (ha : 0 ≤ a.toInt ∧ a.toInt ≤ 15) : CtP l yX3_freshWeight cX3_freshWeight 5 (some .int) (rK 1) D cy X ad ZB M [.ref (ad 22), .int a, .int b] (fun v M1 => (∃ r : Int32, v = some (.int r)) ∧ M1 = M) := by
  refine Ctr.of (by decide +kernel) (Nat.le_of_ble_eq_true rfl) ?_
  intro K f q hnm hl0 hD0 hy0 hX0
  show V K ad 0 0 ZB M 0 [(0, .ref (ad 22)), (1, .int a), (2, .int b)] []
  have loop : ∀ (n : Nat) (x t : Int32), 0 ≤ x.toInt → x.toInt + (n : Nat) = 16 → V K ad 0 0 ZB M 11 [(4, .int x), (3, .int t), (0, .ref (ad 22)), (1, .int a), (2, .int b)] [] := by
    intro n
    induction n with
    | zero =>
      intro x t h0 hx
      refine V_iload f dX3_freshWeight_11 0 rfl ?_
      refine V_bipush (v := 15) f dX3_freshWeight_13 (by decide) ?_
      refine V_iload_n f dX3_freshWeight_15 3 rfl ?_
      refine V_iconst (v := 1) f dX3_freshWeight_16 (by decide) ?_
      refine V_iadd f dX3_freshWeight_17 ?_
      refine V_mmin f dX3_freshWeight_18 ml_X3_79 ma_min ma_ini mc_min (by decide) (Nat.le_of_ble_eq_true rfl) (Nat.zero_le _) (Nat.zero_le _) ?_
      refine V_icmp_gt (tgt := 49) f dX3_freshWeight_21 (by decide) (fun _ => ?_) (fun h => absurd (fw1 hx) h)
      refine V_iload_n f dX3_freshWeight_49 1 rfl ?_
      exact V_iret f q dX3_freshWeight_50 rfl (Nat.zero_le _) (Nat.zero_le _) ⟨rfl, rfl, ⟨t, rfl⟩, rfl⟩
    | succ n ih =>
      intro x t h0 hx
      refine V_iload f dX3_freshWeight_11 0 rfl ?_
      refine V_bipush (v := 15) f dX3_freshWeight_13 (by decide) ?_
      refine V_iload_n f dX3_freshWeight_15 3 rfl ?_
      refine V_iconst (v := 1) f dX3_freshWeight_16 (by decide) ?_
      refine V_iadd f dX3_freshWeight_17 ?_
      refine V_mmin f dX3_freshWeight_18 ml_X3_79 ma_min ma_ini mc_min (by decide) (Nat.le_of_ble_eq_true rfl) (Nat.zero_le _) (Nat.zero_le _) ?_
      refine V_icmp_gt (tgt := 49) f dX3_freshWeight_21 (by decide) (fun c1 => ?_) (fun c1 => ?_)
      · refine V_iload_n f dX3_freshWeight_49 1 rfl ?_
        exact V_iret f q dX3_freshWeight_50 rfl (Nat.zero_le _) (Nat.zero_le _) ⟨rfl, rfl, ⟨t, rfl⟩, rfl⟩
      · refine V_iload_n f dX3_freshWeight_24 4 rfl ?_
        refine V_iconst (v := 1) f dX3_freshWeight_25 (by decide) ?_
        refine V_iload f dX3_freshWeight_26 0 rfl ?_
        refine V_ishl f dX3_freshWeight_28 ?_
        refine V_iand f dX3_freshWeight_29 ?_
        refine V_if_ne (tgt := 43) f dX3_freshWeight_30 (by decide) (fun c2 => ?_) (fun c2 => ?_)
        · refine V_iinc (v := x + 1) f dX3_freshWeight_43 0 rfl rfl (by decide) rfl ?_
          refine V_goto (tgt := 11) f dX3_freshWeight_46 (by decide) ?_
          exact ih (x + 1) _ (fw3 h0 hx).1 (fw3 h0 hx).2
        · refine V_iload_n f dX3_freshWeight_33 1 rfl ?_
          refine V_aload_n f dX3_freshWeight_34 2 rfl ?_
          refine V_getR f dX3_freshWeight_35 lf_3_15 rfl zb_22 rfl ?_
          refine V_iload f dX3_freshWeight_38 0 rfl ?_
          refine V_ialdE (x := M 24 (Int32.toNatClampNeg x)) f dX3_freshWeight_40 zb_24 (fw2 h0 c1) rfl ?_
          refine V_iadd f dX3_freshWeight_41 ?_
          refine V_istore_n f dX3_freshWeight_42 rfl (by decide) rfl ?_
          refine V_iinc (v := x + 1) f dX3_freshWeight_43 1 rfl rfl (by decide) rfl ?_
          refine V_goto (tgt := 11) f dX3_freshWeight_46 (by decide) ?_
          exact ih (x + 1) _ (fw3 h0 hx).1 (fw3 h0 hx).2
  refine V_iconst (v := 0) f dX3_freshWeight_0 (by decide) ?_
  refine V_istore_n f dX3_freshWeight_1 rfl (by decide) rfl ?_
  refine V_iconst (v := 0) f dX3_freshWeight_2 (by decide) ?_
  refine V_iload_n f dX3_freshWeight_3 2 rfl ?_
  refine V_iconst (v := 1) f dX3_freshWeight_4 (by decide) ?_
  refine V_isub f dX3_freshWeight_5 ?_
  refine V_mmax f dX3_freshWeight_6 ml_X3_76 ma_max ma_ini mc_max (by decide) (Nat.le_of_ble_eq_true rfl) (Nat.zero_le _) (Nat.zero_le _) ?_
  refine V_istore f dX3_freshWeight_9 (by decide) rfl ?_
  exact loop (16 - (if 0 < (a - 1) then (a - 1) else 0 : Int32).toInt.toNat) _ 0 (fw0 ha).1 (by have := fw0 ha; omega)
/-- all but the laying's cells stay -/
def GL (M M1 : MT) : Prop := ∀ i, ¬ (22 ≤ i ∧ i ≤ 27) → M1 i = M i
theorem GL_refl (M : MT) : GL M M := fun _ _ => rfl
theorem GL_up {M M1 : MT} (h : GL M M1) {i : Nat} (hi : 22 ≤ i ∧ i ≤ 27) (k : Nat) (v : Int32) : GL M (up2 M1 i k v) := fun j hj => (upo (by omega)).trans (h j hj)
def G5 (M M1 : MT) : Prop := GL M M1 ∧ M1 22 = M 22
theorem G5_up {M M1 : MT} (h : G5 M M1) {i : Nat} (hi : 23 ≤ i ∧ i ≤ 27) (k : Nat) (v : Int32) : G5 M (up2 M1 i k v) := ⟨GL_up h.1 (by omega) k v, (upo (by omega)).trans h.2⟩
theorem G5_trans {M0 M M1 : MT} (h : G5 M0 M) (g : G5 M M1) : G5 M0 M1 := ⟨fun i hi => (g.1 i hi).trans (h.1 i hi), g.2.trans h.2⟩
set_option maxHeartbeats 4000000 in
set_option maxRecDepth 100000 in
theorem c3_X3_weigh (l : Launch) (D : va_G) (cy : Nat → ClassId) (X : va_W) (ad : Nat → Nat) (M : MT) : CtP l yX3_weigh cX3_weigh 3 none (rK 2) D cy X ad ZB M [.ref (ad 22), .ref (ad 1)] (fun v M1 => v = none ∧ G5 M M1) := by
  refine Ctr.of (by decide +kernel) (Nat.le_of_ble_eq_true rfl) ?_
  intro K f q hnm hl0 hD0 hy0 hX0
  show V K ad 0 0 ZB M 0 [(0, .ref (ad 22)), (1, .ref (ad 1))] []
  have loop2 : ∀ (q9 c : Nat) (x : Int32) (M1 : MT), c + q9 = 16 → x.toInt = c → G5 M M1 → V K ad 0 0 ZB M1 34 [(2, .int x), (0, .ref (ad 22)), (1, .ref (ad 1))] [] := by
    intro q9
    induction q9 with
    | zero =>
      intro c x M1 hb hx hG
      obtain rfl : c = 16 := by omega
      refine V_iload_n f dX3_weigh_34 0 rfl ?_
      refine V_bipush (v := 16) f dX3_weigh_35 (by decide) ?_
      refine V_icmp_ge (tgt := 58) f dX3_weigh_37 (by decide) (fun _ => ?_) (fun h => absurd (lq_ge hx (y := 16) (n := 16) (by decide) rfl) h)
      exact V_vret f q dX3_weigh_58 (Nat.zero_le _) (Nat.zero_le _) ⟨rfl, rfl, rfl, hG⟩
    | succ q9 ih =>
      intro c x M1 hb hx hG
      obtain ⟨hbl, hin, hnat, hx1⟩ := lq_lt hx hb (by decide)
      refine V_iload_n f dX3_weigh_34 0 rfl ?_
      refine V_bipush (v := 16) f dX3_weigh_35 (by decide) ?_
      refine V_icmp_ge (tgt := 58) f dX3_weigh_37 (by decide) (fun h => absurd h (lq_nge hx (y := 16) (by decide) hb)) (fun _ => ?_)
      refine V_aload_n f dX3_weigh_40 1 rfl ?_
      refine V_getR f dX3_weigh_41 lf_3_9 rfl zb_22 rfl ?_
      refine V_iload_n f dX3_weigh_44 0 rfl ?_
      refine V_aload_n f dX3_weigh_45 1 rfl ?_
      refine V_iload_n f dX3_weigh_46 0 rfl ?_
      refine V_iconst (v := 0) f dX3_weigh_47 (by decide) ?_
      refine V_cVp (As := [.int x, .int 0]) (rest := [.int x, .ref (ad 23)]) f dX3_weigh_48 lk_X3_61 ml_X3_61 ins_X3_freshWeight sel_X3_freshWeight zb_22 (by decide) rfl (c3_X3_freshWeight _ _ _ _ ad M1 x 0 ⟨by omega, by omega⟩) rfl (Nat.le_of_ble_eq_true rfl) rfl ⟨by decide, by decide⟩ ⟨Nat.zero_le _, Nat.zero_le _⟩ rfl rfl (fun v1 Mx1 hp1 => ?_)
      obtain ⟨⟨r1, rfl⟩, e1⟩ := hp1
      rw [e1]
      show V K ad 0 0 ZB M1 51 [(2, .int x), (0, .ref (ad 22)), (1, .ref (ad 1))] [.int r1, .int x, .ref (ad 23)]
      refine V_iast f dX3_weigh_51 zb_23 hin ?_
      refine V_iinc (v := x + 1) f dX3_weigh_52 0 rfl rfl (by decide) rfl ?_
      refine V_goto (tgt := 34) f dX3_weigh_55 (by decide) ?_
      exact ih (c + 1) (x + 1) _ (by omega) hx1 (G5_up hG (by decide) _ _)
  have loop1 : ∀ (q9 c : Nat) (x : Int32) (M1 : MT), c + q9 = 16 → x.toInt = c → G5 M M1 → V K ad 0 0 ZB M1 2 [(2, .int x), (0, .ref (ad 22)), (1, .ref (ad 1))] [] := by
    intro q9
    induction q9 with
    | zero =>
      intro c x M1 hb hx hG
      obtain rfl : c = 16 := by omega
      refine V_iload_n f dX3_weigh_2 0 rfl ?_
      refine V_bipush (v := 16) f dX3_weigh_3 (by decide) ?_
      refine V_icmp_ge (tgt := 32) f dX3_weigh_5 (by decide) (fun _ => ?_) (fun h => absurd (lq_ge hx (y := 16) (n := 16) (by decide) rfl) h)
      refine V_iconst (v := 0) f dX3_weigh_32 (by decide) ?_
      refine V_istore_n f dX3_weigh_33 rfl (by decide) rfl ?_
      exact loop2 16 0 0 M1 rfl (by decide) hG
    | succ q9 ih =>
      intro c x M1 hb hx hG
      obtain ⟨hbl, hin, hnat, hx1⟩ := lq_lt hx hb (by decide)
      refine V_iload_n f dX3_weigh_2 0 rfl ?_
      refine V_bipush (v := 16) f dX3_weigh_3 (by decide) ?_
      refine V_icmp_ge (tgt := 32) f dX3_weigh_5 (by decide) (fun h => absurd h (lq_nge hx (y := 16) (by decide) hb)) (fun _ => ?_)
      refine V_iload_n f dX3_weigh_8 0 rfl ?_
      refine V_aload_n f dX3_weigh_9 2 rfl ?_
      refine V_alen (t0 := 3) f dX3_weigh_10 zb_1 (by decide) rfl ?_
      refine V_icmp_ge (tgt := 32) f dX3_weigh_11 (by decide) (fun h => absurd h (lq_nge hx (y := 16) (by decide) hb)) (fun _ => ?_)
      refine V_aload_n f dX3_weigh_14 1 rfl ?_
      refine V_getR f dX3_weigh_15 lf_3_15 rfl zb_22 rfl ?_
      refine V_iload_n f dX3_weigh_18 0 rfl ?_
      refine V_aload_n f dX3_weigh_19 2 rfl ?_
      refine V_iload_n f dX3_weigh_20 0 rfl ?_
      refine V_aald (t0 := 3) f dX3_weigh_21 zb_1 (by decide) rfl hin (eBay (vlt hin)) ?_
      refine V_getE (x := M1 (28 + Int32.toNatClampNeg x) 2) f dX3_weigh_22 lf_3_57 rfl (zBay (vlt hin)) rfl ?_
      refine V_iast f dX3_weigh_25 zb_24 hin ?_
      refine V_iinc (v := x + 1) f dX3_weigh_26 0 rfl rfl (by decide) rfl ?_
      refine V_goto (tgt := 2) f dX3_weigh_29 (by decide) ?_
      exact ih (c + 1) (x + 1) _ (by omega) hx1 (G5_up hG (by decide) _ _)
  refine V_iconst (v := 0) f dX3_weigh_0 (by decide) ?_
  refine V_istore_n f dX3_weigh_1 rfl (by decide) rfl ?_
  exact loop1 16 0 0 M rfl (by decide) ⟨GL_refl M, rfl⟩
set_option maxHeartbeats 4000000 in
set_option maxRecDepth 100000 in
theorem c3_X3_layDay (l : Launch) (D : va_G) (cy : Nat → ClassId) (X : va_W) (ad : Nat → Nat) (M : MT) (a : Int32) (b : Int32) (hk : 0 ≤ a.toInt ∧ a.toInt ≤ 2) (hb : 0 ≤ b.toInt ∧ b.toInt ≤ 15) : CtP l yX3_layDay cX3_layDay 5 none (rK 2) D cy X ad ZB M [.ref (ad 22), .int a, .int b] (fun v M1 => v = none ∧ G5 M M1) := by
  refine Ctr.of (by decide +kernel) (Nat.le_of_ble_eq_true rfl) ?_
  intro K f q hnm hl0 hD0 hy0 hX0
  show V K ad 0 0 ZB M 0 [(0, .ref (ad 22)), (1, .int a), (2, .int b)] []
  refine V_iload_n f dX3_layDay_0 1 rfl ?_
  refine V_iconst (v := 0) f dX3_layDay_1 (by decide) ?_
  refine V_iconst (v := 2) f dX3_layDay_2 (by decide) ?_
  refine V_cNi (As := [.int a, .int 0, .int 2]) (rest := []) f dX3_layDay_3 lk_X3_37 nl_X3_37 sta_X8_within (c_X8_within (kl K) (kD K) (ky K) (kX K) ad M a 0 2) rfl (Nat.le_of_ble_eq_true rfl) rfl ⟨by decide, by decide⟩ ⟨Nat.zero_le _, Nat.zero_le _⟩ rfl rfl ?_
  refine V_if_eq (tgt := 16) f dX3_layDay_6 (by decide) (fun c1 => ?_) (fun c1 => ?_)
  · exact absurd c1 (wk2 hk)
  · refine V_iload_n f dX3_layDay_9 2 rfl ?_
    refine V_cNi (As := [.int b]) (rest := []) f dX3_layDay_10 lk_X3_64 nl_X3_64 sta_X8_isBay (c_X8_isBay (kl K) (kD K) (ky K) (kX K) ad M b) rfl (Nat.le_of_ble_eq_true rfl) rfl ⟨by decide, by decide⟩ ⟨Nat.zero_le _, Nat.zero_le _⟩ rfl rfl ?_
    refine V_if_ne (tgt := 17) f dX3_layDay_13 (by decide) (fun c2 => ?_) (fun c2 => ?_)
    · refine V_iload_n f dX3_layDay_17 2 rfl ?_
      refine V_cSi (As := [.int b]) (rest := []) f dX3_layDay_18 lk_X3_68 ml_X3_68 sta_X3_nearBits (c_X3_nearBits (kl K) (kD K) (ky K) (kX K) ad M b) rfl (Nat.le_of_ble_eq_true rfl) rfl ⟨by decide, by decide⟩ ⟨Nat.zero_le _, Nat.zero_le _⟩ rfl rfl ?_
      refine V_istore_n f dX3_layDay_21 rfl (by decide) rfl ?_
      refine V_aload_n f dX3_layDay_22 1 rfl ?_
      refine V_getR f dX3_layDay_23 lf_3_21 rfl zb_22 rfl ?_
      refine V_iload_n f dX3_layDay_26 2 rfl ?_
      refine V_ialdE (x := M 26 (Int32.toNatClampNeg a)) f dX3_layDay_27 zb_26 (vk4 hk) rfl ?_
      refine V_iload_n f dX3_layDay_28 0 rfl ?_
      refine V_iand f dX3_layDay_29 ?_
      refine V_if_ne (tgt := 42) f dX3_layDay_30 (by decide) (fun c3 => ?_) (fun c3 => ?_)
      · refine V_aload_n f dX3_layDay_42 1 rfl ?_
        refine V_iload_n f dX3_layDay_43 3 rfl ?_
        refine V_aload_n f dX3_layDay_44 1 rfl ?_
        refine V_getR f dX3_layDay_45 lf_3_21 rfl zb_22 rfl ?_
        refine V_iload_n f dX3_layDay_48 2 rfl ?_
        refine V_ialdE (x := M 26 (Int32.toNatClampNeg a)) f dX3_layDay_49 zb_26 (vk4 hk) rfl ?_
        refine V_cVp (As := [.int b, .int (M 26 (Int32.toNatClampNeg a))]) (rest := []) f dX3_layDay_50 lk_X3_61 ml_X3_61 ins_X3_freshWeight sel_X3_freshWeight zb_22 (by decide) rfl (c3_X3_freshWeight _ _ _ _ ad M b (M 26 (Int32.toNatClampNeg a)) hb) rfl (Nat.le_of_ble_eq_true rfl) rfl ⟨by decide, by decide⟩ ⟨Nat.zero_le _, Nat.zero_le _⟩ rfl rfl (fun v4 Mx4 hp4 => ?_)
        obtain ⟨⟨r4, rfl⟩, e4⟩ := hp4
        rw [e4]
        show V K ad 0 0 ZB M 53 [(3, .int (s_X3_nearBits M b)), (0, .ref (ad 22)), (1, .int a), (2, .int b)] [.int r4]
        refine V_istore f dX3_layDay_53 (by decide) rfl ?_
        refine V_aload_n f dX3_layDay_55 2 rfl ?_
        refine V_getR f dX3_layDay_56 lf_3_24 rfl zb_22 rfl ?_
        refine V_iload_n f dX3_layDay_59 3 rfl ?_
        refine V_iconst (v := 1) f dX3_layDay_60 (by decide) ?_
        refine V_iadd f dX3_layDay_61 ?_
        refine V_aload_n f dX3_layDay_62 2 rfl ?_
        refine V_getR f dX3_layDay_63 lf_3_24 rfl zb_22 rfl ?_
        refine V_iload_n f dX3_layDay_66 3 rfl ?_
        refine V_ialdE (x := M 27 (Int32.toNatClampNeg a)) f dX3_layDay_67 zb_27 (vk4 hk) rfl ?_
        refine V_iload f dX3_layDay_68 0 rfl ?_
        refine V_iadd f dX3_layDay_70 ?_
        refine V_iconst (v := 5) f dX3_layDay_71 (by decide) ?_
        refine V_iload_n f dX3_layDay_72 4 rfl ?_
        refine V_aload_n f dX3_layDay_73 2 rfl ?_
        refine V_getR f dX3_layDay_74 lf_3_18 rfl zb_22 rfl ?_
        refine V_iload_n f dX3_layDay_77 3 rfl ?_
        refine V_ialdE (x := M 25 (Int32.toNatClampNeg a)) f dX3_layDay_78 zb_25 (vk4 hk) rfl ?_
        refine V_isub f dX3_layDay_79 ?_
        refine V_mabs f dX3_layDay_80 ml_X3_71 ma_abs ma_ini mc_abs (by decide) (Nat.le_of_ble_eq_true rfl) (Nat.zero_le _) (Nat.zero_le _) ?_
        refine V_imul f dX3_layDay_83 ?_
        refine V_isub f dX3_layDay_84 ?_
        refine V_iast f dX3_layDay_85 zb_27 (vk5 hk) ?_
        refine V_aload_n f dX3_layDay_86 2 rfl ?_
        refine V_getR f dX3_layDay_87 lf_3_21 rfl zb_22 rfl ?_
        refine V_iload_n f dX3_layDay_90 3 rfl ?_
        refine V_iconst (v := 1) f dX3_layDay_91 (by decide) ?_
        refine V_iadd f dX3_layDay_92 ?_
        refine V_aload_n f dX3_layDay_93 2 rfl ?_
        refine V_getR f dX3_layDay_94 lf_3_21 rfl zb_22 rfl ?_
        refine V_iload_n f dX3_layDay_97 3 rfl ?_
        refine V_ialdE (x := M 26 (Int32.toNatClampNeg a)) f dX3_layDay_98 zb_26 (vk4 hk) (up_c (by decide) rfl) ?_
        refine V_iload_n f dX3_layDay_99 1 rfl ?_
        refine V_ior f dX3_layDay_100 ?_
        refine V_iast f dX3_layDay_101 zb_26 (vk5 hk) ?_
        refine V_aload_n f dX3_layDay_102 2 rfl ?_
        refine V_getR f dX3_layDay_103 lf_3_18 rfl zb_22 rfl ?_
        refine V_iload_n f dX3_layDay_106 3 rfl ?_
        refine V_iconst (v := 1) f dX3_layDay_107 (by decide) ?_
        refine V_iadd f dX3_layDay_108 ?_
        refine V_iload_n f dX3_layDay_109 4 rfl ?_
        refine V_iast f dX3_layDay_110 zb_25 (vk5 hk) ?_
        exact V_vret f q dX3_layDay_111 (Nat.zero_le _) (Nat.zero_le _) ⟨rfl, rfl, rfl, (G5_up (G5_up (G5_up ⟨GL_refl M, rfl⟩ (by decide) _ _) (by decide) _ _) (by decide) _ _)⟩
      · refine V_aload_n f dX3_layDay_33 1 rfl ?_
        refine V_getR f dX3_layDay_34 lf_3_9 rfl zb_22 rfl ?_
        refine V_iload_n f dX3_layDay_37 3 rfl ?_
        refine V_ialdE (x := M 23 (Int32.toNatClampNeg b)) f dX3_layDay_38 zb_23 (vb16 hb) rfl ?_
        refine V_goto (tgt := 53) f dX3_layDay_39 (by decide) ?_
        refine V_istore f dX3_layDay_53 (by decide) rfl ?_
        refine V_aload_n f dX3_layDay_55 2 rfl ?_
        refine V_getR f dX3_layDay_56 lf_3_24 rfl zb_22 rfl ?_
        refine V_iload_n f dX3_layDay_59 3 rfl ?_
        refine V_iconst (v := 1) f dX3_layDay_60 (by decide) ?_
        refine V_iadd f dX3_layDay_61 ?_
        refine V_aload_n f dX3_layDay_62 2 rfl ?_
        refine V_getR f dX3_layDay_63 lf_3_24 rfl zb_22 rfl ?_
        refine V_iload_n f dX3_layDay_66 3 rfl ?_
        refine V_ialdE (x := M 27 (Int32.toNatClampNeg a)) f dX3_layDay_67 zb_27 (vk4 hk) rfl ?_
        refine V_iload f dX3_layDay_68 0 rfl ?_
        refine V_iadd f dX3_layDay_70 ?_
        refine V_iconst (v := 5) f dX3_layDay_71 (by decide) ?_
        refine V_iload_n f dX3_layDay_72 4 rfl ?_
        refine V_aload_n f dX3_layDay_73 2 rfl ?_
        refine V_getR f dX3_layDay_74 lf_3_18 rfl zb_22 rfl ?_
        refine V_iload_n f dX3_layDay_77 3 rfl ?_
        refine V_ialdE (x := M 25 (Int32.toNatClampNeg a)) f dX3_layDay_78 zb_25 (vk4 hk) rfl ?_
        refine V_isub f dX3_layDay_79 ?_
        refine V_mabs f dX3_layDay_80 ml_X3_71 ma_abs ma_ini mc_abs (by decide) (Nat.le_of_ble_eq_true rfl) (Nat.zero_le _) (Nat.zero_le _) ?_
        refine V_imul f dX3_layDay_83 ?_
        refine V_isub f dX3_layDay_84 ?_
        refine V_iast f dX3_layDay_85 zb_27 (vk5 hk) ?_
        refine V_aload_n f dX3_layDay_86 2 rfl ?_
        refine V_getR f dX3_layDay_87 lf_3_21 rfl zb_22 rfl ?_
        refine V_iload_n f dX3_layDay_90 3 rfl ?_
        refine V_iconst (v := 1) f dX3_layDay_91 (by decide) ?_
        refine V_iadd f dX3_layDay_92 ?_
        refine V_aload_n f dX3_layDay_93 2 rfl ?_
        refine V_getR f dX3_layDay_94 lf_3_21 rfl zb_22 rfl ?_
        refine V_iload_n f dX3_layDay_97 3 rfl ?_
        refine V_ialdE (x := M 26 (Int32.toNatClampNeg a)) f dX3_layDay_98 zb_26 (vk4 hk) (up_c (by decide) rfl) ?_
        refine V_iload_n f dX3_layDay_99 1 rfl ?_
        refine V_ior f dX3_layDay_100 ?_
        refine V_iast f dX3_layDay_101 zb_26 (vk5 hk) ?_
        refine V_aload_n f dX3_layDay_102 2 rfl ?_
        refine V_getR f dX3_layDay_103 lf_3_18 rfl zb_22 rfl ?_
        refine V_iload_n f dX3_layDay_106 3 rfl ?_
        refine V_iconst (v := 1) f dX3_layDay_107 (by decide) ?_
        refine V_iadd f dX3_layDay_108 ?_
        refine V_iload_n f dX3_layDay_109 4 rfl ?_
        refine V_iast f dX3_layDay_110 zb_25 (vk5 hk) ?_
        exact V_vret f q dX3_layDay_111 (Nat.zero_le _) (Nat.zero_le _) ⟨rfl, rfl, rfl, (G5_up (G5_up (G5_up ⟨GL_refl M, rfl⟩ (by decide) _ _) (by decide) _ _) (by decide) _ _)⟩
    · exact absurd c2 (ib15 hb)
set_option maxHeartbeats 4000000 in
set_option maxRecDepth 100000 in
theorem c3_X3_search (l : Launch) (D : va_G) (cy : Nat → ClassId) (X : va_W) (ad : Nat → Nat) (M : MT) (t : Int32) (a : Int32) (hd : 1 ≤ a.toInt ∧ a.toInt ≤ 3) : CtP l yX3_search cX3_search 7 none (rK 3) D cy X ad ZB M [.ref (ad 22), .ref (ad 1), .int t, .int a] (fun v M1 => v = none ∧ M1 22 5 = a ∧ GL M M1) := by
  refine Ctr.of (by decide +kernel) (Nat.le_of_ble_eq_true rfl) ?_
  intro K f q hnm hl0 hD0 hy0 hX0
  show V K ad 0 0 ZB M 0 [(0, .ref (ad 22)), (1, .ref (ad 1)), (2, .int t), (3, .int a)] []
  have outer : ∀ (n : Nat) (x : Int32) (M1 : MT), 0 ≤ x.toInt → x.toInt + (n : Nat) = (1 <<< ((4 * a) &&& 31) : Int32).toInt → M1 22 5 = a → GL M M1 → V K ad 0 0 ZB M1 40 [(5, .int x), (4, .int (1 <<< ((4 * a) &&& 31))), (0, .ref (ad 22)), (1, .ref (ad 1)), (2, .int t), (3, .int a)] [] := by
    have hN := layN hd
    intro n
    induction n with
    | zero =>
      intro x M1 h0 hx h5 hG
      refine V_iload f dX3_search_40 0 rfl ?_
      refine V_iload f dX3_search_42 1 rfl ?_
      refine V_icmp_ge (tgt := 130) f dX3_search_44 (by decide) (fun _ => ?_) (fun h => absurd (lend hx) h)
      exact V_vret f q dX3_search_130 (Nat.zero_le _) (Nat.zero_le _) ⟨rfl, rfl, rfl, h5, hG⟩
    | succ n ih =>
      intro x M1 h0 hx h5 hG
      have after : ∀ (k : Int32) (M2 : MT), M2 22 5 = a → GL M M2 → V K ad 0 0 ZB M2 84 [(6, .int k), (5, .int x), (4, .int (1 <<< ((4 * a) &&& 31))), (0, .ref (ad 22)), (1, .ref (ad 1)), (2, .int t), (3, .int a)] [] := by
        intro k M2 h5 hG
        refine V_iload f dX3_search_84 1 rfl ?_
        refine V_if_eq (tgt := 105) f dX3_search_86 (by decide) (fun c3 => ?_) (fun c3 => ?_)
        · refine V_aload_n f dX3_search_105 3 rfl ?_
          refine V_aload_n f dX3_search_106 3 rfl ?_
          refine V_getR f dX3_search_107 lf_3_24 rfl zb_22 rfl ?_
          refine V_aload_n f dX3_search_110 3 rfl ?_
          refine V_getE (x := a) f dX3_search_111 lf_3_27 rfl zb_22 h5 ?_
          refine V_ialdE (x := M2 27 (Int32.toNatClampNeg a)) f dX3_search_114 zb_27 (vd4 hd) rfl ?_
          refine V_putI f dX3_search_115 lf_3_34 lp_3_7 rfl rfl rfl rfl zb_22 ?_
          refine V_aload_n f dX3_search_118 3 rfl ?_
          refine V_iload f dX3_search_119 1 rfl ?_
          refine V_putI f dX3_search_121 lf_3_31 lp_3_6 rfl rfl rfl rfl zb_22 ?_
          refine V_iinc (v := x + 1) f dX3_search_124 1 rfl rfl (by decide) rfl ?_
          refine V_goto (tgt := 40) f dX3_search_127 (by decide) ?_
          refine V.sub [0, 2, 3, 4, 5, 6] rfl ?_
          exact ih (x + 1) _ (linc h0 hx (by omega)).1 (linc h0 hx (by omega)).2.1 (up_k (by decide) (up_k (by decide) h5)) (GL_up (GL_up hG (by decide) _ _) (by decide) _ _)
        · refine V_aload_n f dX3_search_89 3 rfl ?_
          refine V_getR f dX3_search_90 lf_3_24 rfl zb_22 rfl ?_
          refine V_aload_n f dX3_search_93 3 rfl ?_
          refine V_getE (x := a) f dX3_search_94 lf_3_27 rfl zb_22 h5 ?_
          refine V_ialdE (x := M2 27 (Int32.toNatClampNeg a)) f dX3_search_97 zb_27 (vd4 hd) rfl ?_
          refine V_aload_n f dX3_search_98 3 rfl ?_
          refine V_getE (x := M2 22 7) f dX3_search_99 lf_3_34 rfl zb_22 rfl ?_
          refine V_icmp_le (tgt := 124) f dX3_search_102 (by decide) (fun c4 => ?_) (fun c4 => ?_)
          · refine V_iinc (v := x + 1) f dX3_search_124 1 rfl rfl (by decide) rfl ?_
            refine V_goto (tgt := 40) f dX3_search_127 (by decide) ?_
            refine V.sub [0, 2, 3, 4, 5, 6] rfl ?_
            exact ih (x + 1) _ (linc h0 hx (by omega)).1 (linc h0 hx (by omega)).2.1 h5 hG
          · refine V_aload_n f dX3_search_105 3 rfl ?_
            refine V_aload_n f dX3_search_106 3 rfl ?_
            refine V_getR f dX3_search_107 lf_3_24 rfl zb_22 rfl ?_
            refine V_aload_n f dX3_search_110 3 rfl ?_
            refine V_getE (x := a) f dX3_search_111 lf_3_27 rfl zb_22 h5 ?_
            refine V_ialdE (x := M2 27 (Int32.toNatClampNeg a)) f dX3_search_114 zb_27 (vd4 hd) rfl ?_
            refine V_putI f dX3_search_115 lf_3_34 lp_3_7 rfl rfl rfl rfl zb_22 ?_
            refine V_aload_n f dX3_search_118 3 rfl ?_
            refine V_iload f dX3_search_119 1 rfl ?_
            refine V_putI f dX3_search_121 lf_3_31 lp_3_6 rfl rfl rfl rfl zb_22 ?_
            refine V_iinc (v := x + 1) f dX3_search_124 1 rfl rfl (by decide) rfl ?_
            refine V_goto (tgt := 40) f dX3_search_127 (by decide) ?_
            refine V.sub [0, 2, 3, 4, 5, 6] rfl ?_
            exact ih (x + 1) _ (linc h0 hx (by omega)).1 (linc h0 hx (by omega)).2.1 (up_k (by decide) (up_k (by decide) h5)) (GL_up (GL_up hG (by decide) _ _) (by decide) _ _)
      have inner : ∀ (q : Nat) (k : Int32) (M2 : MT), 0 ≤ k.toInt → k.toInt + (q : Nat) = a.toInt → M2 22 5 = a → GL M M2 → V K ad 0 0 ZB M2 55 [(6, .int k), (5, .int x), (4, .int (1 <<< ((4 * a) &&& 31))), (0, .ref (ad 22)), (1, .ref (ad 1)), (2, .int t), (3, .int a)] [] := by
        intro q9
        induction q9 with
        | zero =>
          intro k M2 k0 hk h5 hG
          refine V_iload f dX3_search_55 0 rfl ?_
          refine V_aload_n f dX3_search_57 3 rfl ?_
          refine V_getE (x := a) f dX3_search_58 lf_3_27 rfl zb_22 h5 ?_
          refine V_icmp_ge (tgt := 84) f dX3_search_61 (by decide) (fun _ => ?_) (fun h => absurd (lend hk) h)
          exact after k M2 h5 hG
        | succ q9 ih2 =>
          intro k M2 k0 hk h5 hG
          have kb : 0 ≤ k.toInt ∧ k.toInt ≤ 2 := by omega
          refine V_iload f dX3_search_55 0 rfl ?_
          refine V_aload_n f dX3_search_57 3 rfl ?_
          refine V_getE (x := a) f dX3_search_58 lf_3_27 rfl zb_22 h5 ?_
          refine V_icmp_ge (tgt := 84) f dX3_search_61 (by decide) (fun h => absurd h (lpos hk)) (fun _ => ?_)
          refine V_aload_n f dX3_search_64 3 rfl ?_
          refine V_iload f dX3_search_65 0 rfl ?_
          refine V_aload_n f dX3_search_67 3 rfl ?_
          refine V_iload f dX3_search_68 1 rfl ?_
          refine V_iload f dX3_search_70 0 rfl ?_
          refine V_cVi (As := [.int x, .int k]) (rest := [.int k, .ref (ad 22)]) f dX3_search_72 lk_X3_49 ml_X3_49 ins_X3_bayIn sel_X3_bayIn zb_22 (by decide) rfl (c_X3_bayIn (kl K) (kD K) (ky K) (kX K) ad M2 x k) rfl (Nat.le_of_ble_eq_true rfl) rfl ⟨by decide, by decide⟩ ⟨Nat.zero_le _, Nat.zero_le _⟩ rfl rfl ?_
          refine V_cVp (As := [.int k, .int (s_X3_bayIn M2 x k)]) (rest := []) f dX3_search_75 lk_X3_53 ml_X3_53 ins_X3_layDay sel_X3_layDay zb_22 (by decide) rfl (c3_X3_layDay _ _ _ _ ad M2 k (s_X3_bayIn M2 x k) kb (bayIn_rng _ _ _)) rfl (Nat.le_of_ble_eq_true rfl) rfl ⟨by decide, by decide⟩ ⟨Nat.zero_le _, Nat.zero_le _⟩ rfl rfl (fun v5 Mx5 hp5 => ?_)
          obtain ⟨rfl, hg5⟩ := hp5
          show V K ad 0 0 ZB Mx5 78 [(6, .int k), (5, .int x), (4, .int (1 <<< ((4 * a) &&& 31))), (0, .ref (ad 22)), (1, .ref (ad 1)), (2, .int t), (3, .int a)] []
          refine V_iinc (v := k + 1) f dX3_search_78 0 rfl rfl (by decide) rfl ?_
          refine V_goto (tgt := 55) f dX3_search_81 (by decide) ?_
          exact ih2 (k + 1) _ (by have := k1 kb; omega) (by have := k1 kb; omega) (by rw [hg5.2]; exact h5) (fun i hi => (hg5.1 i hi).trans (hG i hi))
      refine V_iload f dX3_search_40 0 rfl ?_
      refine V_iload f dX3_search_42 1 rfl ?_
      refine V_icmp_ge (tgt := 130) f dX3_search_44 (by decide) (fun h => absurd h (lpos hx)) (fun _ => ?_)
      refine V_aload_n f dX3_search_47 2 rfl ?_
      refine V_iload f dX3_search_48 0 rfl ?_
      refine V_cVp (As := [.int x]) (rest := []) f dX3_search_50 lk_X3_45 ml_X3_45 ins_X3_firstChanged sel_X3_firstChanged zb_22 (by decide) rfl (c1_X3_firstChanged _ _ _ _ ad M1 x a h5 hd) rfl (Nat.le_of_ble_eq_true rfl) rfl ⟨by decide, by decide⟩ ⟨Nat.zero_le _, Nat.zero_le _⟩ rfl rfl (fun v6 Mx6 hp6 => ?_)
      obtain ⟨r6, rfl, e6, r0, r1, -⟩ := hp6
      rw [e6]
      show V K ad 0 0 ZB M1 53 [(5, .int x), (4, .int (1 <<< ((4 * a) &&& 31))), (0, .ref (ad 22)), (1, .ref (ad 1)), (2, .int t), (3, .int a)] [.int r6]
      refine V_istore f dX3_search_53 (by decide) rfl ?_
      exact inner (a.toInt - r6.toInt).toNat r6 M1 r0 (by omega) h5 hG
  refine V_iload_n f dX3_search_0 3 rfl ?_
  refine V_iconst (v := 1) f dX3_search_1 (by decide) ?_
  refine V_iconst (v := 3) f dX3_search_2 (by decide) ?_
  refine V_cNi (As := [.int a, .int 1, .int 3]) (rest := []) f dX3_search_3 lk_X3_37 nl_X3_37 sta_X8_within (c_X8_within (kl K) (kD K) (ky K) (kX K) ad M a 1 3) rfl (Nat.le_of_ble_eq_true rfl) rfl ⟨by decide, by decide⟩ ⟨Nat.zero_le _, Nat.zero_le _⟩ rfl rfl ?_
  refine V_if_ne (tgt := 10) f dX3_search_6 (by decide) (fun c1 => ?_) (fun c1 => ?_)
  · refine V_aload_n f dX3_search_10 0 rfl ?_
    refine V_iload_n f dX3_search_11 3 rfl ?_
    refine V_putI f dX3_search_12 lf_3_27 lp_3_5 rfl rfl rfl rfl zb_22 ?_
    refine V_aload_n f dX3_search_15 0 rfl ?_
    refine V_aload_n f dX3_search_16 1 rfl ?_
    refine V_cVp (As := [.ref (ad 1)]) (rest := []) f dX3_search_17 lk_X3_41 ml_X3_41 ins_X3_weigh sel_X3_weigh zb_22 (by decide) rfl (c3_X3_weigh _ _ _ _ ad (up2 M 22 5 a) ) rfl (Nat.le_of_ble_eq_true rfl) rfl ⟨by decide, by decide⟩ ⟨Nat.zero_le _, Nat.zero_le _⟩ rfl rfl (fun v2 Mx2 hp2 => ?_)
    obtain ⟨rfl, hg2⟩ := hp2
    show V K ad 0 0 ZB Mx2 20 [(0, .ref (ad 22)), (1, .ref (ad 1)), (2, .int t), (3, .int a)] []
    refine V_aload_n f dX3_search_20 0 rfl ?_
    refine V_getR f dX3_search_21 lf_3_18 rfl zb_22 rfl ?_
    refine V_iconst (v := 0) f dX3_search_24 (by decide) ?_
    refine V_iload_n f dX3_search_25 2 rfl ?_
    refine V_iast f dX3_search_26 zb_25 (by unfold vp_in; decide) ?_
    refine V_iconst (v := 1) f dX3_search_27 (by decide) ?_
    refine V_iconst (v := 4) f dX3_search_28 (by decide) ?_
    refine V_aload_n f dX3_search_29 0 rfl ?_
    refine V_getE (x := a) f dX3_search_30 lf_3_27 rfl zb_22 (up_c (by decide) (by rw [hg2.2]; exact up_s)) ?_
    refine V_imul f dX3_search_33 ?_
    refine V_ishl f dX3_search_34 ?_
    refine V_istore f dX3_search_35 (by decide) rfl ?_
    refine V_iconst (v := 0) f dX3_search_37 (by decide) ?_
    refine V_istore f dX3_search_38 (by decide) rfl ?_
    exact outer (1 <<< ((4 * a) &&& 31) : Int32).toInt.toNat 0 _ (by decide) (by have := layN hd; have e0 : (0 : Int32).toInt = 0 := (by decide); omega) (up_c (by decide) (by rw [hg2.2]; exact up_s)) (GL_up (fun i hi => (hg2.1 i hi).trans (upo (fun e => hi (by omega)))) (by decide) _ _)
  · exact absurd c1 (wk3 hd)
theorem Kp_lay {M M1 : MT} (h : InvB M) (e : GL M M1) : Kp dP M M1 := by
  refine ⟨?_, by rw [e 0 (by omega)], by rw [e 0 (by omega)], by rw [e 0 (by omega)], by rw [e 0 (by omega)], by rw [e 0 (by omega)], fun i hi => e i (by unfold dP at hi; omega)⟩
  obtain ⟨h1, h2, h3, h4, h5⟩ := h
  refine ⟨by rw [e 0 (by omega)]; exact h1, by rw [e 0 (by omega)]; exact h2, by rw [e 15 (by omega)]; exact h3, by rw [e 18 (by omega)]; exact h4, fun j hj => ?_⟩
  have hl := h5 j hj
  unfold LwOk at hl ⊢
  rcases hj with rfl | ⟨b, hb, rfl⟩
  · rw [e 4 (by omega), e (4 + 5) (by omega)]; exact hl
  · rw [e (54 + 10 * b) (by omega), e (54 + 10 * b + 5) (by omega)]; exact hl
set_option maxHeartbeats 4000000 in
set_option maxRecDepth 100000 in
theorem c3_X8_best (l : Launch) (D : va_G) (cy : Nat → ClassId) (X : va_W) (ad : Nat → Nat) (M : MT) (a : Int32) (b : Int32) (hI : InvB M) : CtP l yX8_best cX8_best 3 (some .int) (rK 4) D cy X ad ZB M [.ref (ad 0), .int a, .int b] (fun v M1 => (∃ r : Int32, v = some (.int r)) ∧ Kp dP M M1) := by
  refine Ctr.of (by decide +kernel) (Nat.le_of_ble_eq_true rfl) ?_
  intro K f q hnm hl0 hD0 hy0 hX0
  show V K ad 0 0 ZB M 0 [(0, .ref (ad 0)), (1, .int a), (2, .int b)] []
  refine V_iload_n f dX8_best_0 1 rfl ?_
  refine V_iconst (v := 1) f dX8_best_1 (by decide) ?_
  refine V_iconst (v := 3) f dX8_best_2 (by decide) ?_
  refine V_cSi (As := [.int a, .int 1, .int 3]) (rest := []) f dX8_best_3 lk_X8_90 ml_X8_90 sta_X8_within (c_X8_within (kl K) (kD K) (ky K) (kX K) ad M a 1 3) rfl (Nat.le_of_ble_eq_true rfl) rfl ⟨by decide, by decide⟩ ⟨Nat.zero_le _, Nat.zero_le _⟩ rfl rfl ?_
  refine V_if_eq (tgt := 20) f dX8_best_6 (by decide) (fun c1 => ?_) (fun c1 => ?_)
  · refine V_iconst (v := (-1)) f dX8_best_20 (by decide) ?_
    exact V_iret f q dX8_best_21 rfl (Nat.zero_le _) (Nat.zero_le _) ⟨rfl, rfl, ⟨(-1), rfl⟩, Kp_refl hI⟩
  · refine V_iload_n f dX8_best_9 2 rfl ?_
    refine V_iconst (v := (-1)) f dX8_best_10 (by decide) ?_
    refine V_iload_n f dX8_best_11 1 rfl ?_
    refine V_iconst (v := 1) f dX8_best_12 (by decide) ?_
    refine V_isub f dX8_best_13 ?_
    refine V_cSi (As := [.int b, .int (-1), .int (a - 1)]) (rest := []) f dX8_best_14 lk_X8_90 ml_X8_90 sta_X8_within (c_X8_within (kl K) (kD K) (ky K) (kX K) ad M b (-1) (a - 1)) rfl (Nat.le_of_ble_eq_true rfl) rfl ⟨by decide, by decide⟩ ⟨Nat.zero_le _, Nat.zero_le _⟩ rfl rfl ?_
    refine V_if_ne (tgt := 22) f dX8_best_17 (by decide) (fun c2 => ?_) (fun c2 => ?_)
    · refine V_aload_n f dX8_best_22 0 rfl ?_
      refine V_getR f dX8_best_23 lf_8_58 rfl zb_0 rfl ?_
      refine V_aload_n f dX8_best_26 0 rfl ?_
      refine V_getR f dX8_best_27 lf_8_11 rfl zb_0 rfl ?_
      refine V_aload_n f dX8_best_30 0 rfl ?_
      refine V_getE (x := M 0 11) f dX8_best_31 lf_8_72 rfl zb_0 rfl ?_
      refine V_iload_n f dX8_best_34 1 rfl ?_
      refine V_cVp (As := [.ref (ad 1), .int (M 0 11), .int a]) (rest := []) f dX8_best_35 lk_X8_209 ml_X8_209 ins_X3_search sel_X3_search zb_22 (by decide) rfl (c3_X3_search _ _ _ _ ad M (M 0 11) a (d13 c1)) rfl (Nat.le_of_ble_eq_true rfl) rfl ⟨by decide, by decide⟩ ⟨Nat.zero_le _, Nat.zero_le _⟩ rfl rfl (fun v3 Mx3 hp3 => ?_)
      obtain ⟨rfl, -, hG3⟩ := hp3
      show V K ad 0 0 ZB Mx3 38 [(0, .ref (ad 0)), (1, .int a), (2, .int b)] []
      refine V_iload_n f dX8_best_38 2 rfl ?_
      refine V_iconst (v := (-1)) f dX8_best_39 (by decide) ?_
      refine V_icmp_ne (tgt := 53) f dX8_best_40 (by decide) (fun c4 => ?_) (fun c4 => ?_)
      · refine V_aload_n f dX8_best_53 0 rfl ?_
        refine V_getR f dX8_best_54 lf_8_58 rfl zb_0 rfl ?_
        refine V_iload_n f dX8_best_57 2 rfl ?_
        refine V_cVi (As := [.int b]) (rest := []) f dX8_best_58 lk_X8_216 ml_X8_216 ins_X3_bestBay sel_X3_bestBay zb_22 (by decide) rfl (c_X3_bestBay (kl K) (kD K) (ky K) (kX K) ad Mx3 b) rfl (Nat.le_of_ble_eq_true rfl) rfl ⟨by decide, by decide⟩ ⟨Nat.zero_le _, Nat.zero_le _⟩ rfl rfl ?_
        exact V_iret f q dX8_best_61 rfl (Nat.zero_le _) (Nat.zero_le _) ⟨rfl, rfl, ⟨(s_X3_bestBay Mx3 b), rfl⟩, Kp_lay hI hG3⟩
      · refine V_aload_n f dX8_best_43 0 rfl ?_
        refine V_getR f dX8_best_44 lf_8_58 rfl zb_0 rfl ?_
        refine V_getE (x := Mx3 22 7) f dX8_best_47 lf_8_213 rfl zb_22 rfl ?_
        refine V_goto (tgt := 61) f dX8_best_50 (by decide) ?_
        exact V_iret f q dX8_best_61 rfl (Nat.zero_le _) (Nat.zero_le _) ⟨rfl, rfl, ⟨(Mx3 22 7), rfl⟩, Kp_lay hI hG3⟩
    · refine V_iconst (v := (-1)) f dX8_best_20 (by decide) ?_
      exact V_iret f q dX8_best_21 rfl (Nat.zero_le _) (Nat.zero_le _) ⟨rfl, rfl, ⟨(-1), rfl⟩, Kp_refl hI⟩

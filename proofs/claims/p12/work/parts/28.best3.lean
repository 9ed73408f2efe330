theorem frB_22 {M : MT} (h : FrB M) (k : Nat) (v : Int32) : FrB (up2 M 22 k v) := by
  obtain ⟨h0, h1, h2, h3, h4, h5, h6, h7, h8, h9, h10, h11, h12, h13, h14, h15, h16, hz⟩ := h
  refine ⟨up_c (by decide) h0, up_c (by decide) h1, up_c (by decide) h2, up_c (by decide) h3, up_c (by decide) h4, up_c (by decide) h5, up_c (by decide) h6, up_c (by decide) h7, up_c (by decide) h8, up_c (by decide) h9, up_c (by decide) h10, up_c (by decide) h11, up_c (by decide) h12, up_c (by decide) h13, up_c (by decide) h14, up_c (by decide) h15, up_c (by decide) h16, fun b hb => ?_⟩
  obtain ⟨g0, g1, g2, g3, g4, g5, g6⟩ := hz b hb
  exact ⟨up_c (by omega) g0, up_c (by omega) g1, up_c (by omega) g2, up_c (by omega) g3, up_c (by omega) g4, up_c (by omega) g5, up_c (by omega) g6⟩
theorem layN {a : Int32} (h : 1 ≤ a.toInt ∧ a.toInt ≤ 3) : 1 ≤ ((1 : Int32) <<< ((4 * a) &&& 31)).toInt ∧ ((1 : Int32) <<< ((4 * a) &&& 31)).toInt ≤ 4096 := by
  have key : ∀ d : Fin 4, 1 ≤ d.val → 1 ≤ ((1 : Int32) <<< ((4 * Int32.ofNat d.val) &&& 31)).toInt ∧ ((1 : Int32) <<< ((4 * Int32.ofNat d.val) &&& 31)).toInt ≤ 4096 := by decide
  have e1 : a = Int32.ofNat a.toInt.toNat := Int32.toInt_inj.mp (by rw [show (Int32.ofNat a.toInt.toNat) = nI a.toInt.toNat from rfl, nI_toInt (by omega)]; omega)
  rw [e1]
  exact key ⟨a.toInt.toNat, by omega⟩ (by show 1 ≤ a.toInt.toNat; omega)
theorem wk3 {M : MT} {a : Int32} (h : 1 ≤ a.toInt ∧ a.toInt ≤ 3) : ¬ s_X8_within M a 1 3 = 0 := by
  have e0 : (1 : Int32).toInt = 1 := by decide
  have e2 : (3 : Int32).toInt = 3 := by decide
  have h1 : ¬ a < 1 := by rw [Int32.lt_iff_toInt_lt]; omega
  have h2 : ¬ 3 < a := by rw [Int32.lt_iff_toInt_lt]; omega
  unfold s_X8_within
  rw [if_neg h1, if_neg h2]
  decide
theorem SI_start {M M1 : MT} {a : Int32} (hW : We2 16 (up2 M 22 5 a) M1) (f5 : M 25 = fun _ => 0) (f7 : M 27 = fun _ => 0) : SI a (up2 M1 25 (Int32.toNatClampNeg 0) 0) := by
  obtain ⟨w1, w2, w3⟩ := hW
  have e5 : M1 25 = fun _ => 0 := by rw [w3 25 (by decide) (by decide), ← f5]; rfl
  have e7 : M1 27 = fun _ => 0 := by rw [w3 27 (by decide) (by decide), ← f7]; rfl
  have z5 : ∀ j, up2 M1 25 (Int32.toNatClampNeg 0) 0 25 j = 0 := by
    intro j
    by_cases e : j = Int32.toNatClampNeg 0
    · subst e; exact up_s
    · exact up_k e (by rw [e5])
  have z7 : ∀ j, up2 M1 25 (Int32.toNatClampNeg 0) 0 27 j = 0 := fun j => up_c (by decide) (by rw [e7])
  have t0 : (0 : Int32).toInt = 0 := by decide
  refine ⟨up_c (by decide) (by rw [w3 22 (by decide) (by decide)]; exact up_s), fun j hj => up_c (by decide) (w1 j hj), fun j hj => up_c (by decide) (w2 j hj), fun j hj => ?_, fun j hj => ?_, z7 0, z5 0⟩
  · rw [z5 j]; decide
  · rw [z7 j, t0]; omega
theorem lpos {x y : Int32} {n : Nat} (h : x.toInt + (n + 1 : Nat) = y.toInt) : ¬ y ≤ x := by rw [Int32.le_iff_toInt_le]; omega
theorem lend {x y : Int32} (h : x.toInt + (0 : Nat) = y.toInt) : y ≤ x := by rw [Int32.le_iff_toInt_le]; omega
theorem linc {x y : Int32} {n : Nat} (h0 : 0 ≤ x.toInt) (h : x.toInt + (n + 1 : Nat) = y.toInt) (hy : y.toInt ≤ 5000) : 0 ≤ (x + 1).toInt ∧ (x + 1).toInt + (n : Nat) = y.toInt ∧ ¬ x + 1 = 0 := by
  have := i32_add (x := x) h0 (by omega) (k := 1) (by decide) (by decide)
  have e1 : (1 : Int32).toInt = 1 := by decide
  refine ⟨by omega, by omega, fun e => ?_⟩
  rw [e] at this
  have e0 : (0 : Int32).toInt = 0 := by decide
  omega
theorem vd4 {a : Int32} (h : 1 ≤ a.toInt ∧ a.toInt ≤ 3) : vp_in a 4 := by rw [vp_in_iff]; omega
theorem sle {a : Int32} {M : MT} (hS : SI a M) (h : 1 ≤ a.toInt ∧ a.toInt ≤ 3) : M 27 (Int32.toNatClampNeg a) ≤ 0 := by
  have := (hS.2.2.2.2.1 _ (vlt (vd4 h))).2
  have e0 : (0 : Int32).toInt = 0 := by decide
  rw [Int32.le_iff_toInt_le]; omega
theorem SI_22 {a v : Int32} {M : MT} {k : Nat} (hS : SI a M) (hk : ¬ 5 = k) : SI a (up2 M 22 k v) := by
  obtain ⟨h1, h2, h3, h4, h5, h6, h7⟩ := hS
  refine ⟨up_k hk h1, fun j hj => up_c (by decide) (h2 j hj), fun j hj => up_c (by decide) (h3 j hj), fun j hj => ?_, fun j hj => ?_, up_c (by decide) h6, up_c (by decide) h7⟩
  · rw [up_n (show (25 : Nat) ≠ 22 by decide)]; exact h4 j hj
  · rw [up_n (show (27 : Nat) ≠ 22 by decide)]; exact h5 j hj
set_option maxHeartbeats 4000000 in
set_option maxRecDepth 100000 in
theorem c1_X3_search (l : Launch) (D : va_G) (cy : Nat → ClassId) (X : va_W) (ad : Nat → Nat) (M : MT) (a : Int32) (fr : FrB M) (f5 : M 25 = fun _ => 0) (f7 : M 27 = fun _ => 0) (hd : 1 ≤ a.toInt ∧ a.toInt ≤ 3) : CtP l yX3_search cX3_search 7 none (rK 3) D cy X ad ZB M [.ref (ad 22), .ref (ad 1), .int 0, .int a] (fun v M1 => v = none ∧ M1 22 5 = a ∧ M1 22 6 = 0 ∧ M1 22 7 = 0) := by
  refine Ctr.of (by decide +kernel) (Nat.le_of_ble_eq_true rfl) ?_
  intro K f q hnm hl0 hD0 hy0 hX0
  show V K ad 0 0 ZB M 0 [(0, .ref (ad 22)), (1, .ref (ad 1)), (2, .int 0), (3, .int a)] []
  have outer : ∀ (n : Nat) (x : Int32) (M1 : MT), 0 ≤ x.toInt → x.toInt + (n : Nat) = (1 <<< ((4 * a) &&& 31) : Int32).toInt → SI a M1 → (x = 0 ∨ (M1 22 6 = 0 ∧ M1 22 7 = 0)) → V K ad 0 0 ZB M1 40 [(5, .int x), (4, .int (1 <<< ((4 * a) &&& 31))), (0, .ref (ad 22)), (1, .ref (ad 1)), (2, .int 0), (3, .int a)] [] := by
    have hN := layN hd
    intro n
    induction n with
    | zero =>
      intro x M1 h0 hx hS hB
      refine V_iload f dX3_search_40 0 rfl ?_
      refine V_iload f dX3_search_42 1 rfl ?_
      refine V_icmp_ge (tgt := 130) f dX3_search_44 (by decide) (fun _ => ?_) (fun h => absurd (lend hx) h)
      exact V_vret f q dX3_search_130 (Nat.zero_le _) (Nat.zero_le _) ⟨rfl, rfl, rfl, hS.1, hB.resolve_left (fun e => by rw [e] at hx; have e0 : (0 : Int32).toInt = 0 := (by decide); omega)⟩
    | succ n ih =>
      intro x M1 h0 hx hS hB
      have after : ∀ (k : Int32) (M2 : MT), SI a M2 → (x = 0 → M2 27 (Int32.toNatClampNeg a) = 0) → (x = 0 ∨ (M2 22 6 = 0 ∧ M2 22 7 = 0)) → V K ad 0 0 ZB M2 84 [(6, .int k), (5, .int x), (4, .int (1 <<< ((4 * a) &&& 31))), (0, .ref (ad 22)), (1, .ref (ad 1)), (2, .int 0), (3, .int a)] [] := by
        intro k M2 hS2 hz2 hB2
        rcases Decidable.em (x = 0) with ex | ex
        · refine V_iload f dX3_search_84 1 rfl ?_
          refine V_if_eq (tgt := 105) f dX3_search_86 (by decide) (fun _ => ?_) (fun h => absurd ex h)
          refine V_aload_n f dX3_search_105 3 rfl ?_
          refine V_aload_n f dX3_search_106 3 rfl ?_
          refine V_getR f dX3_search_107 lf_3_24 rfl zb_22 rfl ?_
          refine V_aload_n f dX3_search_110 3 rfl ?_
          refine V_getE (x := a) f dX3_search_111 lf_3_27 rfl zb_22 hS2.1 ?_
          refine V_ialdE (x := M2 27 (Int32.toNatClampNeg a)) f dX3_search_114 zb_27 (vd4 hd) rfl ?_
          refine V_putI f dX3_search_115 lf_3_34 lp_3_7 rfl rfl rfl rfl zb_22 ?_
          refine V_aload_n f dX3_search_118 3 rfl ?_
          refine V_iload f dX3_search_119 1 rfl ?_
          refine V_putI f dX3_search_121 lf_3_31 lp_3_6 rfl rfl rfl rfl zb_22 ?_
          refine V_iinc (v := x + 1) f dX3_search_124 1 rfl rfl (by decide) rfl ?_
          refine V_goto (tgt := 40) f dX3_search_127 (by decide) ?_
          refine V.sub [0, 2, 3, 4, 5, 6] rfl ?_
          exact ih (x + 1) _ (linc h0 hx (by omega)).1 (linc h0 hx (by omega)).2.1 (SI_22 (SI_22 hS2 (by decide)) (by decide)) (Or.inr ⟨up_s.trans ex, up_k (by decide) (up_s.trans (hz2 ex))⟩)
        · refine V_iload f dX3_search_84 1 rfl ?_
          refine V_if_eq (tgt := 105) f dX3_search_86 (by decide) (fun h => absurd h ex) (fun _ => ?_)
          refine V_aload_n f dX3_search_89 3 rfl ?_
          refine V_getR f dX3_search_90 lf_3_24 rfl zb_22 rfl ?_
          refine V_aload_n f dX3_search_93 3 rfl ?_
          refine V_getE (x := a) f dX3_search_94 lf_3_27 rfl zb_22 hS2.1 ?_
          refine V_ialdE (x := M2 27 (Int32.toNatClampNeg a)) f dX3_search_97 zb_27 (vd4 hd) rfl ?_
          refine V_aload_n f dX3_search_98 3 rfl ?_
          refine V_getE (x := 0) f dX3_search_99 lf_3_34 rfl zb_22 (hB2.resolve_left ex).2 ?_
          refine V_icmp_le (tgt := 124) f dX3_search_102 (by decide) (fun _ => ?_) (fun h => absurd (sle hS2 hd) h)
          refine V_iinc (v := x + 1) f dX3_search_124 1 rfl rfl (by decide) rfl ?_
          refine V_goto (tgt := 40) f dX3_search_127 (by decide) ?_
          refine V.sub [0, 2, 3, 4, 5, 6] rfl ?_
          exact ih (x + 1) _ (linc h0 hx (by omega)).1 (linc h0 hx (by omega)).2.1 hS2 (Or.inr (hB2.resolve_left ex))
      have inner : ∀ (q : Nat) (k : Int32) (M2 : MT), 0 ≤ k.toInt → k.toInt + (q : Nat) = a.toInt → SI a M2 → (x = 0 → SZ k.toNatClampNeg M2) → (x = 0 ∨ (M2 22 6 = 0 ∧ M2 22 7 = 0)) → V K ad 0 0 ZB M2 55 [(6, .int k), (5, .int x), (4, .int (1 <<< ((4 * a) &&& 31))), (0, .ref (ad 22)), (1, .ref (ad 1)), (2, .int 0), (3, .int a)] [] := by
        intro q9
        induction q9 with
        | zero =>
          intro k M2 k0 hk hS2 hz2 hB2
          have ek : k = a := Int32.toInt_inj.mp (by omega)
          refine V_iload f dX3_search_55 0 rfl ?_
          refine V_aload_n f dX3_search_57 3 rfl ?_
          refine V_getE (x := a) f dX3_search_58 lf_3_27 rfl zb_22 hS2.1 ?_
          refine V_icmp_ge (tgt := 84) f dX3_search_61 (by decide) (fun _ => ?_) (fun h => absurd (lend hk) h)
          exact after k M2 hS2 (fun ex => by rw [← ek]; exact (hz2 ex _ (Nat.le_refl _)).1) hB2
        | succ q9 ih2 =>
          intro k M2 k0 hk hS2 hz2 hB2
          have kb : 0 ≤ k.toInt ∧ k.toInt ≤ 2 := by omega
          refine V_iload f dX3_search_55 0 rfl ?_
          refine V_aload_n f dX3_search_57 3 rfl ?_
          refine V_getE (x := a) f dX3_search_58 lf_3_27 rfl zb_22 hS2.1 ?_
          refine V_icmp_ge (tgt := 84) f dX3_search_61 (by decide) (fun h => absurd h (lpos hk)) (fun _ => ?_)
          refine V_aload_n f dX3_search_64 3 rfl ?_
          refine V_iload f dX3_search_65 0 rfl ?_
          refine V_aload_n f dX3_search_67 3 rfl ?_
          refine V_iload f dX3_search_68 1 rfl ?_
          refine V_iload f dX3_search_70 0 rfl ?_
          refine V_cVi (As := [.int x, .int k]) (rest := [.int k, .ref (ad 22)]) f dX3_search_72 lk_X3_49 ml_X3_49 ins_X3_bayIn sel_X3_bayIn zb_22 (by decide) rfl (c_X3_bayIn (kl K) (kD K) (ky K) (kX K) ad M2 x k) rfl (Nat.le_of_ble_eq_true rfl) rfl ⟨by decide, by decide⟩ ⟨Nat.zero_le _, Nat.zero_le _⟩ rfl rfl ?_
          refine V_cVv (As := [.int k, .int (s_X3_bayIn M2 x k)]) (rest := []) f dX3_search_75 lk_X3_53 ml_X3_53 ins_X3_layDay sel_X3_layDay zb_22 (by decide) rfl (c1_X3_layDay (kl K) (kD K) (ky K) (kX K) ad M2 k (s_X3_bayIn M2 x k) kb (bayIn_rng _ _ _) hS2.2.1 hS2.2.2.1) rfl (Nat.le_of_ble_eq_true rfl) rfl ⟨by decide, by decide⟩ ⟨Nat.zero_le _, Nat.zero_le _⟩ rfl rfl ?_
          refine V_iinc (v := k + 1) f dX3_search_78 0 rfl rfl (by decide) rfl ?_
          refine V_goto (tgt := 55) f dX3_search_81 (by decide) ?_
          refine ih2 (k + 1) _ (by have := k1 kb; omega) (by have := k1 kb; omega) (lay_SI hS2 kb (bayIn_rng _ _ _)) (fun ex => ?_) (hB2.imp id (fun h => ⟨(lay_22 _ _ _ 6).trans h.1, (lay_22 _ _ _ 7).trans h.2⟩))
          rw [kn1 kb, ex, bayIn_0 hS2.1 hd (by omega)]
          exact lay_SZ (hz2 ex) kb
      refine V_iload f dX3_search_40 0 rfl ?_
      refine V_iload f dX3_search_42 1 rfl ?_
      refine V_icmp_ge (tgt := 130) f dX3_search_44 (by decide) (fun h => absurd h (lpos hx)) (fun _ => ?_)
      refine V_aload_n f dX3_search_47 2 rfl ?_
      refine V_iload f dX3_search_48 0 rfl ?_
      refine V_cVp (As := [.int x]) (rest := []) f dX3_search_50 lk_X3_45 ml_X3_45 ins_X3_firstChanged sel_X3_firstChanged zb_22 (by decide) rfl (c1_X3_firstChanged _ _ _ _ ad M1 x a hS.1 hd) rfl (Nat.le_of_ble_eq_true rfl) rfl ⟨by decide, by decide⟩ ⟨Nat.zero_le _, Nat.zero_le _⟩ rfl rfl (fun v1 M2 hp => ?_)
      obtain ⟨r, rfl, rfl, r0, r1, rz⟩ := hp
      show V K ad 0 0 ZB M2 53 [(5, .int x), (4, .int (1 <<< ((4 * a) &&& 31))), (0, .ref (ad 22)), (1, .ref (ad 1)), (2, .int 0), (3, .int a)] [.int r]
      refine V_istore f dX3_search_53 (by decide) rfl ?_
      exact inner (a.toInt - r.toInt).toNat r M2 r0 (by omega) hS (fun ex => by rw [rz ex]; intro j hj; obtain rfl : j = 0 := Nat.le_zero.mp hj; exact ⟨hS.2.2.2.2.2.1, hS.2.2.2.2.2.2⟩) hB
  refine V_iload_n f dX3_search_0 3 rfl ?_
  refine V_iconst (v := 1) f dX3_search_1 (by decide) ?_
  refine V_iconst (v := 3) f dX3_search_2 (by decide) ?_
  refine V_cNi (As := [.int a, .int 1, .int 3]) (rest := []) f dX3_search_3 lk_X3_37 nl_X3_37 sta_X8_within (c_X8_within (kl K) (kD K) (ky K) (kX K) ad M a 1 3) rfl (Nat.le_of_ble_eq_true rfl) rfl ⟨by decide, by decide⟩ ⟨Nat.zero_le _, Nat.zero_le _⟩ rfl rfl ?_
  refine V_if_ne (tgt := 10) f dX3_search_6 (by decide) (fun c1 => ?_) (fun c1 => ?_)
  · refine V_aload_n f dX3_search_10 0 rfl ?_
    refine V_iload_n f dX3_search_11 3 rfl ?_
    refine V_putI f dX3_search_12 lf_3_27 lp_3_5 rfl rfl rfl rfl zb_22 ?_
    refine V_aload_n f dX3_search_15 0 rfl ?_
    refine V_aload_n f dX3_search_16 1 rfl ?_
    refine V_cVp (As := [.ref (ad 1)]) (rest := []) f dX3_search_17 lk_X3_41 ml_X3_41 ins_X3_weigh sel_X3_weigh zb_22 (by decide) rfl (c1_X3_weigh _ _ _ _ ad _ (frB_22 fr 5 a)) rfl (Nat.le_of_ble_eq_true rfl) rfl ⟨by decide, by decide⟩ ⟨Nat.zero_le _, Nat.zero_le _⟩ rfl rfl (fun v1 M1 hp => ?_)
    obtain ⟨rfl, hW⟩ := hp
    have h5w : M1 22 5 = a := by rw [hW.2.2 22 (by decide) (by decide)]; exact up_s
    show V K ad 0 0 ZB M1 20 [(0, .ref (ad 22)), (1, .ref (ad 1)), (2, .int 0), (3, .int a)] []
    refine V_aload_n f dX3_search_20 0 rfl ?_
    refine V_getR f dX3_search_21 lf_3_18 rfl zb_22 rfl ?_
    refine V_iconst (v := 0) f dX3_search_24 (by decide) ?_
    refine V_iload_n f dX3_search_25 2 rfl ?_
    refine V_iast f dX3_search_26 zb_25 (by unfold vp_in; decide) ?_
    refine V_iconst (v := 1) f dX3_search_27 (by decide) ?_
    refine V_iconst (v := 4) f dX3_search_28 (by decide) ?_
    refine V_aload_n f dX3_search_29 0 rfl ?_
    refine V_getE (x := a) f dX3_search_30 lf_3_27 rfl zb_22 (up_c (by decide) h5w) ?_
    refine V_imul f dX3_search_33 ?_
    refine V_ishl f dX3_search_34 ?_
    refine V_istore f dX3_search_35 (by decide) rfl ?_
    refine V_iconst (v := 0) f dX3_search_37 (by decide) ?_
    refine V_istore f dX3_search_38 (by decide) rfl ?_
    exact outer (1 <<< ((4 * a) &&& 31) : Int32).toInt.toNat 0 _ (by decide) (by have := layN hd; have e0 : (0 : Int32).toInt = 0 := (by decide); omega) (SI_start hW f5 f7) (Or.inl rfl)
  · exact absurd c1 (wk3 hd)

def s_X3_nearBits (M : MT) (a : Int32) : Int32 := ((7 <<< (a &&& 31)) >>> (1 &&& 31))
set_option maxHeartbeats 4000000 in
set_option maxRecDepth 100000 in
theorem c_X3_nearBits (l : Launch) (D : va_G) (cy : Nat → ClassId) (X : va_W) (ad : Nat → Nat) {Z : ZT} (M : MT) (a : Int32) : CtI l yX3_nearBits cX3_nearBits 1 .int (rK 0) D cy X ad Z M [.int a] (s_X3_nearBits M a) M := by
  refine Ctr.of (by decide +kernel) (Nat.le_of_ble_eq_true rfl) ?_
  intro K f q hnm hl0 hD0 hy0 hX0
  show V K ad 0 0 Z M 0 [(0, .int a)] []
  refine V_bipush (v := 7) f dX3_nearBits_0 (by decide) ?_
  refine V_iload_n f dX3_nearBits_2 0 rfl ?_
  refine V_ishl f dX3_nearBits_3 ?_
  refine V_iconst (v := 1) f dX3_nearBits_4 (by decide) ?_
  refine V_ishr f dX3_nearBits_5 ?_
  exact V_iret f q dX3_nearBits_6 rfl (Nat.zero_le _) (Nat.zero_le _) ⟨rfl, rfl, (by simp only [s_X3_nearBits]), rfl⟩
def s_X3_bayIn (M : MT) (a : Int32) (b : Int32) : Int32 := ((a >>> ((4 * (((M 22 5) - 1) - b)) &&& 31)) &&& 15)
set_option maxHeartbeats 4000000 in
set_option maxRecDepth 100000 in
theorem c_X3_bayIn (l : Launch) (D : va_G) (cy : Nat → ClassId) (X : va_W) (ad : Nat → Nat) (M : MT) (a : Int32) (b : Int32) : CtI l yX3_bayIn cX3_bayIn 3 .int (rK 0) D cy X ad ZB M [.ref (ad 22), .int a, .int b] (s_X3_bayIn M a b) M := by
  refine Ctr.of (by decide +kernel) (Nat.le_of_ble_eq_true rfl) ?_
  intro K f q hnm hl0 hD0 hy0 hX0
  show V K ad 0 0 ZB M 0 [(0, .ref (ad 22)), (1, .int a), (2, .int b)] []
  refine V_iload_n f dX3_bayIn_0 1 rfl ?_
  refine V_iconst (v := 4) f dX3_bayIn_1 (by decide) ?_
  refine V_aload_n f dX3_bayIn_2 0 rfl ?_
  refine V_getE (x := M 22 5) f dX3_bayIn_3 lf_3_27 rfl zb_22 rfl ?_
  refine V_iconst (v := 1) f dX3_bayIn_6 (by decide) ?_
  refine V_isub f dX3_bayIn_7 ?_
  refine V_iload_n f dX3_bayIn_8 2 rfl ?_
  refine V_isub f dX3_bayIn_9 ?_
  refine V_imul f dX3_bayIn_10 ?_
  refine V_ishr f dX3_bayIn_11 ?_
  refine V_bipush (v := 15) f dX3_bayIn_12 (by decide) ?_
  refine V_iand f dX3_bayIn_14 ?_
  exact V_iret f q dX3_bayIn_15 rfl (Nat.zero_le _) (Nat.zero_le _) ⟨rfl, rfl, (by simp only [s_X3_bayIn]), rfl⟩
theorem and15 (x : Int32) : 0 ≤ (x &&& 15).toInt ∧ (x &&& 15).toInt ≤ 15 := by
  have h : ∀ y : BitVec 32, 0 ≤ (y &&& 15#32).toInt ∧ (y &&& 15#32).toInt ≤ 15 := by
    intro y
    have h1 : (y &&& 15#32).toNat ≤ 15 := by
      rw [BitVec.toNat_and]
      exact Nat.and_le_right
    rw [BitVec.toInt_eq_toNat_cond]
    have h2 : 2 * (y &&& 15#32).toNat < 2 ^ 32 := by omega
    rw [if_pos h2]
    omega
  exact h x.toBitVec
theorem bayIn_rng (M : MT) (a b : Int32) : 0 ≤ (s_X3_bayIn M a b).toInt ∧ (s_X3_bayIn M a b).toInt ≤ 15 := and15 _
theorem bayIn_0 {M : MT} {b d : Int32} (h : M 22 5 = d) (hd : 1 ≤ d.toInt ∧ d.toInt ≤ 3) (hb : 0 ≤ b.toInt ∧ b.toInt < d.toInt) : s_X3_bayIn M 0 b = 0 := by
  unfold s_X3_bayIn
  rw [h]
  have key : ∀ d b : Fin 4, b.val < d.val → ((0 : Int32) >>> ((4 * (Int32.ofNat d.val - 1 - Int32.ofNat b.val)) &&& 31)) &&& 15 = 0 := by decide
  have e1 : d = Int32.ofNat d.toInt.toNat := Int32.toInt_inj.mp (by rw [show (Int32.ofNat d.toInt.toNat) = nI d.toInt.toNat from rfl, nI_toInt (by omega)]; omega)
  have e2 : b = Int32.ofNat b.toInt.toNat := Int32.toInt_inj.mp (by rw [show (Int32.ofNat b.toInt.toNat) = nI b.toInt.toNat from rfl, nI_toInt (by omega)]; omega)
  rw [e1, e2]
  exact key ⟨d.toInt.toNat, by omega⟩ ⟨b.toInt.toNat, by omega⟩ (by show b.toInt.toNat < d.toInt.toNat; omega)
theorem fw1 {a x : Int32} (h : x.toInt + (0 : Nat) = 16) : (if (a + 1) < 15 then (a + 1) else 15) < x := by
  have e : (15 : Int32).toInt = 15 := by decide
  split
  · rename_i h1
    rw [Int32.lt_iff_toInt_lt] at h1 ⊢
    omega
  · rw [Int32.lt_iff_toInt_lt]; omega
theorem fw2 {a x : Int32} (h0 : 0 ≤ x.toInt) (h : ¬ (if (a + 1) < 15 then (a + 1) else 15) < x) : vp_in x 16 := by
  have e : (15 : Int32).toInt = 15 := by decide
  rw [vp_in_iff]
  split at h
  · rename_i h1
    rw [Int32.lt_iff_toInt_lt] at h1 h
    omega
  · rw [Int32.lt_iff_toInt_lt] at h; omega
theorem fw3 {n : Nat} {x : Int32} (h0 : 0 ≤ x.toInt) (h : x.toInt + (n + 1 : Nat) = 16) : 0 ≤ (x + 1).toInt ∧ (x + 1).toInt + (n : Nat) = 16 := by
  have := i32_add (x := x) h0 (by omega) (k := 1) (by decide) (by decide)
  have e1 : (1 : Int32).toInt = 1 := by decide
  omega
theorem fw0 {a : Int32} (h : 0 ≤ a.toInt ∧ a.toInt ≤ 15) : 0 ≤ (if 0 < (a - 1) then (a - 1) else 0 : Int32).toInt ∧ (if 0 < (a - 1) then (a - 1) else 0 : Int32).toInt ≤ 16 := by
  have e0 : (0 : Int32).toInt = 0 := by decide
  have e1 : (1 : Int32).toInt = 1 := by decide
  have e2 : (a - 1).toInt = a.toInt - 1 := by rw [Int32.toInt_sub, Int.bmod_eq_of_le (by omega) (by omega), e1]
  split
  · rename_i h1
    rw [Int32.lt_iff_toInt_lt] at h1
    omega
  · omega
set_option maxHeartbeats 4000000 in
set_option maxRecDepth 100000 in
theorem c1_X3_freshWeight (l : Launch) (D : va_G) (cy : Nat → ClassId) (X : va_W) (ad : Nat → Nat) (M : MT) (a : Int32) (b : Int32) (ha : 0 ≤ a.toInt ∧ a.toInt ≤ 15) (hz : ∀ j, j < 16 → M 24 j = 0) : CtI l yX3_freshWeight cX3_freshWeight 5 .int (rK 1) D cy X ad ZB M [.ref (ad 22), .int a, .int b] 0 M := by
  refine Ctr.of (by decide +kernel) (Nat.le_of_ble_eq_true rfl) ?_
  intro K f q hnm hl0 hD0 hy0 hX0
  show V K ad 0 0 ZB M 0 [(0, .ref (ad 22)), (1, .int a), (2, .int b)] []
  have loop : ∀ (n : Nat) (x : Int32), 0 ≤ x.toInt → x.toInt + (n : Nat) = 16 → V K ad 0 0 ZB M 11 [(4, .int x), (3, .int 0), (0, .ref (ad 22)), (1, .int a), (2, .int b)] [] := by
    intro n
    induction n with
    | zero =>
      intro x h0 hx
      refine V_iload f dX3_freshWeight_11 0 rfl ?_
      refine V_bipush (v := 15) f dX3_freshWeight_13 (by decide) ?_
      refine V_iload_n f dX3_freshWeight_15 3 rfl ?_
      refine V_iconst (v := 1) f dX3_freshWeight_16 (by decide) ?_
      refine V_iadd f dX3_freshWeight_17 ?_
      refine V_mmin f dX3_freshWeight_18 ml_X3_79 ma_min ma_ini mc_min (by decide) (Nat.le_of_ble_eq_true rfl) (Nat.zero_le _) (Nat.zero_le _) ?_
      refine V_icmp_gt (tgt := 49) f dX3_freshWeight_21 (by decide) (fun _ => ?_) (fun h => absurd (fw1 hx) h)
      refine V_iload_n f dX3_freshWeight_49 1 rfl ?_
      exact V_iret f q dX3_freshWeight_50 rfl (Nat.zero_le _) (Nat.zero_le _) ⟨rfl, rfl, rfl, rfl⟩
    | succ n ih =>
      intro x h0 hx
      refine V_iload f dX3_freshWeight_11 0 rfl ?_
      refine V_bipush (v := 15) f dX3_freshWeight_13 (by decide) ?_
      refine V_iload_n f dX3_freshWeight_15 3 rfl ?_
      refine V_iconst (v := 1) f dX3_freshWeight_16 (by decide) ?_
      refine V_iadd f dX3_freshWeight_17 ?_
      refine V_mmin f dX3_freshWeight_18 ml_X3_79 ma_min ma_ini mc_min (by decide) (Nat.le_of_ble_eq_true rfl) (Nat.zero_le _) (Nat.zero_le _) ?_
      refine V_icmp_gt (tgt := 49) f dX3_freshWeight_21 (by decide) (fun c1 => ?_) (fun c1 => ?_)
      · refine V_iload_n f dX3_freshWeight_49 1 rfl ?_
        exact V_iret f q dX3_freshWeight_50 rfl (Nat.zero_le _) (Nat.zero_le _) ⟨rfl, rfl, rfl, rfl⟩
      · refine V_iload_n f dX3_freshWeight_24 4 rfl ?_
        refine V_iconst (v := 1) f dX3_freshWeight_25 (by decide) ?_
        refine V_iload f dX3_freshWeight_26 0 rfl ?_
        refine V_ishl f dX3_freshWeight_28 ?_
        refine V_iand f dX3_freshWeight_29 ?_
        refine V_if_ne (tgt := 43) f dX3_freshWeight_30 (by decide) (fun c2 => ?_) (fun c2 => ?_)
        · refine V_iinc (v := x + 1) f dX3_freshWeight_43 0 rfl rfl (by decide) rfl ?_
          refine V_goto (tgt := 11) f dX3_freshWeight_46 (by decide) ?_
          refine V.sub [0, 1, 2, 3, 4] rfl ?_
          exact ih (x + 1) (fw3 h0 hx).1 (fw3 h0 hx).2
        · refine V_iload_n f dX3_freshWeight_33 1 rfl ?_
          refine V_aload_n f dX3_freshWeight_34 2 rfl ?_
          refine V_getR f dX3_freshWeight_35 lf_3_15 rfl zb_22 rfl ?_
          refine V_iload f dX3_freshWeight_38 0 rfl ?_
          refine V_ialdE (x := 0) f dX3_freshWeight_40 zb_24 (fw2 h0 c1) (hz _ (vlt (fw2 h0 c1))) ?_
          refine V_iadd f dX3_freshWeight_41 ?_
          rw [show (0 + 0 : Int32) = 0 by decide]
          refine V_istore_n f dX3_freshWeight_42 rfl (by decide) rfl ?_
          refine V_iinc (v := x + 1) f dX3_freshWeight_43 1 rfl rfl (by decide) rfl ?_
          refine V_goto (tgt := 11) f dX3_freshWeight_46 (by decide) ?_
          refine V.sub [0, 1, 2, 3, 4] rfl ?_
          exact ih (x + 1) (fw3 h0 hx).1 (fw3 h0 hx).2
  refine V_iconst (v := 0) f dX3_freshWeight_0 (by decide) ?_
  refine V_istore_n f dX3_freshWeight_1 rfl (by decide) rfl ?_
  refine V_iconst (v := 0) f dX3_freshWeight_2 (by decide) ?_
  refine V_iload_n f dX3_freshWeight_3 2 rfl ?_
  refine V_iconst (v := 1) f dX3_freshWeight_4 (by decide) ?_
  refine V_isub f dX3_freshWeight_5 ?_
  refine V_mmax f dX3_freshWeight_6 ml_X3_76 ma_max ma_ini mc_max (by decide) (Nat.le_of_ble_eq_true rfl) (Nat.zero_le _) (Nat.zero_le _) ?_
  refine V_istore f dX3_freshWeight_9 (by decide) rfl ?_
  exact loop (16 - (if 0 < (a - 1) then (a - 1) else 0 : Int32).toInt.toNat) _ (fw0 ha).1 (by have := fw0 ha; omega)
def We1 (b : Nat) (M M1 : MT) : Prop := (∀ j, j < b → M1 24 j = 0) ∧ ∀ i, ¬ i = 24 → M1 i = M i
def We2 (b : Nat) (M M1 : MT) : Prop := (∀ j, j < b → M1 23 j = 0) ∧ (∀ j, j < 16 → M1 24 j = 0) ∧ ∀ i, ¬ i = 23 → ¬ i = 24 → M1 i = M i
theorem we1_step {b : Nat} {M M1 : MT} (h : We1 b M M1) : We1 (b + 1) M (up2 M1 24 b 0) := by
  refine ⟨fun j hj => ?_, fun i hi => ?_⟩
  · by_cases e : j = b
    · subst e; exact up_s
    · exact up_k e (h.1 j (by omega))
  · rw [← h.2 i hi]; simp only [up2, va_up, if_neg hi]
theorem we12 {M M1 : MT} (h : We1 16 M M1) : We2 0 M M1 := ⟨fun j hj => absurd hj (Nat.not_lt_zero j), h.1, fun i _ h2 => h.2 i h2⟩
theorem we2_step {b : Nat} {M M1 : MT} (h : We2 b M M1) : We2 (b + 1) M (up2 M1 23 b 0) := by
  refine ⟨fun j hj => ?_, fun j hj => up_c (by decide) (h.2.1 j hj), fun i h1 h2 => ?_⟩
  · by_cases e : j = b
    · subst e; exact up_s
    · exact up_k e (h.1 j (by omega))
  · rw [← h.2.2 i h1 h2]; simp only [up2, va_up, if_neg h1]
theorem lq_lt {x : Int32} {b m n : Nat} (hx : x.toInt = b) (hb : b + (m + 1) = n) (hn : n ≤ 100) : b < n ∧ vp_in x n ∧ x.toNatClampNeg = b ∧ (x + 1).toInt = ((b + 1 : Nat) : Int) := by
  have e1 : (1 : Int32).toInt = 1 := by decide
  have a := i32_add (x := x) (by omega) (by omega) (k := 1) (by decide) (by decide)
  refine ⟨by omega, ?_, ?_, by omega⟩
  · rw [vp_in_iff]; omega
  · show x.toInt.toNat = b
    omega
theorem lq_ge {x y : Int32} {b n : Nat} (hx : x.toInt = b) (hy : y.toInt = n) (hb : b = n) : y ≤ x := by rw [Int32.le_iff_toInt_le]; omega
theorem lq_nge {x y : Int32} {b m n : Nat} (hx : x.toInt = b) (hy : y.toInt = n) (hb : b + (m + 1) = n) : ¬ y ≤ x := by rw [Int32.le_iff_toInt_le]; omega
set_option maxHeartbeats 4000000 in
set_option maxRecDepth 100000 in
theorem c1_X3_weigh (l : Launch) (D : va_G) (cy : Nat → ClassId) (X : va_W) (ad : Nat → Nat) (M : MT) (fr : FrB M) : CtP l yX3_weigh cX3_weigh 3 none (rK 2) D cy X ad ZB M [.ref (ad 22), .ref (ad 1)] (fun v M1 => v = none ∧ We2 16 M M1) := by
  refine Ctr.of (by decide +kernel) (Nat.le_of_ble_eq_true rfl) ?_
  intro K f q hnm hl0 hD0 hy0 hX0
  show V K ad 0 0 ZB M 0 [(0, .ref (ad 22)), (1, .ref (ad 1))] []
  have loop2 : ∀ (m b : Nat) (x : Int32) (M1 : MT), b + m = 16 → x.toInt = b → We2 b M M1 → V K ad 0 0 ZB M1 34 [(2, .int x), (0, .ref (ad 22)), (1, .ref (ad 1))] [] := by
    intro m
    induction m with
    | zero =>
      intro b x M1 hb hx hW
      obtain rfl : b = 16 := by omega
      refine V_iload_n f dX3_weigh_34 0 rfl ?_
      refine V_bipush (v := 16) f dX3_weigh_35 (by decide) ?_
      refine V_icmp_ge (tgt := 58) f dX3_weigh_37 (by decide) (fun _ => ?_) (fun h => absurd (lq_ge hx (y := 16) (n := 16) (by decide) rfl) h)
      exact V_vret f q dX3_weigh_58 (Nat.zero_le _) (Nat.zero_le _) ⟨rfl, rfl, rfl, hW⟩
    | succ m ih =>
      intro b x M1 hb hx hW
      obtain ⟨hbl, hin, hnat, hx1⟩ := lq_lt hx hb (by decide)
      refine V_iload_n f dX3_weigh_34 0 rfl ?_
      refine V_bipush (v := 16) f dX3_weigh_35 (by decide) ?_
      refine V_icmp_ge (tgt := 58) f dX3_weigh_37 (by decide) (fun h => absurd h (lq_nge hx (y := 16) (by decide) hb)) (fun _ => ?_)
      refine V_aload_n f dX3_weigh_40 1 rfl ?_
      refine V_getR f dX3_weigh_41 lf_3_9 rfl zb_22 rfl ?_
      refine V_iload_n f dX3_weigh_44 0 rfl ?_
      refine V_aload_n f dX3_weigh_45 1 rfl ?_
      refine V_iload_n f dX3_weigh_46 0 rfl ?_
      refine V_iconst (v := 0) f dX3_weigh_47 (by decide) ?_
      refine V_cVi (As := [.int x, .int 0]) (rest := [.int x, .ref (ad 23)]) f dX3_weigh_48 lk_X3_61 ml_X3_61 ins_X3_freshWeight sel_X3_freshWeight zb_22 (by decide) rfl (c1_X3_freshWeight (kl K) (kD K) (ky K) (kX K) ad M1 x 0 ⟨by omega, by omega⟩ hW.2.1) rfl (Nat.le_of_ble_eq_true rfl) rfl ⟨by decide, by decide⟩ ⟨Nat.zero_le _, Nat.zero_le _⟩ rfl rfl ?_
      refine V_iast f dX3_weigh_51 zb_23 hin ?_
      refine V_iinc (v := x + 1) f dX3_weigh_52 0 rfl rfl (by decide) rfl ?_
      refine V_goto (tgt := 34) f dX3_weigh_55 (by decide) ?_
      rw [hnat]
      exact ih (b + 1) (x + 1) _ (by omega) hx1 (we2_step hW)
  have loop1 : ∀ (m b : Nat) (x : Int32) (M1 : MT), b + m = 16 → x.toInt = b → We1 b M M1 → V K ad 0 0 ZB M1 2 [(2, .int x), (0, .ref (ad 22)), (1, .ref (ad 1))] [] := by
    intro m
    induction m with
    | zero =>
      intro b x M1 hb hx hW
      obtain rfl : b = 16 := by omega
      refine V_iload_n f dX3_weigh_2 0 rfl ?_
      refine V_bipush (v := 16) f dX3_weigh_3 (by decide) ?_
      refine V_icmp_ge (tgt := 32) f dX3_weigh_5 (by decide) (fun _ => ?_) (fun h => absurd (lq_ge hx (y := 16) (n := 16) (by decide) rfl) h)
      refine V_iconst (v := 0) f dX3_weigh_32 (by decide) ?_
      refine V_istore_n f dX3_weigh_33 rfl (by decide) rfl ?_
      exact loop2 16 0 0 M1 rfl (by decide) (we12 hW)
    | succ m ih =>
      intro b x M1 hb hx hW
      obtain ⟨hbl, hin, hnat, hx1⟩ := lq_lt hx hb (by decide)
      refine V_iload_n f dX3_weigh_2 0 rfl ?_
      refine V_bipush (v := 16) f dX3_weigh_3 (by decide) ?_
      refine V_icmp_ge (tgt := 32) f dX3_weigh_5 (by decide) (fun h => absurd h (lq_nge hx (y := 16) (by decide) hb)) (fun _ => ?_)
      refine V_iload_n f dX3_weigh_8 0 rfl ?_
      refine V_aload_n f dX3_weigh_9 2 rfl ?_
      refine V_alen (t0 := 3) f dX3_weigh_10 zb_1 (by decide) rfl ?_
      refine V_icmp_ge (tgt := 32) f dX3_weigh_11 (by decide) (fun h => absurd h (lq_nge hx (y := 16) (by decide) hb)) (fun _ => ?_)
      refine V_aload_n f dX3_weigh_14 1 rfl ?_
      refine V_getR f dX3_weigh_15 lf_3_15 rfl zb_22 rfl ?_
      refine V_iload_n f dX3_weigh_18 0 rfl ?_
      refine V_aload_n f dX3_weigh_19 2 rfl ?_
      refine V_iload_n f dX3_weigh_20 0 rfl ?_
      refine V_aald (t0 := 3) f dX3_weigh_21 zb_1 (by decide) rfl hin (eBay (vlt hin)) ?_
      refine V_getE (x := 0) f dX3_weigh_22 lf_3_57 rfl (zBay (vlt hin)) ((congrFun (hW.2 (28 + Int32.toNatClampNeg x) (by omega)) 2).trans (frb_2 fr (vlt hin))) ?_
      refine V_iast f dX3_weigh_25 zb_24 hin ?_
      refine V_iinc (v := x + 1) f dX3_weigh_26 0 rfl rfl (by decide) rfl ?_
      refine V_goto (tgt := 2) f dX3_weigh_29 (by decide) ?_
      rw [hnat]
      exact ih (b + 1) (x + 1) _ (by omega) hx1 (we1_step hW)
  refine V_iconst (v := 0) f dX3_weigh_0 (by decide) ?_
  refine V_istore_n f dX3_weigh_1 rfl (by decide) rfl ?_
  exact loop1 16 0 0 M rfl (by decide) ⟨fun j hj => absurd hj (Nat.not_lt_zero j), fun _ _ => rfl⟩

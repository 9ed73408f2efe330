/-- what every run keeps of the reference: counts in their rows -/
def InvS (M : MT) : Prop := (0 ≤ (M 0 9).toInt ∧ (M 0 9).toInt ≤ 10) ∧ (0 ≤ (M 0 31).toInt ∧ (M 0 31).toInt ≤ 8) ∧ (0 ≤ (M 0 27).toInt ∧ (M 0 27).toInt ≤ 500) ∧ (∀ l, l < 9 → 0 ≤ (M 18 l).toInt ∧ (M 18 l).toInt ≤ 16) ∧ ∀ k, k < 144 → 0 ≤ (M 25 k).toInt ∧ (M 25 k).toInt ≤ 3
theorem sl1 {r : Int32} (h : 0 ≤ r.toInt ∧ r.toInt ≤ 7) : (16 * r).toInt = 16 * r.toInt := by
  have e : (16 : Int32).toInt = 16 := by decide
  rw [Int32.toInt_mul, e, Int.bmod_eq_of_le (by omega) (by omega)]
theorem sl2 {r t x : Int32} (h : 0 ≤ r.toInt ∧ r.toInt ≤ 7) (ht : 0 ≤ t.toInt ∧ t.toInt ≤ 16) (x0 : 0 ≤ x.toInt) (hx : ¬ (16 * r) + t ≤ x) : vp_in x 144 := by
  have h1 := sl1 h
  have e : ((16 * r) + t).toInt = 16 * r.toInt + t.toInt := by rw [Int32.toInt_add, h1, Int.bmod_eq_of_le (by omega) (by omega)]
  rw [Int32.le_iff_toInt_le, e] at hx
  rw [vp_in_iff]; omega
theorem sl3 {x : Int32} {m n : Nat} (h : vp_in x m) (hm : m ≤ 500) (hx : x.toInt + (n : Nat) = 1000) : ∃ k, n = k + 1 ∧ 0 ≤ (x + 1).toInt ∧ (x + 1).toInt + (k : Nat) = 1000 := by
  rw [vp_in_iff] at h
  have := i32_add (x := x) (by omega) (by omega) (k := 1) (by decide) (by decide)
  have e1 : (1 : Int32).toInt = 1 := by decide
  exact ⟨n - 1, by omega, by omega, by omega⟩
theorem sl4 {r : Int32} (h : 0 ≤ r.toInt ∧ r.toInt ≤ 7) : vp_in r 9 ∧ ¬ r = (-1) := by
  refine ⟨by rw [vp_in_iff]; omega, fun e => ?_⟩
  rw [e] at h
  exact absurd h.1 (by decide)
theorem tr1 {k : Int32} (h : vp_in k 144) : (3 * k).toInt = 3 * k.toInt := by
  rw [vp_in_iff] at h
  have e : (3 : Int32).toInt = 3 := by decide
  rw [Int32.toInt_mul, e, Int.bmod_eq_of_le (by omega) (by omega)]
theorem tr2 {k t x : Int32} (h : vp_in k 144) (ht : 0 ≤ t.toInt ∧ t.toInt ≤ 3) (x0 : 0 ≤ x.toInt) (hx : ¬ (3 * k) + t ≤ x) : vp_in x 432 := by
  have h1 := tr1 h
  rw [vp_in_iff] at h
  have e : ((3 * k) + t).toInt = 3 * k.toInt + t.toInt := by rw [Int32.toInt_add, h1, Int.bmod_eq_of_le (by omega) (by omega)]
  rw [Int32.le_iff_toInt_le, e] at hx
  rw [vp_in_iff]; omega
set_option maxHeartbeats 4000000 in
set_option maxRecDepth 100000 in
theorem c3_X9_inForce (l : Launch) (D : va_G) (cy : Nat → ClassId) (X : va_W) (ad : Nat → Nat) (M : MT) (a : Int32) (hS : InvS M) : CtP l yX9_inForce cX9_inForce 4 (some .int) (rK 0) D cy X ad ZM M [.ref (ad 0), .int a] (fun v M1 => ∃ r : Int32, v = some (.int r) ∧ M1 = M ∧ (r = (-1) ∨ (0 ≤ r.toInt ∧ r.toInt ≤ 7))) := by
  refine Ctr.of (by decide +kernel) (Nat.le_of_ble_eq_true rfl) ?_
  intro K f q hnm hl0 hD0 hy0 hX0
  show V K ad 0 0 ZM M 0 [(0, .ref (ad 0)), (1, .int a)] []
  have loop : ∀ (n : Nat) (x t : Int32), 0 ≤ x.toInt → x.toInt + (n : Nat) = 1000 → (t = (-1) ∨ (0 ≤ t.toInt ∧ t.toInt ≤ 7)) → V K ad 0 0 ZM M 4 [(3, .int x), (2, .int t), (0, .ref (ad 0)), (1, .int a)] [] := by
    intro n
    induction n using Nat.strongRecOn with
    | ind n ih =>
      intro x t x0 hx ht
      refine V_iload_n f dX9_inForce_4 0 rfl ?_
      refine V_aload_n f dX9_inForce_5 2 rfl ?_
      refine V_getE (x := M 0 31) f dX9_inForce_6 lf_9_188 rfl zm_0 rfl ?_
      refine V_icmp_ge (tgt := 30) f dX9_inForce_9 (by decide) (fun c1 => ?_) (fun c1 => ?_)
      · refine V_iload_n f dX9_inForce_30 1 rfl ?_
        exact V_iret f q dX9_inForce_31 rfl (Nat.zero_le _) (Nat.zero_le _) ⟨rfl, rfl, t, rfl, rfl, ht⟩
      · refine V_aload_n f dX9_inForce_12 2 rfl ?_
        refine V_getR f dX9_inForce_13 lf_9_70 rfl zm_0 rfl ?_
        refine V_iload_n f dX9_inForce_16 0 rfl ?_
        refine V_ialdE (x := M 19 (Int32.toNatClampNeg x)) f dX9_inForce_17 zm_19 (vinN x0 c1 (n := 9) (by have := hS.2.1.2; omega)) rfl ?_
        refine V_iload_n f dX9_inForce_18 3 rfl ?_
        refine V_icmp_gt (tgt := 24) f dX9_inForce_19 (by decide) (fun c2 => ?_) (fun c2 => ?_)
        · refine V_iinc (v := x + 1) f dX9_inForce_24 0 rfl rfl (by decide) rfl ?_
          refine V_goto (tgt := 4) f dX9_inForce_27 (by decide) ?_
          obtain ⟨k9, e9, y0, y1⟩ := lo_inc x0 hx c1 (by have := hS.2.1.2; omega)
          exact ih k9 (by omega) (x + 1) t y0 y1 ht
        · refine V_iload_n f dX9_inForce_22 0 rfl ?_
          refine V_istore_n f dX9_inForce_23 rfl (by decide) rfl ?_
          refine V_iinc (v := x + 1) f dX9_inForce_24 1 rfl rfl (by decide) rfl ?_
          refine V_goto (tgt := 4) f dX9_inForce_27 (by decide) ?_
          obtain ⟨k9, e9, y0, y1⟩ := lo_inc x0 hx c1 (by have := hS.2.1.2; omega)
          exact ih k9 (by omega) (x + 1) x y0 y1 (Or.inr ⟨x0, by have q := c1; rw [Int32.le_iff_toInt_le] at q; have := hS.2.1.2; omega⟩)
  refine V_iconst (v := (-1)) f dX9_inForce_0 (by decide) ?_
  refine V_istore_n f dX9_inForce_1 rfl (by decide) rfl ?_
  refine V_iconst (v := 0) f dX9_inForce_2 (by decide) ?_
  refine V_istore_n f dX9_inForce_3 rfl (by decide) rfl ?_
  exact loop 1000 0 (-1) (by decide) (by decide) (Or.inl rfl)
set_option maxHeartbeats 4000000 in
set_option maxRecDepth 100000 in
theorem c3_X9_lastOf (l : Launch) (D : va_G) (cy : Nat → ClassId) (X : va_W) (ad : Nat → Nat) (M : MT) (a : Int32) (b : Int32) (e : Int32) (hS : InvS M) : CtP l yX9_lastOf cX9_lastOf 7 (some .int) (rK 1) D cy X ad ZM M [.ref (ad 0), .int a, .int b, .int e] (fun v M1 => (∃ r : Int32, v = some (.int r)) ∧ M1 = M) := by
  refine Ctr.of (by decide +kernel) (Nat.le_of_ble_eq_true rfl) ?_
  intro K f q hnm hl0 hD0 hy0 hX0
  show V K ad 0 0 ZM M 0 [(0, .ref (ad 0)), (1, .int a), (2, .int b), (3, .int e)] []
  have loop : ∀ (r : Int32), (0 ≤ r.toInt ∧ r.toInt ≤ 7) → ∀ (n : Nat) (x : Int32) (t : Int32), 0 ≤ x.toInt → x.toInt + (n : Nat) = 1000 → V K ad 0 0 ZM M 17 [(6, .int x), (5, .int t), (4, .int r), (0, .ref (ad 0)), (1, .int a), (2, .int b), (3, .int e)] [] := by
    intro r hr n
    induction n using Nat.strongRecOn with
    | ind n ih =>
      intro x t x0 hx
      refine V_iload f dX9_lastOf_17 2 rfl ?_
      refine V_iconst (v := (-1)) f dX9_lastOf_19 (by decide) ?_
      refine V_icmp_eq (tgt := 67) f dX9_lastOf_20 (by decide) (fun h => absurd h (sl4 hr).2) (fun _ => ?_)
      refine V_iload f dX9_lastOf_23 0 rfl ?_
      refine V_bipush (v := 16) f dX9_lastOf_25 (by decide) ?_
      refine V_iload f dX9_lastOf_27 2 rfl ?_
      refine V_imul f dX9_lastOf_29 ?_
      refine V_aload_n f dX9_lastOf_30 3 rfl ?_
      refine V_getR f dX9_lastOf_31 lf_9_67 rfl zm_0 rfl ?_
      refine V_iload f dX9_lastOf_34 2 rfl ?_
      refine V_ialdE (x := M 18 (Int32.toNatClampNeg r)) f dX9_lastOf_36 zm_18 (sl4 hr).1 rfl ?_
      refine V_iadd f dX9_lastOf_37 ?_
      refine V_icmp_ge (tgt := 67) f dX9_lastOf_38 (by decide) (fun c2 => ?_) (fun c2 => ?_)
      · refine V_iload f dX9_lastOf_67 1 rfl ?_
        exact V_iret f q dX9_lastOf_69 rfl (Nat.zero_le _) (Nat.zero_le _) ⟨rfl, rfl, ⟨t, rfl⟩, rfl⟩
      · refine V_aload_n f dX9_lastOf_41 3 rfl ?_
        refine V_getR f dX9_lastOf_42 lf_9_73 rfl zm_0 rfl ?_
        refine V_iload f dX9_lastOf_45 0 rfl ?_
        refine V_ialdE (x := M 20 (Int32.toNatClampNeg x)) f dX9_lastOf_47 zm_20 (sl2 hr (hS.2.2.2.1 _ (vlt (sl4 hr).1)) x0 c2) rfl ?_
        refine V_iload_n f dX9_lastOf_48 5 rfl ?_
        refine V_icmp_ne (tgt := 61) f dX9_lastOf_49 (by decide) (fun c3 => ?_) (fun c3 => ?_)
        · refine V_iinc (v := x + 1) f dX9_lastOf_61 0 rfl rfl (by decide) rfl ?_
          refine V_goto (tgt := 17) f dX9_lastOf_64 (by decide) ?_
          obtain ⟨k9, e9, y0, y1⟩ := sl3 (sl2 hr (hS.2.2.2.1 _ (vlt (sl4 hr).1)) x0 c2) (by decide) hx
          exact ih k9 (by omega) (x + 1) t y0 y1
        · refine V_aload_n f dX9_lastOf_52 3 rfl ?_
          refine V_getR f dX9_lastOf_53 lf_9_76 rfl zm_0 rfl ?_
          refine V_iload f dX9_lastOf_56 0 rfl ?_
          refine V_ialdE (x := M 21 (Int32.toNatClampNeg x)) f dX9_lastOf_58 zm_21 (sl2 hr (hS.2.2.2.1 _ (vlt (sl4 hr).1)) x0 c2) rfl ?_
          refine V_istore f dX9_lastOf_59 (by decide) rfl ?_
          refine V_iinc (v := x + 1) f dX9_lastOf_61 1 rfl rfl (by decide) rfl ?_
          refine V_goto (tgt := 17) f dX9_lastOf_64 (by decide) ?_
          obtain ⟨k9, e9, y0, y1⟩ := sl3 (sl2 hr (hS.2.2.2.1 _ (vlt (sl4 hr).1)) x0 c2) (by decide) hx
          exact ih k9 (by omega) (x + 1) (M 21 (Int32.toNatClampNeg x)) y0 y1
  refine V_aload_n f dX9_lastOf_0 0 rfl ?_
  refine V_iload_n f dX9_lastOf_1 1 rfl ?_
  refine V_cVp (As := [.int a]) (rest := []) f dX9_lastOf_2 lk_X9_197 ml_X9_197 ins_X9_inForce sel_X9_inForce zm_0 (by decide) rfl (c3_X9_inForce _ _ _ _ ad M a hS) rfl (Nat.le_of_ble_eq_true rfl) rfl ⟨by decide, by decide⟩ ⟨Nat.zero_le _, Nat.zero_le _⟩ rfl rfl (fun v1 Mx1 hp1 => ?_)
  obtain ⟨r1, rfl, e1, hr1⟩ := hp1
  rw [e1]
  show V K ad 0 0 ZM M 5 [(0, .ref (ad 0)), (1, .int a), (2, .int b), (3, .int e)] [.int r1]
  refine V_istore f dX9_lastOf_5 (by decide) rfl ?_
  refine V_iload_n f dX9_lastOf_7 4 rfl ?_
  refine V_istore f dX9_lastOf_8 (by decide) rfl ?_
  refine V_bipush (v := 16) f dX9_lastOf_10 (by decide) ?_
  refine V_iload f dX9_lastOf_12 1 rfl ?_
  refine V_imul f dX9_lastOf_14 ?_
  refine V_istore f dX9_lastOf_15 (by decide) rfl ?_
  rcases hr1 with er | er
  · refine V_iload f dX9_lastOf_17 2 rfl ?_
    refine V_iconst (v := (-1)) f dX9_lastOf_19 (by decide) ?_
    refine V_icmp_eq (tgt := 67) f dX9_lastOf_20 (by decide) (fun _ => ?_) (fun h => absurd er h)
    refine V_iload f dX9_lastOf_67 1 rfl ?_
    exact V_iret f q dX9_lastOf_69 rfl (Nat.zero_le _) (Nat.zero_le _) ⟨rfl, rfl, ⟨e, rfl⟩, rfl⟩
  · exact loop r1 er (1000 - (16 * r1).toInt.toNat) (16 * r1) e (by have := sl1 er; omega) (by have := sl1 er; omega)
set_option maxHeartbeats 4000000 in
set_option maxRecDepth 100000 in
theorem c3_X9_isClosed (l : Launch) (D : va_G) (cy : Nat → ClassId) (X : va_W) (ad : Nat → Nat) (M : MT) (a : Int32) (b : Int32) (hS : InvS M) : CtP l yX9_isClosed cX9_isClosed 7 (some .boolean) (rK 1) D cy X ad ZM M [.ref (ad 0), .int a, .int b] (fun v M1 => ∃ r : Int32, v = some (.int r) ∧ (r = 0 ∨ r = 1) ∧ M1 = M) := by
  refine Ctr.of (by decide +kernel) (Nat.le_of_ble_eq_true rfl) ?_
  intro K f q hnm hl0 hD0 hy0 hX0
  show V K ad 0 0 ZM M 0 [(0, .ref (ad 0)), (1, .int a), (2, .int b)] []
  have loop : ∀ (r : Int32), (0 ≤ r.toInt ∧ r.toInt ≤ 7) → ∀ (n : Nat) (x : Int32) (t : Int32), 0 ≤ x.toInt → x.toInt + (n : Nat) = 1000 → (t = 0 ∨ t = 1) → V K ad 0 0 ZM M 22 [(6, .int x), (5, .int t), (4, .int (a - a / 365 * 365)), (3, .int r), (0, .ref (ad 0)), (1, .int a), (2, .int b)] [] := by
    intro r hr n
    induction n using Nat.strongRecOn with
    | ind n ih =>
      intro x t x0 hx hv
      refine V_iload_n f dX9_isClosed_22 3 rfl ?_
      refine V_iconst (v := (-1)) f dX9_isClosed_23 (by decide) ?_
      refine V_icmp_eq (tgt := 162) f dX9_isClosed_24 (by decide) (fun h => absurd h (sl4 hr).2) (fun _ => ?_)
      refine V_iload f dX9_isClosed_27 0 rfl ?_
      refine V_bipush (v := 16) f dX9_isClosed_29 (by decide) ?_
      refine V_iload_n f dX9_isClosed_31 3 rfl ?_
      refine V_imul f dX9_isClosed_32 ?_
      refine V_aload_n f dX9_isClosed_33 4 rfl ?_
      refine V_getR f dX9_isClosed_34 lf_9_67 rfl zm_0 rfl ?_
      refine V_iload_n f dX9_isClosed_37 3 rfl ?_
      refine V_ialdE (x := M 18 (Int32.toNatClampNeg r)) f dX9_isClosed_38 zm_18 (sl4 hr).1 rfl ?_
      refine V_iadd f dX9_isClosed_39 ?_
      refine V_icmp_ge (tgt := 162) f dX9_isClosed_40 (by decide) (fun c2 => ?_) (fun c2 => ?_)
      · refine V_iload f dX9_isClosed_162 1 rfl ?_
        exact V_iret f q dX9_isClosed_164 (nbz (by assumption)) (Nat.zero_le _) (Nat.zero_le _) ⟨rfl, rfl, t, rfl, hv, rfl⟩
      · refine V_aload_n f dX9_isClosed_43 4 rfl ?_
        refine V_getR f dX9_isClosed_44 lf_9_73 rfl zm_0 rfl ?_
        refine V_iload f dX9_isClosed_47 0 rfl ?_
        refine V_ialdE (x := M 20 (Int32.toNatClampNeg x)) f dX9_isClosed_49 zm_20 (sl2 hr (hS.2.2.2.1 _ (vlt (sl4 hr).1)) x0 c2) rfl ?_
        refine V_iconst (v := 2) f dX9_isClosed_50 (by decide) ?_
        refine V_icmp_ne (tgt := 156) f dX9_isClosed_51 (by decide) (fun c3 => ?_) (fun c3 => ?_)
        · refine V_iinc (v := x + 1) f dX9_isClosed_156 0 rfl rfl (by decide) rfl ?_
          refine V_goto (tgt := 22) f dX9_isClosed_159 (by decide) ?_
          obtain ⟨k9, e9, y0, y1⟩ := sl3 (sl2 hr (hS.2.2.2.1 _ (vlt (sl4 hr).1)) x0 c2) (by decide) hx
          exact ih k9 (by omega) (x + 1) t y0 y1 hv
        · refine V_iload_n f dX9_isClosed_54 6 rfl ?_
          refine V_aload_n f dX9_isClosed_55 4 rfl ?_
          refine V_getR f dX9_isClosed_56 lf_9_76 rfl zm_0 rfl ?_
          refine V_iload f dX9_isClosed_59 0 rfl ?_
          refine V_ialdE (x := M 21 (Int32.toNatClampNeg x)) f dX9_isClosed_61 zm_21 (sl2 hr (hS.2.2.2.1 _ (vlt (sl4 hr).1)) x0 c2) rfl ?_
          refine V_aload_n f dX9_isClosed_62 4 rfl ?_
          refine V_getR f dX9_isClosed_63 lf_9_79 rfl zm_0 rfl ?_
          refine V_iload f dX9_isClosed_66 0 rfl ?_
          refine V_ialdE (x := M 22 (Int32.toNatClampNeg x)) f dX9_isClosed_68 zm_22 (sl2 hr (hS.2.2.2.1 _ (vlt (sl4 hr).1)) x0 c2) rfl ?_
          refine V_cSi (As := [.int b, .int (M 21 (Int32.toNatClampNeg x)), .int (M 22 (Int32.toNatClampNeg x))]) (rest := []) f dX9_isClosed_69 lk_X9_109 ml_X9_109 sta_X9_isIn (c_X9_isIn (kl K) (kD K) (ky K) (kX K) ad M b (M 21 (Int32.toNatClampNeg x)) (M 22 (Int32.toNatClampNeg x))) rfl (Nat.le_of_ble_eq_true rfl) rfl ⟨by decide, by decide⟩ ⟨Nat.zero_le _, Nat.zero_le _⟩ rfl rfl ?_
          refine V_if_ne (tgt := 78) f dX9_isClosed_72 (by decide) (fun c4 => ?_) (fun c4 => ?_)
          · refine V_iload f dX9_isClosed_78 1 rfl ?_
            refine V_if_ne (tgt := 149) f dX9_isClosed_80 (by decide) (fun c5 => ?_) (fun c5 => ?_)
            · refine V_iconst (v := 1) f dX9_isClosed_149 (by decide) ?_
              refine V_goto (tgt := 154) f dX9_isClosed_150 (by decide) ?_
              refine V_istore f dX9_isClosed_154 (by decide) rfl ?_
              refine V_iinc (v := x + 1) f dX9_isClosed_156 1 rfl rfl (by decide) rfl ?_
              refine V_goto (tgt := 22) f dX9_isClosed_159 (by decide) ?_
              obtain ⟨k9, e9, y0, y1⟩ := sl3 (sl2 hr (hS.2.2.2.1 _ (vlt (sl4 hr).1)) x0 c2) (by decide) hx
              exact ih k9 (by omega) (x + 1) 1 y0 y1 (Or.inr rfl)
            · refine V_aload_n f dX9_isClosed_83 4 rfl ?_
              refine V_getR f dX9_isClosed_84 lf_9_82 rfl zm_0 rfl ?_
              refine V_iload f dX9_isClosed_87 0 rfl ?_
              refine V_ialdE (x := M 23 (Int32.toNatClampNeg x)) f dX9_isClosed_89 zm_23 (sl2 hr (hS.2.2.2.1 _ (vlt (sl4 hr).1)) x0 c2) rfl ?_
              refine V_aload_n f dX9_isClosed_90 4 rfl ?_
              refine V_getR f dX9_isClosed_91 lf_9_85 rfl zm_0 rfl ?_
              refine V_iload f dX9_isClosed_94 0 rfl ?_
              refine V_ialdE (x := M 24 (Int32.toNatClampNeg x)) f dX9_isClosed_96 zm_24 (sl2 hr (hS.2.2.2.1 _ (vlt (sl4 hr).1)) x0 c2) rfl ?_
              refine V_icmp_gt (tgt := 125) f dX9_isClosed_97 (by decide) (fun c6 => ?_) (fun c6 => ?_)
              · refine V_iload f dX9_isClosed_125 2 rfl ?_
                refine V_aload_n f dX9_isClosed_127 4 rfl ?_
                refine V_getR f dX9_isClosed_128 lf_9_82 rfl zm_0 rfl ?_
                refine V_iload f dX9_isClosed_131 0 rfl ?_
                refine V_ialdE (x := M 23 (Int32.toNatClampNeg x)) f dX9_isClosed_133 zm_23 (sl2 hr (hS.2.2.2.1 _ (vlt (sl4 hr).1)) x0 c2) rfl ?_
                refine V_icmp_ge (tgt := 149) f dX9_isClosed_134 (by decide) (fun c7 => ?_) (fun c7 => ?_)
                · refine V_iconst (v := 1) f dX9_isClosed_149 (by decide) ?_
                  refine V_goto (tgt := 154) f dX9_isClosed_150 (by decide) ?_
                  refine V_istore f dX9_isClosed_154 (by decide) rfl ?_
                  refine V_iinc (v := x + 1) f dX9_isClosed_156 1 rfl rfl (by decide) rfl ?_
                  refine V_goto (tgt := 22) f dX9_isClosed_159 (by decide) ?_
                  obtain ⟨k9, e9, y0, y1⟩ := sl3 (sl2 hr (hS.2.2.2.1 _ (vlt (sl4 hr).1)) x0 c2) (by decide) hx
                  exact ih k9 (by omega) (x + 1) 1 y0 y1 (Or.inr rfl)
                · refine V_iload f dX9_isClosed_137 2 rfl ?_
                  refine V_aload_n f dX9_isClosed_139 4 rfl ?_
                  refine V_getR f dX9_isClosed_140 lf_9_85 rfl zm_0 rfl ?_
                  refine V_iload f dX9_isClosed_143 0 rfl ?_
                  refine V_ialdE (x := M 24 (Int32.toNatClampNeg x)) f dX9_isClosed_145 zm_24 (sl2 hr (hS.2.2.2.1 _ (vlt (sl4 hr).1)) x0 c2) rfl ?_
                  refine V_icmp_gt (tgt := 153) f dX9_isClosed_146 (by decide) (fun c8 => ?_) (fun c8 => ?_)
                  · refine V_iconst (v := 0) f dX9_isClosed_153 (by decide) ?_
                    refine V_istore f dX9_isClosed_154 (by decide) rfl ?_
                    refine V_iinc (v := x + 1) f dX9_isClosed_156 1 rfl rfl (by decide) rfl ?_
                    refine V_goto (tgt := 22) f dX9_isClosed_159 (by decide) ?_
                    obtain ⟨k9, e9, y0, y1⟩ := sl3 (sl2 hr (hS.2.2.2.1 _ (vlt (sl4 hr).1)) x0 c2) (by decide) hx
                    exact ih k9 (by omega) (x + 1) 0 y0 y1 (Or.inl rfl)
                  · refine V_iconst (v := 1) f dX9_isClosed_149 (by decide) ?_
                    refine V_goto (tgt := 154) f dX9_isClosed_150 (by decide) ?_
                    refine V_istore f dX9_isClosed_154 (by decide) rfl ?_
                    refine V_iinc (v := x + 1) f dX9_isClosed_156 1 rfl rfl (by decide) rfl ?_
                    refine V_goto (tgt := 22) f dX9_isClosed_159 (by decide) ?_
                    obtain ⟨k9, e9, y0, y1⟩ := sl3 (sl2 hr (hS.2.2.2.1 _ (vlt (sl4 hr).1)) x0 c2) (by decide) hx
                    exact ih k9 (by omega) (x + 1) 1 y0 y1 (Or.inr rfl)
              · refine V_iload f dX9_isClosed_100 2 rfl ?_
                refine V_aload_n f dX9_isClosed_102 4 rfl ?_
                refine V_getR f dX9_isClosed_103 lf_9_82 rfl zm_0 rfl ?_
                refine V_iload f dX9_isClosed_106 0 rfl ?_
                refine V_ialdE (x := M 23 (Int32.toNatClampNeg x)) f dX9_isClosed_108 zm_23 (sl2 hr (hS.2.2.2.1 _ (vlt (sl4 hr).1)) x0 c2) rfl ?_
                refine V_aload_n f dX9_isClosed_109 4 rfl ?_
                refine V_getR f dX9_isClosed_110 lf_9_85 rfl zm_0 rfl ?_
                refine V_iload f dX9_isClosed_113 0 rfl ?_
                refine V_ialdE (x := M 24 (Int32.toNatClampNeg x)) f dX9_isClosed_115 zm_24 (sl2 hr (hS.2.2.2.1 _ (vlt (sl4 hr).1)) x0 c2) rfl ?_
                refine V_cSi (As := [.int (a - a / 365 * 365), .int (M 23 (Int32.toNatClampNeg x)), .int (M 24 (Int32.toNatClampNeg x))]) (rest := []) f dX9_isClosed_116 lk_X9_109 ml_X9_109 sta_X9_isIn (c_X9_isIn (kl K) (kD K) (ky K) (kX K) ad M (a - a / 365 * 365) (M 23 (Int32.toNatClampNeg x)) (M 24 (Int32.toNatClampNeg x))) rfl (Nat.le_of_ble_eq_true rfl) rfl ⟨by decide, by decide⟩ ⟨Nat.zero_le _, Nat.zero_le _⟩ rfl rfl ?_
                refine V_if_eq (tgt := 153) f dX9_isClosed_119 (by decide) (fun c9 => ?_) (fun c9 => ?_)
                · refine V_iconst (v := 0) f dX9_isClosed_153 (by decide) ?_
                  refine V_istore f dX9_isClosed_154 (by decide) rfl ?_
                  refine V_iinc (v := x + 1) f dX9_isClosed_156 1 rfl rfl (by decide) rfl ?_
                  refine V_goto (tgt := 22) f dX9_isClosed_159 (by decide) ?_
                  obtain ⟨k9, e9, y0, y1⟩ := sl3 (sl2 hr (hS.2.2.2.1 _ (vlt (sl4 hr).1)) x0 c2) (by decide) hx
                  exact ih k9 (by omega) (x + 1) 0 y0 y1 (Or.inl rfl)
                · refine V_goto (tgt := 149) f dX9_isClosed_122 (by decide) ?_
                  refine V_iconst (v := 1) f dX9_isClosed_149 (by decide) ?_
                  refine V_goto (tgt := 154) f dX9_isClosed_150 (by decide) ?_
                  refine V_istore f dX9_isClosed_154 (by decide) rfl ?_
                  refine V_iinc (v := x + 1) f dX9_isClosed_156 1 rfl rfl (by decide) rfl ?_
                  refine V_goto (tgt := 22) f dX9_isClosed_159 (by decide) ?_
                  obtain ⟨k9, e9, y0, y1⟩ := sl3 (sl2 hr (hS.2.2.2.1 _ (vlt (sl4 hr).1)) x0 c2) (by decide) hx
                  exact ih k9 (by omega) (x + 1) 1 y0 y1 (Or.inr rfl)
          · refine V_goto (tgt := 156) f dX9_isClosed_75 (by decide) ?_
            refine V_iinc (v := x + 1) f dX9_isClosed_156 0 rfl rfl (by decide) rfl ?_
            refine V_goto (tgt := 22) f dX9_isClosed_159 (by decide) ?_
            obtain ⟨k9, e9, y0, y1⟩ := sl3 (sl2 hr (hS.2.2.2.1 _ (vlt (sl4 hr).1)) x0 c2) (by decide) hx
            exact ih k9 (by omega) (x + 1) t y0 y1 hv
  refine V_aload_n f dX9_isClosed_0 0 rfl ?_
  refine V_iload_n f dX9_isClosed_1 1 rfl ?_
  refine V_cVp (As := [.int a]) (rest := []) f dX9_isClosed_2 lk_X9_197 ml_X9_197 ins_X9_inForce sel_X9_inForce zm_0 (by decide) rfl (c3_X9_inForce _ _ _ _ ad M a hS) rfl (Nat.le_of_ble_eq_true rfl) rfl ⟨by decide, by decide⟩ ⟨Nat.zero_le _, Nat.zero_le _⟩ rfl rfl (fun v1 Mx1 hp1 => ?_)
  obtain ⟨r1, rfl, e1, hr1⟩ := hp1
  rw [e1]
  show V K ad 0 0 ZM M 5 [(0, .ref (ad 0)), (1, .int a), (2, .int b)] [.int r1]
  refine V_istore_n f dX9_isClosed_5 rfl (by decide) rfl ?_
  refine V_iload_n f dX9_isClosed_6 2 rfl ?_
  refine V_sipush (v := 365) f dX9_isClosed_7 (by decide) ?_
  refine V_irem f dX9_isClosed_10 (by decide) ?_
  refine V_istore f dX9_isClosed_11 (by decide) rfl ?_
  refine V_iconst (v := 0) f dX9_isClosed_13 (by decide) ?_
  refine V_istore f dX9_isClosed_14 (by decide) rfl ?_
  refine V_bipush (v := 16) f dX9_isClosed_16 (by decide) ?_
  refine V_iload_n f dX9_isClosed_18 2 rfl ?_
  refine V_imul f dX9_isClosed_19 ?_
  refine V_istore f dX9_isClosed_20 (by decide) rfl ?_
  rcases hr1 with er | er
  · refine V_iload_n f dX9_isClosed_22 3 rfl ?_
    refine V_iconst (v := (-1)) f dX9_isClosed_23 (by decide) ?_
    refine V_icmp_eq (tgt := 162) f dX9_isClosed_24 (by decide) (fun _ => ?_) (fun h => absurd er h)
    refine V_iload f dX9_isClosed_162 1 rfl ?_
    exact V_iret f q dX9_isClosed_164 rfl (Nat.zero_le _) (Nat.zero_le _) ⟨rfl, rfl, 0, rfl, Or.inl rfl, rfl⟩
  · exact loop r1 er (1000 - (16 * r1).toInt.toNat) (16 * r1) 0 (by have := sl1 er; omega) (by have := sl1 er; omega) (Or.inl rfl)
set_option maxHeartbeats 4000000 in
set_option maxRecDepth 100000 in
theorem c3_X9_tells (l : Launch) (D : va_G) (cy : Nat → ClassId) (X : va_W) (ad : Nat → Nat) (M : MT) (a : Int32) (e : Int32) (hS : InvS M) : CtP l yX9_tells cX9_tells 3 (some .int) (rK 2) D cy X ad ZM M [.ref (ad 0), .int a, .int e] (fun v M1 => (∃ r : Int32, v = some (.int r)) ∧ M1 = M) := by
  refine Ctr.of (by decide +kernel) (Nat.le_of_ble_eq_true rfl) ?_
  intro K f q hnm hl0 hD0 hy0 hX0
  show V K ad 0 0 ZM M 0 [(0, .ref (ad 0)), (1, .int a), (2, .int e)] []
  refine V_iload_n f dX9_tells_0 1 rfl ?_
  refine V_iconst (v := 0) f dX9_tells_1 (by decide) ?_
  refine V_sipush (v := 1000) f dX9_tells_2 (by decide) ?_
  refine V_cSi (As := [.int a, .int 0, .int 1000]) (rest := []) f dX9_tells_5 lk_X9_109 ml_X9_109 sta_X9_isIn (c_X9_isIn (kl K) (kD K) (ky K) (kX K) ad M a 0 1000) rfl (Nat.le_of_ble_eq_true rfl) rfl ⟨by decide, by decide⟩ ⟨Nat.zero_le _, Nat.zero_le _⟩ rfl rfl ?_
  refine V_if_ne (tgt := 13) f dX9_tells_8 (by decide) (fun c1 => ?_) (fun c1 => ?_)
  · refine V_iload_n f dX9_tells_13 2 rfl ?_
    refine V_bipush (v := 10) f dX9_tells_14 (by decide) ?_
    refine V_bipush (v := 25) f dX9_tells_16 (by decide) ?_
    refine V_cSi (As := [.int e, .int 10, .int 25]) (rest := []) f dX9_tells_18 lk_X9_109 ml_X9_109 sta_X9_isIn (c_X9_isIn (kl K) (kD K) (ky K) (kX K) ad M e 10 25) rfl (Nat.le_of_ble_eq_true rfl) rfl ⟨by decide, by decide⟩ ⟨Nat.zero_le _, Nat.zero_le _⟩ rfl rfl ?_
    refine V_if_eq (tgt := 37) f dX9_tells_21 (by decide) (fun c2 => ?_) (fun c2 => ?_)
    · refine V_iload_n f dX9_tells_37 2 rfl ?_
      refine V_if_ne (tgt := 53) f dX9_tells_38 (by decide) (fun c3 => ?_) (fun c3 => ?_)
      · refine V_iload_n f dX9_tells_53 2 rfl ?_
        refine V_iconst (v := 1) f dX9_tells_54 (by decide) ?_
        refine V_icmp_ne (tgt := 68) f dX9_tells_55 (by decide) (fun c4 => ?_) (fun c4 => ?_)
        · refine V_iload_n f dX9_tells_68 2 rfl ?_
          refine V_iconst (v := 2) f dX9_tells_69 (by decide) ?_
          refine V_icmp_ne (tgt := 81) f dX9_tells_70 (by decide) (fun c5 => ?_) (fun c5 => ?_)
          · refine V_iconst (v := (-1)) f dX9_tells_81 (by decide) ?_
            exact V_iret f q dX9_tells_82 rfl (Nat.zero_le _) (Nat.zero_le _) ⟨rfl, rfl, ⟨(-1), rfl⟩, rfl⟩
          · refine V_aload_n f dX9_tells_73 0 rfl ?_
            refine V_iload_n f dX9_tells_74 1 rfl ?_
            refine V_cVp (As := [.int a]) (rest := []) f dX9_tells_75 lk_X9_197 ml_X9_197 ins_X9_inForce sel_X9_inForce zm_0 (by decide) rfl (c3_X9_inForce _ _ _ _ ad M a hS) rfl (Nat.le_of_ble_eq_true rfl) rfl ⟨by decide, by decide⟩ ⟨Nat.zero_le _, Nat.zero_le _⟩ rfl rfl (fun v6 Mx6 hp6 => ?_)
            obtain ⟨r6, rfl, e6, hr6⟩ := hp6
            rw [e6]
            show V K ad 0 0 ZM M 78 [(0, .ref (ad 0)), (1, .int a), (2, .int e)] [.int r6]
            refine V_goto (tgt := 82) f dX9_tells_78 (by decide) ?_
            exact V_iret f q dX9_tells_82 rfl (Nat.zero_le _) (Nat.zero_le _) ⟨rfl, rfl, ⟨r6, rfl⟩, rfl⟩
        · refine V_aload_n f dX9_tells_58 0 rfl ?_
          refine V_iload_n f dX9_tells_59 1 rfl ?_
          refine V_iconst (v := 1) f dX9_tells_60 (by decide) ?_
          refine V_iconst (v := 0) f dX9_tells_61 (by decide) ?_
          refine V_cVp (As := [.int a, .int 1, .int 0]) (rest := []) f dX9_tells_62 lk_X9_209 ml_X9_209 ins_X9_lastOf sel_X9_lastOf zm_0 (by decide) rfl (c3_X9_lastOf _ _ _ _ ad M a 1 0 hS) rfl (Nat.le_of_ble_eq_true rfl) rfl ⟨by decide, by decide⟩ ⟨Nat.zero_le _, Nat.zero_le _⟩ rfl rfl (fun v7 Mx7 hp7 => ?_)
          obtain ⟨⟨r7, rfl⟩, e7⟩ := hp7
          rw [e7]
          show V K ad 0 0 ZM M 65 [(0, .ref (ad 0)), (1, .int a), (2, .int e)] [.int r7]
          refine V_goto (tgt := 82) f dX9_tells_65 (by decide) ?_
          exact V_iret f q dX9_tells_82 rfl (Nat.zero_le _) (Nat.zero_le _) ⟨rfl, rfl, ⟨r7, rfl⟩, rfl⟩
      · refine V_aload_n f dX9_tells_41 0 rfl ?_
        refine V_iload_n f dX9_tells_42 1 rfl ?_
        refine V_iconst (v := 0) f dX9_tells_43 (by decide) ?_
        refine V_sipush (v := 550) f dX9_tells_44 (by decide) ?_
        refine V_cVp (As := [.int a, .int 0, .int 550]) (rest := []) f dX9_tells_47 lk_X9_209 ml_X9_209 ins_X9_lastOf sel_X9_lastOf zm_0 (by decide) rfl (c3_X9_lastOf _ _ _ _ ad M a 0 550 hS) rfl (Nat.le_of_ble_eq_true rfl) rfl ⟨by decide, by decide⟩ ⟨Nat.zero_le _, Nat.zero_le _⟩ rfl rfl (fun v8 Mx8 hp8 => ?_)
        obtain ⟨⟨r8, rfl⟩, e8⟩ := hp8
        rw [e8]
        show V K ad 0 0 ZM M 50 [(0, .ref (ad 0)), (1, .int a), (2, .int e)] [.int r8]
        refine V_goto (tgt := 82) f dX9_tells_50 (by decide) ?_
        exact V_iret f q dX9_tells_82 rfl (Nat.zero_le _) (Nat.zero_le _) ⟨rfl, rfl, ⟨r8, rfl⟩, rfl⟩
    · refine V_aload_n f dX9_tells_24 0 rfl ?_
      refine V_iload_n f dX9_tells_25 1 rfl ?_
      refine V_iload_n f dX9_tells_26 2 rfl ?_
      refine V_bipush (v := 10) f dX9_tells_27 (by decide) ?_
      refine V_isub f dX9_tells_29 ?_
      refine V_cVp (As := [.int a, .int (e - 10)]) (rest := []) f dX9_tells_30 lk_X9_201 ml_X9_201 ins_X9_isClosed sel_X9_isClosed zm_0 (by decide) rfl (c3_X9_isClosed _ _ _ _ ad M a (e - 10) hS) rfl (Nat.le_of_ble_eq_true rfl) rfl ⟨by decide, by decide⟩ ⟨Nat.zero_le _, Nat.zero_le _⟩ rfl rfl (fun v9 Mx9 hp9 => ?_)
      obtain ⟨r9, rfl, hr9, e9⟩ := hp9
      rw [e9]
      show V K ad 0 0 ZM M 33 [(0, .ref (ad 0)), (1, .int a), (2, .int e)] [.int r9]
      refine V_cSi (As := [.int r9]) (rest := []) f dX9_tells_33 lk_X9_205 ml_X9_205 sta_X9_one (c_X9_one (kl K) (kD K) (ky K) (kX K) ad M r9) rfl (Nat.le_of_ble_eq_true rfl) rfl ⟨by decide, by decide⟩ ⟨Nat.zero_le _, Nat.zero_le _⟩ rfl rfl ?_
      exact V_iret f q dX9_tells_36 rfl (Nat.zero_le _) (Nat.zero_le _) ⟨rfl, rfl, ⟨(s_X9_one M r9), rfl⟩, rfl⟩
  · refine V_iconst (v := (-1)) f dX9_tells_11 (by decide) ?_
    exact V_iret f q dX9_tells_12 rfl (Nat.zero_le _) (Nat.zero_le _) ⟨rfl, rfl, ⟨(-1), rfl⟩, rfl⟩
set_option maxHeartbeats 4000000 in
set_option maxRecDepth 100000 in
theorem c3_X9_bars (l : Launch) (D : va_G) (cy : Nat → ClassId) (X : va_W) (ad : Nat → Nat) (M : MT) (b : Int32) (hS : InvS M) : CtP l yX9_bars cX9_bars 2 (some .int) (rK 2) D cy X ad ZM M [.ref (ad 0), .int b] (fun v M1 => ∃ r : Int32, v = some (.int r) ∧ M1 = M ∧ (r = 0 → vp_in b 16 ∧ ¬ M 2 (Int32.toNatClampNeg b) = 0)) := by
  refine Ctr.of (by decide +kernel) (Nat.le_of_ble_eq_true rfl) ?_
  intro K f q hnm hl0 hD0 hy0 hX0
  show V K ad 0 0 ZM M 0 [(0, .ref (ad 0)), (1, .int b)] []
  refine V_iload_n f dX9_bars_0 1 rfl ?_
  refine V_cSi (As := [.int b]) (rest := []) f dX9_bars_1 lk_X9_213 ml_X9_213 sta_X9_isBay (c_X9_isBay (kl K) (kD K) (ky K) (kX K) ad M b) rfl (Nat.le_of_ble_eq_true rfl) rfl ⟨by decide, by decide⟩ ⟨Nat.zero_le _, Nat.zero_le _⟩ rfl rfl ?_
  refine V_if_eq (tgt := 16) f dX9_bars_4 (by decide) (fun c1 => ?_) (fun c1 => ?_)
  · refine V_iconst (v := 1) f dX9_bars_16 (by decide) ?_
    exact V_iret f q dX9_bars_17 rfl (Nat.zero_le _) (Nat.zero_le _) ⟨rfl, rfl, 1, rfl, rfl, fun h => absurd h (by decide)⟩
  · refine V_aload_n f dX9_bars_7 0 rfl ?_
    refine V_getR f dX9_bars_8 lf_9_13 rfl zm_0 rfl ?_
    refine V_iload_n f dX9_bars_11 1 rfl ?_
    refine V_ialdE (x := M 2 (Int32.toNatClampNeg b)) f dX9_bars_12 zm_2 (isBay9_in c1) rfl ?_
    refine V_if_ne (tgt := 18) f dX9_bars_13 (by decide) (fun c2 => ?_) (fun c2 => ?_)
    · refine V_aload_n f dX9_bars_18 0 rfl ?_
      refine V_aload_n f dX9_bars_19 0 rfl ?_
      refine V_getE (x := M 0 0) f dX9_bars_20 lf_9_194 rfl zm_0 rfl ?_
      refine V_iload_n f dX9_bars_23 1 rfl ?_
      refine V_cVp (As := [.int (M 0 0), .int b]) (rest := []) f dX9_bars_24 lk_X9_201 ml_X9_201 ins_X9_isClosed sel_X9_isClosed zm_0 (by decide) rfl (c3_X9_isClosed _ _ _ _ ad M (M 0 0) b hS) rfl (Nat.le_of_ble_eq_true rfl) rfl ⟨by decide, by decide⟩ ⟨Nat.zero_le _, Nat.zero_le _⟩ rfl rfl (fun v3 Mx3 hp3 => ?_)
      obtain ⟨r3, rfl, hr3, e3⟩ := hp3
      rw [e3]
      show V K ad 0 0 ZM M 27 [(0, .ref (ad 0)), (1, .int b)] [.int r3]
      refine V_if_eq (tgt := 32) f dX9_bars_27 (by decide) (fun c4 => ?_) (fun c4 => ?_)
      · refine V_aload_n f dX9_bars_32 0 rfl ?_
        refine V_getE (x := M 0 1) f dX9_bars_33 lf_9_222 rfl zm_0 rfl ?_
        refine V_iload_n f dX9_bars_36 1 rfl ?_
        refine V_isub f dX9_bars_37 ?_
        refine V_mabs f dX9_bars_38 ml_X9_225 ma_abs ma_ini mc_abs (by decide) (Nat.le_of_ble_eq_true rfl) (Nat.zero_le _) (Nat.zero_le _) ?_
        refine V_iconst (v := 1) f dX9_bars_41 (by decide) ?_
        refine V_icmp_le (tgt := 47) f dX9_bars_42 (by decide) (fun c5 => ?_) (fun c5 => ?_)
        · refine V_aload_n f dX9_bars_47 0 rfl ?_
          refine V_getR f dX9_bars_48 lf_9_22 rfl zm_0 rfl ?_
          refine V_iload_n f dX9_bars_51 1 rfl ?_
          refine V_ialdE (x := M 5 (Int32.toNatClampNeg b)) f dX9_bars_52 zm_5 (isBay9_in c1) rfl ?_
          refine V_iconst (v := 3) f dX9_bars_53 (by decide) ?_
          refine V_icmp_ge (tgt := 59) f dX9_bars_54 (by decide) (fun c6 => ?_) (fun c6 => ?_)
          · refine V_aload_n f dX9_bars_59 0 rfl ?_
            refine V_getR f dX9_bars_60 lf_9_25 rfl zm_0 rfl ?_
            refine V_iload_n f dX9_bars_63 1 rfl ?_
            refine V_ialdE (x := M 6 (Int32.toNatClampNeg b)) f dX9_bars_64 zm_6 (isBay9_in c1) rfl ?_
            refine V_aload_n f dX9_bars_65 0 rfl ?_
            refine V_aload_n f dX9_bars_66 0 rfl ?_
            refine V_getE (x := M 0 0) f dX9_bars_67 lf_9_194 rfl zm_0 rfl ?_
            refine V_iconst (v := 0) f dX9_bars_70 (by decide) ?_
            refine V_sipush (v := 550) f dX9_bars_71 (by decide) ?_
            refine V_cVp (As := [.int (M 0 0), .int 0, .int 550]) (rest := [.int (M 6 (Int32.toNatClampNeg b))]) f dX9_bars_74 lk_X9_209 ml_X9_209 ins_X9_lastOf sel_X9_lastOf zm_0 (by decide) rfl (c3_X9_lastOf _ _ _ _ ad M (M 0 0) 0 550 hS) rfl (Nat.le_of_ble_eq_true rfl) rfl ⟨by decide, by decide⟩ ⟨Nat.zero_le _, Nat.zero_le _⟩ rfl rfl (fun v7 Mx7 hp7 => ?_)
            obtain ⟨⟨r7, rfl⟩, e7⟩ := hp7
            rw [e7]
            show V K ad 0 0 ZM M 77 [(0, .ref (ad 0)), (1, .int b)] [.int r7, .int (M 6 (Int32.toNatClampNeg b))]
            refine V_icmp_le (tgt := 84) f dX9_bars_77 (by decide) (fun c8 => ?_) (fun c8 => ?_)
            · refine V_iconst (v := 0) f dX9_bars_84 (by decide) ?_
              exact V_iret f q dX9_bars_85 rfl (Nat.zero_le _) (Nat.zero_le _) ⟨rfl, rfl, 0, rfl, rfl, fun _ => ⟨(isBay9_in c1), c2⟩⟩
            · refine V_iconst (v := 5) f dX9_bars_80 (by decide) ?_
              refine V_goto (tgt := 85) f dX9_bars_81 (by decide) ?_
              exact V_iret f q dX9_bars_85 rfl (Nat.zero_le _) (Nat.zero_le _) ⟨rfl, rfl, 5, rfl, rfl, fun h => absurd h (by decide)⟩
          · refine V_iconst (v := 4) f dX9_bars_57 (by decide) ?_
            exact V_iret f q dX9_bars_58 rfl (Nat.zero_le _) (Nat.zero_le _) ⟨rfl, rfl, 4, rfl, rfl, fun h => absurd h (by decide)⟩
        · refine V_iconst (v := 3) f dX9_bars_45 (by decide) ?_
          exact V_iret f q dX9_bars_46 rfl (Nat.zero_le _) (Nat.zero_le _) ⟨rfl, rfl, 3, rfl, rfl, fun h => absurd h (by decide)⟩
      · refine V_iconst (v := 2) f dX9_bars_30 (by decide) ?_
        exact V_iret f q dX9_bars_31 rfl (Nat.zero_le _) (Nat.zero_le _) ⟨rfl, rfl, 2, rfl, rfl, fun h => absurd h (by decide)⟩
    · refine V_iconst (v := 1) f dX9_bars_16 (by decide) ?_
      exact V_iret f q dX9_bars_17 rfl (Nat.zero_le _) (Nat.zero_le _) ⟨rfl, rfl, 1, rfl, rfl, fun h => absurd h (by decide)⟩
set_option maxHeartbeats 4000000 in
set_option maxRecDepth 100000 in
theorem c3_X9_act (l : Launch) (D : va_G) (cy : Nat → ClassId) (X : va_W) (ad : Nat → Nat) (M : MT) (a : Int32) (b : Int32) (hS : InvS M) (ha : vp_in a 10) : CtP l yX9_act cX9_act 8 (some .int) (rK 1) D cy X ad ZM M [.ref (ad 0), .int a, .int b] (fun v M1 => (∃ r : Int32, v = some (.int r)) ∧ M1 = M) := by
  refine Ctr.of (by decide +kernel) (Nat.le_of_ble_eq_true rfl) ?_
  intro K f q hnm hl0 hD0 hy0 hX0
  show V K ad 0 0 ZM M 0 [(0, .ref (ad 0)), (1, .int a), (2, .int b)] []
  have loop : ∀ (r : Int32), (0 ≤ r.toInt ∧ r.toInt ≤ 7) → ∀ (n : Nat) (x : Int32), 0 ≤ x.toInt → x.toInt + (n : Nat) = 1000 → V K ad 0 0 ZM M 12 [(4, .int x), (3, .int r), (0, .ref (ad 0)), (1, .int a), (2, .int b)] [] := by
    intro r hr n
    induction n using Nat.strongRecOn with
    | ind n ih =>
      intro x x0 hx
      have inner : ¬ ((16 * r) + (M 18 (Int32.toNatClampNeg r))) ≤ x → ∀ (n2 : Nat) (y u : Int32), 0 ≤ y.toInt → y.toInt + (n2 : Nat) = 1000 → V K ad 0 0 ZM M 57 [(6, .int y), (5, .int u), (4, .int x), (3, .int r), (0, .ref (ad 0)), (1, .int a), (2, .int b)] [] := by
        intro hcx n2
        induction n2 using Nat.strongRecOn with
        | ind n2 ih2 =>
          intro y u y0 hy
          refine V_iload f dX9_act_57 0 rfl ?_
          refine V_iconst (v := 3) f dX9_act_59 (by decide) ?_
          refine V_iload f dX9_act_60 2 rfl ?_
          refine V_imul f dX9_act_62 ?_
          refine V_aload_n f dX9_act_63 4 rfl ?_
          refine V_getR f dX9_act_64 lf_9_88 rfl zm_0 rfl ?_
          refine V_iload f dX9_act_67 2 rfl ?_
          refine V_ialdE (x := M 25 (Int32.toNatClampNeg x)) f dX9_act_69 zm_25 (sl2 hr (hS.2.2.2.1 _ (vlt (sl4 hr).1)) x0 hcx) rfl ?_
          refine V_iadd f dX9_act_70 ?_
          refine V_icmp_ge (tgt := 216) f dX9_act_71 (by decide) (fun c2 => ?_) (fun c2 => ?_)
          · refine V_iload f dX9_act_216 1 rfl ?_
            refine V_if_eq (tgt := 229) f dX9_act_218 (by decide) (fun c3 => ?_) (fun c3 => ?_)
            · refine V_iinc (v := x + 1) f dX9_act_229 2 rfl rfl (by decide) rfl ?_
              refine V_goto (tgt := 12) f dX9_act_232 (by decide) ?_
              refine V.sub [0, 3, 4, 5, 6] rfl ?_
              obtain ⟨k9, e9, y0, y1⟩ := sl3 (sl2 hr (hS.2.2.2.1 _ (vlt (sl4 hr).1)) x0 hcx) (by decide) hx
              exact ih k9 (by omega) (x + 1)  y0 y1
            · refine V_aload_n f dX9_act_221 4 rfl ?_
              refine V_getR f dX9_act_222 lf_9_73 rfl zm_0 rfl ?_
              refine V_iload f dX9_act_225 2 rfl ?_
              refine V_ialdE (x := M 20 (Int32.toNatClampNeg x)) f dX9_act_227 zm_20 (sl2 hr (hS.2.2.2.1 _ (vlt (sl4 hr).1)) x0 hcx) rfl ?_
              exact V_iret f q dX9_act_228 rfl (Nat.zero_le _) (Nat.zero_le _) ⟨rfl, rfl, ⟨(M 20 (Int32.toNatClampNeg x)), rfl⟩, rfl⟩
          · refine V_iload f dX9_act_74 1 rfl ?_
            refine V_if_eq (tgt := 216) f dX9_act_76 (by decide) (fun c4 => ?_) (fun c4 => ?_)
            · refine V_iload f dX9_act_216 1 rfl ?_
              refine V_if_eq (tgt := 229) f dX9_act_218 (by decide) (fun _ => ?_) (fun h => absurd c4 h)
              refine V_iinc (v := x + 1) f dX9_act_229 2 rfl rfl (by decide) rfl ?_
              refine V_goto (tgt := 12) f dX9_act_232 (by decide) ?_
              refine V.sub [0, 3, 4, 5, 6] rfl ?_
              obtain ⟨k9, e9, y0, y1⟩ := sl3 (sl2 hr (hS.2.2.2.1 _ (vlt (sl4 hr).1)) x0 hcx) (by decide) hx
              exact ih k9 (by omega) (x + 1)  y0 y1
            · refine V_aload_n f dX9_act_79 4 rfl ?_
              refine V_getR f dX9_act_80 lf_9_91 rfl zm_0 rfl ?_
              refine V_iload f dX9_act_83 0 rfl ?_
              refine V_ialdE (x := M 26 (Int32.toNatClampNeg y)) f dX9_act_85 zm_26 (tr2 (sl2 hr (hS.2.2.2.1 _ (vlt (sl4 hr).1)) x0 hcx) (hS.2.2.2.2 _ (vlt (sl2 hr (hS.2.2.2.1 _ (vlt (sl4 hr).1)) x0 hcx))) y0 c2) rfl ?_
              refine V_if_ne (tgt := 98) f dX9_act_86 (by decide) (fun c5 => ?_) (fun c5 => ?_)
              · refine V_aload_n f dX9_act_98 4 rfl ?_
                refine V_getR f dX9_act_99 lf_9_91 rfl zm_0 rfl ?_
                refine V_iload f dX9_act_102 0 rfl ?_
                refine V_ialdE (x := M 26 (Int32.toNatClampNeg y)) f dX9_act_104 zm_26 (tr2 (sl2 hr (hS.2.2.2.1 _ (vlt (sl4 hr).1)) x0 hcx) (hS.2.2.2.2 _ (vlt (sl2 hr (hS.2.2.2.1 _ (vlt (sl4 hr).1)) x0 hcx))) y0 c2) rfl ?_
                refine V_iconst (v := 1) f dX9_act_105 (by decide) ?_
                refine V_icmp_ne (tgt := 123) f dX9_act_106 (by decide) (fun c6 => ?_) (fun c6 => ?_)
                · refine V_aload_n f dX9_act_123 4 rfl ?_
                  refine V_getR f dX9_act_124 lf_9_31 rfl zm_0 rfl ?_
                  refine V_iload_n f dX9_act_127 5 rfl ?_
                  refine V_ialdE (x := M 8 (Int32.toNatClampNeg a)) f dX9_act_128 zm_8 ha rfl ?_
                  refine V_istore f dX9_act_129 (by decide) rfl ?_
                  refine V_iload f dX9_act_131 0 rfl ?_
                  refine V_iconst (v := (-1)) f dX9_act_133 (by decide) ?_
                  refine V_icmp_eq (tgt := 207) f dX9_act_134 (by decide) (fun c7 => ?_) (fun c7 => ?_)
                  · refine V_iconst (v := 0) f dX9_act_207 (by decide) ?_
                    refine V_istore f dX9_act_208 (by decide) rfl ?_
                    refine V_iinc (v := y + 1) f dX9_act_210 2 rfl rfl (by decide) rfl ?_
                    refine V_goto (tgt := 57) f dX9_act_213 (by decide) ?_
                    refine V.sub [0, 1, 3, 4, 5, 6, 7] rfl ?_
                    obtain ⟨k9, e9, z0, z1⟩ := sl3 (tr2 (sl2 hr (hS.2.2.2.1 _ (vlt (sl4 hr).1)) x0 hcx) (hS.2.2.2.2 _ (vlt (sl2 hr (hS.2.2.2.1 _ (vlt (sl4 hr).1)) x0 hcx))) y0 c2) (by decide) hy
                    exact ih2 k9 (by omega) (y + 1) 0 z0 z1
                  · refine V_aload_n f dX9_act_137 5 rfl ?_
                    refine V_getR f dX9_act_138 lf_9_94 rfl zm_0 rfl ?_
                    refine V_iload f dX9_act_141 1 rfl ?_
                    refine V_ialdE (x := M 27 (Int32.toNatClampNeg y)) f dX9_act_143 zm_27 (tr2 (sl2 hr (hS.2.2.2.1 _ (vlt (sl4 hr).1)) x0 hcx) (hS.2.2.2.2 _ (vlt (sl2 hr (hS.2.2.2.1 _ (vlt (sl4 hr).1)) x0 hcx))) y0 c2) rfl ?_
                    refine V_bipush (v := 60) f dX9_act_144 (by decide) ?_
                    refine V_icmp_ne (tgt := 164) f dX9_act_146 (by decide) (fun c8 => ?_) (fun c8 => ?_)
                    · refine V_aload_n f dX9_act_164 5 rfl ?_
                      refine V_getR f dX9_act_165 lf_9_94 rfl zm_0 rfl ?_
                      refine V_iload f dX9_act_168 1 rfl ?_
                      refine V_ialdE (x := M 27 (Int32.toNatClampNeg y)) f dX9_act_170 zm_27 (tr2 (sl2 hr (hS.2.2.2.1 _ (vlt (sl4 hr).1)) x0 hcx) (hS.2.2.2.2 _ (vlt (sl2 hr (hS.2.2.2.1 _ (vlt (sl4 hr).1)) x0 hcx))) y0 c2) rfl ?_
                      refine V_bipush (v := 62) f dX9_act_171 (by decide) ?_
                      refine V_icmp_ne (tgt := 191) f dX9_act_173 (by decide) (fun c9 => ?_) (fun c9 => ?_)
                      · refine V_iload f dX9_act_191 0 rfl ?_
                        refine V_aload_n f dX9_act_193 5 rfl ?_
                        refine V_getR f dX9_act_194 lf_9_97 rfl zm_0 rfl ?_
                        refine V_iload f dX9_act_197 1 rfl ?_
                        refine V_ialdE (x := M 28 (Int32.toNatClampNeg y)) f dX9_act_199 zm_28 (tr2 (sl2 hr (hS.2.2.2.1 _ (vlt (sl4 hr).1)) x0 hcx) (hS.2.2.2.2 _ (vlt (sl2 hr (hS.2.2.2.1 _ (vlt (sl4 hr).1)) x0 hcx))) y0 c2) rfl ?_
                        refine V_icmp_ne (tgt := 207) f dX9_act_200 (by decide) (fun c10 => ?_) (fun c10 => ?_)
                        · refine V_iconst (v := 0) f dX9_act_207 (by decide) ?_
                          refine V_istore f dX9_act_208 (by decide) rfl ?_
                          refine V_iinc (v := y + 1) f dX9_act_210 2 rfl rfl (by decide) rfl ?_
                          refine V_goto (tgt := 57) f dX9_act_213 (by decide) ?_
                          refine V.sub [0, 1, 3, 4, 5, 6, 7] rfl ?_
                          obtain ⟨k9, e9, z0, z1⟩ := sl3 (tr2 (sl2 hr (hS.2.2.2.1 _ (vlt (sl4 hr).1)) x0 hcx) (hS.2.2.2.2 _ (vlt (sl2 hr (hS.2.2.2.1 _ (vlt (sl4 hr).1)) x0 hcx))) y0 c2) (by decide) hy
                          exact ih2 k9 (by omega) (y + 1) 0 z0 z1
                        · refine V_iconst (v := 1) f dX9_act_203 (by decide) ?_
                          refine V_goto (tgt := 208) f dX9_act_204 (by decide) ?_
                          refine V_istore f dX9_act_208 (by decide) rfl ?_
                          refine V_iinc (v := y + 1) f dX9_act_210 2 rfl rfl (by decide) rfl ?_
                          refine V_goto (tgt := 57) f dX9_act_213 (by decide) ?_
                          refine V.sub [0, 1, 3, 4, 5, 6, 7] rfl ?_
                          obtain ⟨k9, e9, z0, z1⟩ := sl3 (tr2 (sl2 hr (hS.2.2.2.1 _ (vlt (sl4 hr).1)) x0 hcx) (hS.2.2.2.2 _ (vlt (sl2 hr (hS.2.2.2.1 _ (vlt (sl4 hr).1)) x0 hcx))) y0 c2) (by decide) hy
                          exact ih2 k9 (by omega) (y + 1) 1 z0 z1
                      · refine V_iload f dX9_act_176 0 rfl ?_
                        refine V_aload_n f dX9_act_178 5 rfl ?_
                        refine V_getR f dX9_act_179 lf_9_97 rfl zm_0 rfl ?_
                        refine V_iload f dX9_act_182 1 rfl ?_
                        refine V_ialdE (x := M 28 (Int32.toNatClampNeg y)) f dX9_act_184 zm_28 (tr2 (sl2 hr (hS.2.2.2.1 _ (vlt (sl4 hr).1)) x0 hcx) (hS.2.2.2.2 _ (vlt (sl2 hr (hS.2.2.2.1 _ (vlt (sl4 hr).1)) x0 hcx))) y0 c2) rfl ?_
                        refine V_icmp_le (tgt := 207) f dX9_act_185 (by decide) (fun c11 => ?_) (fun c11 => ?_)
                        · refine V_iconst (v := 0) f dX9_act_207 (by decide) ?_
                          refine V_istore f dX9_act_208 (by decide) rfl ?_
                          refine V_iinc (v := y + 1) f dX9_act_210 2 rfl rfl (by decide) rfl ?_
                          refine V_goto (tgt := 57) f dX9_act_213 (by decide) ?_
                          refine V.sub [0, 1, 3, 4, 5, 6, 7] rfl ?_
                          obtain ⟨k9, e9, z0, z1⟩ := sl3 (tr2 (sl2 hr (hS.2.2.2.1 _ (vlt (sl4 hr).1)) x0 hcx) (hS.2.2.2.2 _ (vlt (sl2 hr (hS.2.2.2.1 _ (vlt (sl4 hr).1)) x0 hcx))) y0 c2) (by decide) hy
                          exact ih2 k9 (by omega) (y + 1) 0 z0 z1
                        · refine V_goto (tgt := 203) f dX9_act_188 (by decide) ?_
                          refine V_iconst (v := 1) f dX9_act_203 (by decide) ?_
                          refine V_goto (tgt := 208) f dX9_act_204 (by decide) ?_
                          refine V_istore f dX9_act_208 (by decide) rfl ?_
                          refine V_iinc (v := y + 1) f dX9_act_210 2 rfl rfl (by decide) rfl ?_
                          refine V_goto (tgt := 57) f dX9_act_213 (by decide) ?_
                          refine V.sub [0, 1, 3, 4, 5, 6, 7] rfl ?_
                          obtain ⟨k9, e9, z0, z1⟩ := sl3 (tr2 (sl2 hr (hS.2.2.2.1 _ (vlt (sl4 hr).1)) x0 hcx) (hS.2.2.2.2 _ (vlt (sl2 hr (hS.2.2.2.1 _ (vlt (sl4 hr).1)) x0 hcx))) y0 c2) (by decide) hy
                          exact ih2 k9 (by omega) (y + 1) 1 z0 z1
                    · refine V_iload f dX9_act_149 0 rfl ?_
                      refine V_aload_n f dX9_act_151 5 rfl ?_
                      refine V_getR f dX9_act_152 lf_9_97 rfl zm_0 rfl ?_
                      refine V_iload f dX9_act_155 1 rfl ?_
                      refine V_ialdE (x := M 28 (Int32.toNatClampNeg y)) f dX9_act_157 zm_28 (tr2 (sl2 hr (hS.2.2.2.1 _ (vlt (sl4 hr).1)) x0 hcx) (hS.2.2.2.2 _ (vlt (sl2 hr (hS.2.2.2.1 _ (vlt (sl4 hr).1)) x0 hcx))) y0 c2) rfl ?_
                      refine V_icmp_ge (tgt := 207) f dX9_act_158 (by decide) (fun c12 => ?_) (fun c12 => ?_)
                      · refine V_iconst (v := 0) f dX9_act_207 (by decide) ?_
                        refine V_istore f dX9_act_208 (by decide) rfl ?_
                        refine V_iinc (v := y + 1) f dX9_act_210 2 rfl rfl (by decide) rfl ?_
                        refine V_goto (tgt := 57) f dX9_act_213 (by decide) ?_
                        refine V.sub [0, 1, 3, 4, 5, 6, 7] rfl ?_
                        obtain ⟨k9, e9, z0, z1⟩ := sl3 (tr2 (sl2 hr (hS.2.2.2.1 _ (vlt (sl4 hr).1)) x0 hcx) (hS.2.2.2.2 _ (vlt (sl2 hr (hS.2.2.2.1 _ (vlt (sl4 hr).1)) x0 hcx))) y0 c2) (by decide) hy
                        exact ih2 k9 (by omega) (y + 1) 0 z0 z1
                      · refine V_goto (tgt := 203) f dX9_act_161 (by decide) ?_
                        refine V_iconst (v := 1) f dX9_act_203 (by decide) ?_
                        refine V_goto (tgt := 208) f dX9_act_204 (by decide) ?_
                        refine V_istore f dX9_act_208 (by decide) rfl ?_
                        refine V_iinc (v := y + 1) f dX9_act_210 2 rfl rfl (by decide) rfl ?_
                        refine V_goto (tgt := 57) f dX9_act_213 (by decide) ?_
                        refine V.sub [0, 1, 3, 4, 5, 6, 7] rfl ?_
                        obtain ⟨k9, e9, z0, z1⟩ := sl3 (tr2 (sl2 hr (hS.2.2.2.1 _ (vlt (sl4 hr).1)) x0 hcx) (hS.2.2.2.2 _ (vlt (sl2 hr (hS.2.2.2.1 _ (vlt (sl4 hr).1)) x0 hcx))) y0 c2) (by decide) hy
                        exact ih2 k9 (by omega) (y + 1) 1 z0 z1
                · refine V_iload_n f dX9_act_109 6 rfl ?_
                  refine V_aload_n f dX9_act_110 4 rfl ?_
                  refine V_getR f dX9_act_111 lf_9_43 rfl zm_0 rfl ?_
                  refine V_iload_n f dX9_act_114 5 rfl ?_
                  refine V_ialdE (x := M 12 (Int32.toNatClampNeg a)) f dX9_act_115 zm_12 ha rfl ?_
                  refine V_isub f dX9_act_116 ?_
                  refine V_bipush (v := 7) f dX9_act_117 (by decide) ?_
                  refine V_idiv f dX9_act_119 (by decide) ?_
                  refine V_goto (tgt := 129) f dX9_act_120 (by decide) ?_
                  refine V_istore f dX9_act_129 (by decide) rfl ?_
                  refine V_iload f dX9_act_131 0 rfl ?_
                  refine V_iconst (v := (-1)) f dX9_act_133 (by decide) ?_
                  refine V_icmp_eq (tgt := 207) f dX9_act_134 (by decide) (fun c13 => ?_) (fun c13 => ?_)
                  · refine V_iconst (v := 0) f dX9_act_207 (by decide) ?_
                    refine V_istore f dX9_act_208 (by decide) rfl ?_
                    refine V_iinc (v := y + 1) f dX9_act_210 2 rfl rfl (by decide) rfl ?_
                    refine V_goto (tgt := 57) f dX9_act_213 (by decide) ?_
                    refine V.sub [0, 1, 3, 4, 5, 6, 7] rfl ?_
                    obtain ⟨k9, e9, z0, z1⟩ := sl3 (tr2 (sl2 hr (hS.2.2.2.1 _ (vlt (sl4 hr).1)) x0 hcx) (hS.2.2.2.2 _ (vlt (sl2 hr (hS.2.2.2.1 _ (vlt (sl4 hr).1)) x0 hcx))) y0 c2) (by decide) hy
                    exact ih2 k9 (by omega) (y + 1) 0 z0 z1
                  · refine V_aload_n f dX9_act_137 5 rfl ?_
                    refine V_getR f dX9_act_138 lf_9_94 rfl zm_0 rfl ?_
                    refine V_iload f dX9_act_141 1 rfl ?_
                    refine V_ialdE (x := M 27 (Int32.toNatClampNeg y)) f dX9_act_143 zm_27 (tr2 (sl2 hr (hS.2.2.2.1 _ (vlt (sl4 hr).1)) x0 hcx) (hS.2.2.2.2 _ (vlt (sl2 hr (hS.2.2.2.1 _ (vlt (sl4 hr).1)) x0 hcx))) y0 c2) rfl ?_
                    refine V_bipush (v := 60) f dX9_act_144 (by decide) ?_
                    refine V_icmp_ne (tgt := 164) f dX9_act_146 (by decide) (fun c14 => ?_) (fun c14 => ?_)
                    · refine V_aload_n f dX9_act_164 5 rfl ?_
                      refine V_getR f dX9_act_165 lf_9_94 rfl zm_0 rfl ?_
                      refine V_iload f dX9_act_168 1 rfl ?_
                      refine V_ialdE (x := M 27 (Int32.toNatClampNeg y)) f dX9_act_170 zm_27 (tr2 (sl2 hr (hS.2.2.2.1 _ (vlt (sl4 hr).1)) x0 hcx) (hS.2.2.2.2 _ (vlt (sl2 hr (hS.2.2.2.1 _ (vlt (sl4 hr).1)) x0 hcx))) y0 c2) rfl ?_
                      refine V_bipush (v := 62) f dX9_act_171 (by decide) ?_
                      refine V_icmp_ne (tgt := 191) f dX9_act_173 (by decide) (fun c15 => ?_) (fun c15 => ?_)
                      · refine V_iload f dX9_act_191 0 rfl ?_
                        refine V_aload_n f dX9_act_193 5 rfl ?_
                        refine V_getR f dX9_act_194 lf_9_97 rfl zm_0 rfl ?_
                        refine V_iload f dX9_act_197 1 rfl ?_
                        refine V_ialdE (x := M 28 (Int32.toNatClampNeg y)) f dX9_act_199 zm_28 (tr2 (sl2 hr (hS.2.2.2.1 _ (vlt (sl4 hr).1)) x0 hcx) (hS.2.2.2.2 _ (vlt (sl2 hr (hS.2.2.2.1 _ (vlt (sl4 hr).1)) x0 hcx))) y0 c2) rfl ?_
                        refine V_icmp_ne (tgt := 207) f dX9_act_200 (by decide) (fun c16 => ?_) (fun c16 => ?_)
                        · refine V_iconst (v := 0) f dX9_act_207 (by decide) ?_
                          refine V_istore f dX9_act_208 (by decide) rfl ?_
                          refine V_iinc (v := y + 1) f dX9_act_210 2 rfl rfl (by decide) rfl ?_
                          refine V_goto (tgt := 57) f dX9_act_213 (by decide) ?_
                          refine V.sub [0, 1, 3, 4, 5, 6, 7] rfl ?_
                          obtain ⟨k9, e9, z0, z1⟩ := sl3 (tr2 (sl2 hr (hS.2.2.2.1 _ (vlt (sl4 hr).1)) x0 hcx) (hS.2.2.2.2 _ (vlt (sl2 hr (hS.2.2.2.1 _ (vlt (sl4 hr).1)) x0 hcx))) y0 c2) (by decide) hy
                          exact ih2 k9 (by omega) (y + 1) 0 z0 z1
                        · refine V_iconst (v := 1) f dX9_act_203 (by decide) ?_
                          refine V_goto (tgt := 208) f dX9_act_204 (by decide) ?_
                          refine V_istore f dX9_act_208 (by decide) rfl ?_
                          refine V_iinc (v := y + 1) f dX9_act_210 2 rfl rfl (by decide) rfl ?_
                          refine V_goto (tgt := 57) f dX9_act_213 (by decide) ?_
                          refine V.sub [0, 1, 3, 4, 5, 6, 7] rfl ?_
                          obtain ⟨k9, e9, z0, z1⟩ := sl3 (tr2 (sl2 hr (hS.2.2.2.1 _ (vlt (sl4 hr).1)) x0 hcx) (hS.2.2.2.2 _ (vlt (sl2 hr (hS.2.2.2.1 _ (vlt (sl4 hr).1)) x0 hcx))) y0 c2) (by decide) hy
                          exact ih2 k9 (by omega) (y + 1) 1 z0 z1
                      · refine V_iload f dX9_act_176 0 rfl ?_
                        refine V_aload_n f dX9_act_178 5 rfl ?_
                        refine V_getR f dX9_act_179 lf_9_97 rfl zm_0 rfl ?_
                        refine V_iload f dX9_act_182 1 rfl ?_
                        refine V_ialdE (x := M 28 (Int32.toNatClampNeg y)) f dX9_act_184 zm_28 (tr2 (sl2 hr (hS.2.2.2.1 _ (vlt (sl4 hr).1)) x0 hcx) (hS.2.2.2.2 _ (vlt (sl2 hr (hS.2.2.2.1 _ (vlt (sl4 hr).1)) x0 hcx))) y0 c2) rfl ?_
                        refine V_icmp_le (tgt := 207) f dX9_act_185 (by decide) (fun c17 => ?_) (fun c17 => ?_)
                        · refine V_iconst (v := 0) f dX9_act_207 (by decide) ?_
                          refine V_istore f dX9_act_208 (by decide) rfl ?_
                          refine V_iinc (v := y + 1) f dX9_act_210 2 rfl rfl (by decide) rfl ?_
                          refine V_goto (tgt := 57) f dX9_act_213 (by decide) ?_
                          refine V.sub [0, 1, 3, 4, 5, 6, 7] rfl ?_
                          obtain ⟨k9, e9, z0, z1⟩ := sl3 (tr2 (sl2 hr (hS.2.2.2.1 _ (vlt (sl4 hr).1)) x0 hcx) (hS.2.2.2.2 _ (vlt (sl2 hr (hS.2.2.2.1 _ (vlt (sl4 hr).1)) x0 hcx))) y0 c2) (by decide) hy
                          exact ih2 k9 (by omega) (y + 1) 0 z0 z1
                        · refine V_goto (tgt := 203) f dX9_act_188 (by decide) ?_
                          refine V_iconst (v := 1) f dX9_act_203 (by decide) ?_
                          refine V_goto (tgt := 208) f dX9_act_204 (by decide) ?_
                          refine V_istore f dX9_act_208 (by decide) rfl ?_
                          refine V_iinc (v := y + 1) f dX9_act_210 2 rfl rfl (by decide) rfl ?_
                          refine V_goto (tgt := 57) f dX9_act_213 (by decide) ?_
                          refine V.sub [0, 1, 3, 4, 5, 6, 7] rfl ?_
                          obtain ⟨k9, e9, z0, z1⟩ := sl3 (tr2 (sl2 hr (hS.2.2.2.1 _ (vlt (sl4 hr).1)) x0 hcx) (hS.2.2.2.2 _ (vlt (sl2 hr (hS.2.2.2.1 _ (vlt (sl4 hr).1)) x0 hcx))) y0 c2) (by decide) hy
                          exact ih2 k9 (by omega) (y + 1) 1 z0 z1
                    · refine V_iload f dX9_act_149 0 rfl ?_
                      refine V_aload_n f dX9_act_151 5 rfl ?_
                      refine V_getR f dX9_act_152 lf_9_97 rfl zm_0 rfl ?_
                      refine V_iload f dX9_act_155 1 rfl ?_
                      refine V_ialdE (x := M 28 (Int32.toNatClampNeg y)) f dX9_act_157 zm_28 (tr2 (sl2 hr (hS.2.2.2.1 _ (vlt (sl4 hr).1)) x0 hcx) (hS.2.2.2.2 _ (vlt (sl2 hr (hS.2.2.2.1 _ (vlt (sl4 hr).1)) x0 hcx))) y0 c2) rfl ?_
                      refine V_icmp_ge (tgt := 207) f dX9_act_158 (by decide) (fun c18 => ?_) (fun c18 => ?_)
                      · refine V_iconst (v := 0) f dX9_act_207 (by decide) ?_
                        refine V_istore f dX9_act_208 (by decide) rfl ?_
                        refine V_iinc (v := y + 1) f dX9_act_210 2 rfl rfl (by decide) rfl ?_
                        refine V_goto (tgt := 57) f dX9_act_213 (by decide) ?_
                        refine V.sub [0, 1, 3, 4, 5, 6, 7] rfl ?_
                        obtain ⟨k9, e9, z0, z1⟩ := sl3 (tr2 (sl2 hr (hS.2.2.2.1 _ (vlt (sl4 hr).1)) x0 hcx) (hS.2.2.2.2 _ (vlt (sl2 hr (hS.2.2.2.1 _ (vlt (sl4 hr).1)) x0 hcx))) y0 c2) (by decide) hy
                        exact ih2 k9 (by omega) (y + 1) 0 z0 z1
                      · refine V_goto (tgt := 203) f dX9_act_161 (by decide) ?_
                        refine V_iconst (v := 1) f dX9_act_203 (by decide) ?_
                        refine V_goto (tgt := 208) f dX9_act_204 (by decide) ?_
                        refine V_istore f dX9_act_208 (by decide) rfl ?_
                        refine V_iinc (v := y + 1) f dX9_act_210 2 rfl rfl (by decide) rfl ?_
                        refine V_goto (tgt := 57) f dX9_act_213 (by decide) ?_
                        refine V.sub [0, 1, 3, 4, 5, 6, 7] rfl ?_
                        obtain ⟨k9, e9, z0, z1⟩ := sl3 (tr2 (sl2 hr (hS.2.2.2.1 _ (vlt (sl4 hr).1)) x0 hcx) (hS.2.2.2.2 _ (vlt (sl2 hr (hS.2.2.2.1 _ (vlt (sl4 hr).1)) x0 hcx))) y0 c2) (by decide) hy
                        exact ih2 k9 (by omega) (y + 1) 1 z0 z1
              · refine V_aload_n f dX9_act_89 4 rfl ?_
                refine V_getR f dX9_act_90 lf_9_40 rfl zm_0 rfl ?_
                refine V_iload_n f dX9_act_93 5 rfl ?_
                refine V_ialdE (x := M 11 (Int32.toNatClampNeg a)) f dX9_act_94 zm_11 ha rfl ?_
                refine V_goto (tgt := 129) f dX9_act_95 (by decide) ?_
                refine V_istore f dX9_act_129 (by decide) rfl ?_
                refine V_iload f dX9_act_131 0 rfl ?_
                refine V_iconst (v := (-1)) f dX9_act_133 (by decide) ?_
                refine V_icmp_eq (tgt := 207) f dX9_act_134 (by decide) (fun c19 => ?_) (fun c19 => ?_)
                · refine V_iconst (v := 0) f dX9_act_207 (by decide) ?_
                  refine V_istore f dX9_act_208 (by decide) rfl ?_
                  refine V_iinc (v := y + 1) f dX9_act_210 2 rfl rfl (by decide) rfl ?_
                  refine V_goto (tgt := 57) f dX9_act_213 (by decide) ?_
                  refine V.sub [0, 1, 3, 4, 5, 6, 7] rfl ?_
                  obtain ⟨k9, e9, z0, z1⟩ := sl3 (tr2 (sl2 hr (hS.2.2.2.1 _ (vlt (sl4 hr).1)) x0 hcx) (hS.2.2.2.2 _ (vlt (sl2 hr (hS.2.2.2.1 _ (vlt (sl4 hr).1)) x0 hcx))) y0 c2) (by decide) hy
                  exact ih2 k9 (by omega) (y + 1) 0 z0 z1
                · refine V_aload_n f dX9_act_137 5 rfl ?_
                  refine V_getR f dX9_act_138 lf_9_94 rfl zm_0 rfl ?_
                  refine V_iload f dX9_act_141 1 rfl ?_
                  refine V_ialdE (x := M 27 (Int32.toNatClampNeg y)) f dX9_act_143 zm_27 (tr2 (sl2 hr (hS.2.2.2.1 _ (vlt (sl4 hr).1)) x0 hcx) (hS.2.2.2.2 _ (vlt (sl2 hr (hS.2.2.2.1 _ (vlt (sl4 hr).1)) x0 hcx))) y0 c2) rfl ?_
                  refine V_bipush (v := 60) f dX9_act_144 (by decide) ?_
                  refine V_icmp_ne (tgt := 164) f dX9_act_146 (by decide) (fun c20 => ?_) (fun c20 => ?_)
                  · refine V_aload_n f dX9_act_164 5 rfl ?_
                    refine V_getR f dX9_act_165 lf_9_94 rfl zm_0 rfl ?_
                    refine V_iload f dX9_act_168 1 rfl ?_
                    refine V_ialdE (x := M 27 (Int32.toNatClampNeg y)) f dX9_act_170 zm_27 (tr2 (sl2 hr (hS.2.2.2.1 _ (vlt (sl4 hr).1)) x0 hcx) (hS.2.2.2.2 _ (vlt (sl2 hr (hS.2.2.2.1 _ (vlt (sl4 hr).1)) x0 hcx))) y0 c2) rfl ?_
                    refine V_bipush (v := 62) f dX9_act_171 (by decide) ?_
                    refine V_icmp_ne (tgt := 191) f dX9_act_173 (by decide) (fun c21 => ?_) (fun c21 => ?_)
                    · refine V_iload f dX9_act_191 0 rfl ?_
                      refine V_aload_n f dX9_act_193 5 rfl ?_
                      refine V_getR f dX9_act_194 lf_9_97 rfl zm_0 rfl ?_
                      refine V_iload f dX9_act_197 1 rfl ?_
                      refine V_ialdE (x := M 28 (Int32.toNatClampNeg y)) f dX9_act_199 zm_28 (tr2 (sl2 hr (hS.2.2.2.1 _ (vlt (sl4 hr).1)) x0 hcx) (hS.2.2.2.2 _ (vlt (sl2 hr (hS.2.2.2.1 _ (vlt (sl4 hr).1)) x0 hcx))) y0 c2) rfl ?_
                      refine V_icmp_ne (tgt := 207) f dX9_act_200 (by decide) (fun c22 => ?_) (fun c22 => ?_)
                      · refine V_iconst (v := 0) f dX9_act_207 (by decide) ?_
                        refine V_istore f dX9_act_208 (by decide) rfl ?_
                        refine V_iinc (v := y + 1) f dX9_act_210 2 rfl rfl (by decide) rfl ?_
                        refine V_goto (tgt := 57) f dX9_act_213 (by decide) ?_
                        refine V.sub [0, 1, 3, 4, 5, 6, 7] rfl ?_
                        obtain ⟨k9, e9, z0, z1⟩ := sl3 (tr2 (sl2 hr (hS.2.2.2.1 _ (vlt (sl4 hr).1)) x0 hcx) (hS.2.2.2.2 _ (vlt (sl2 hr (hS.2.2.2.1 _ (vlt (sl4 hr).1)) x0 hcx))) y0 c2) (by decide) hy
                        exact ih2 k9 (by omega) (y + 1) 0 z0 z1
                      · refine V_iconst (v := 1) f dX9_act_203 (by decide) ?_
                        refine V_goto (tgt := 208) f dX9_act_204 (by decide) ?_
                        refine V_istore f dX9_act_208 (by decide) rfl ?_
                        refine V_iinc (v := y + 1) f dX9_act_210 2 rfl rfl (by decide) rfl ?_
                        refine V_goto (tgt := 57) f dX9_act_213 (by decide) ?_
                        refine V.sub [0, 1, 3, 4, 5, 6, 7] rfl ?_
                        obtain ⟨k9, e9, z0, z1⟩ := sl3 (tr2 (sl2 hr (hS.2.2.2.1 _ (vlt (sl4 hr).1)) x0 hcx) (hS.2.2.2.2 _ (vlt (sl2 hr (hS.2.2.2.1 _ (vlt (sl4 hr).1)) x0 hcx))) y0 c2) (by decide) hy
                        exact ih2 k9 (by omega) (y + 1) 1 z0 z1
                    · refine V_iload f dX9_act_176 0 rfl ?_
                      refine V_aload_n f dX9_act_178 5 rfl ?_
                      refine V_getR f dX9_act_179 lf_9_97 rfl zm_0 rfl ?_
                      refine V_iload f dX9_act_182 1 rfl ?_
                      refine V_ialdE (x := M 28 (Int32.toNatClampNeg y)) f dX9_act_184 zm_28 (tr2 (sl2 hr (hS.2.2.2.1 _ (vlt (sl4 hr).1)) x0 hcx) (hS.2.2.2.2 _ (vlt (sl2 hr (hS.2.2.2.1 _ (vlt (sl4 hr).1)) x0 hcx))) y0 c2) rfl ?_
                      refine V_icmp_le (tgt := 207) f dX9_act_185 (by decide) (fun c23 => ?_) (fun c23 => ?_)
                      · refine V_iconst (v := 0) f dX9_act_207 (by decide) ?_
                        refine V_istore f dX9_act_208 (by decide) rfl ?_
                        refine V_iinc (v := y + 1) f dX9_act_210 2 rfl rfl (by decide) rfl ?_
                        refine V_goto (tgt := 57) f dX9_act_213 (by decide) ?_
                        refine V.sub [0, 1, 3, 4, 5, 6, 7] rfl ?_
                        obtain ⟨k9, e9, z0, z1⟩ := sl3 (tr2 (sl2 hr (hS.2.2.2.1 _ (vlt (sl4 hr).1)) x0 hcx) (hS.2.2.2.2 _ (vlt (sl2 hr (hS.2.2.2.1 _ (vlt (sl4 hr).1)) x0 hcx))) y0 c2) (by decide) hy
                        exact ih2 k9 (by omega) (y + 1) 0 z0 z1
                      · refine V_goto (tgt := 203) f dX9_act_188 (by decide) ?_
                        refine V_iconst (v := 1) f dX9_act_203 (by decide) ?_
                        refine V_goto (tgt := 208) f dX9_act_204 (by decide) ?_
                        refine V_istore f dX9_act_208 (by decide) rfl ?_
                        refine V_iinc (v := y + 1) f dX9_act_210 2 rfl rfl (by decide) rfl ?_
                        refine V_goto (tgt := 57) f dX9_act_213 (by decide) ?_
                        refine V.sub [0, 1, 3, 4, 5, 6, 7] rfl ?_
                        obtain ⟨k9, e9, z0, z1⟩ := sl3 (tr2 (sl2 hr (hS.2.2.2.1 _ (vlt (sl4 hr).1)) x0 hcx) (hS.2.2.2.2 _ (vlt (sl2 hr (hS.2.2.2.1 _ (vlt (sl4 hr).1)) x0 hcx))) y0 c2) (by decide) hy
                        exact ih2 k9 (by omega) (y + 1) 1 z0 z1
                  · refine V_iload f dX9_act_149 0 rfl ?_
                    refine V_aload_n f dX9_act_151 5 rfl ?_
                    refine V_getR f dX9_act_152 lf_9_97 rfl zm_0 rfl ?_
                    refine V_iload f dX9_act_155 1 rfl ?_
                    refine V_ialdE (x := M 28 (Int32.toNatClampNeg y)) f dX9_act_157 zm_28 (tr2 (sl2 hr (hS.2.2.2.1 _ (vlt (sl4 hr).1)) x0 hcx) (hS.2.2.2.2 _ (vlt (sl2 hr (hS.2.2.2.1 _ (vlt (sl4 hr).1)) x0 hcx))) y0 c2) rfl ?_
                    refine V_icmp_ge (tgt := 207) f dX9_act_158 (by decide) (fun c24 => ?_) (fun c24 => ?_)
                    · refine V_iconst (v := 0) f dX9_act_207 (by decide) ?_
                      refine V_istore f dX9_act_208 (by decide) rfl ?_
                      refine V_iinc (v := y + 1) f dX9_act_210 2 rfl rfl (by decide) rfl ?_
                      refine V_goto (tgt := 57) f dX9_act_213 (by decide) ?_
                      refine V.sub [0, 1, 3, 4, 5, 6, 7] rfl ?_
                      obtain ⟨k9, e9, z0, z1⟩ := sl3 (tr2 (sl2 hr (hS.2.2.2.1 _ (vlt (sl4 hr).1)) x0 hcx) (hS.2.2.2.2 _ (vlt (sl2 hr (hS.2.2.2.1 _ (vlt (sl4 hr).1)) x0 hcx))) y0 c2) (by decide) hy
                      exact ih2 k9 (by omega) (y + 1) 0 z0 z1
                    · refine V_goto (tgt := 203) f dX9_act_161 (by decide) ?_
                      refine V_iconst (v := 1) f dX9_act_203 (by decide) ?_
                      refine V_goto (tgt := 208) f dX9_act_204 (by decide) ?_
                      refine V_istore f dX9_act_208 (by decide) rfl ?_
                      refine V_iinc (v := y + 1) f dX9_act_210 2 rfl rfl (by decide) rfl ?_
                      refine V_goto (tgt := 57) f dX9_act_213 (by decide) ?_
                      refine V.sub [0, 1, 3, 4, 5, 6, 7] rfl ?_
                      obtain ⟨k9, e9, z0, z1⟩ := sl3 (tr2 (sl2 hr (hS.2.2.2.1 _ (vlt (sl4 hr).1)) x0 hcx) (hS.2.2.2.2 _ (vlt (sl2 hr (hS.2.2.2.1 _ (vlt (sl4 hr).1)) x0 hcx))) y0 c2) (by decide) hy
                      exact ih2 k9 (by omega) (y + 1) 1 z0 z1
      refine V_iload_n f dX9_act_12 1 rfl ?_
      refine V_iconst (v := (-1)) f dX9_act_13 (by decide) ?_
      refine V_icmp_eq (tgt := 235) f dX9_act_14 (by decide) (fun h => absurd h (sl4 hr).2) (fun _ => ?_)
      refine V_iload f dX9_act_17 0 rfl ?_
      refine V_bipush (v := 16) f dX9_act_19 (by decide) ?_
      refine V_iload_n f dX9_act_21 1 rfl ?_
      refine V_imul f dX9_act_22 ?_
      refine V_aload_n f dX9_act_23 2 rfl ?_
      refine V_getR f dX9_act_24 lf_9_67 rfl zm_0 rfl ?_
      refine V_iload_n f dX9_act_27 1 rfl ?_
      refine V_ialdE (x := M 18 (Int32.toNatClampNeg r)) f dX9_act_28 zm_18 (sl4 hr).1 rfl ?_
      refine V_iadd f dX9_act_29 ?_
      refine V_icmp_ge (tgt := 235) f dX9_act_30 (by decide) (fun c25 => ?_) (fun c25 => ?_)
      · refine V_iconst (v := 5) f dX9_act_235 (by decide) ?_
        exact V_iret f q dX9_act_236 rfl (Nat.zero_le _) (Nat.zero_le _) ⟨rfl, rfl, ⟨5, rfl⟩, rfl⟩
      · refine V_aload_n f dX9_act_33 2 rfl ?_
        refine V_getR f dX9_act_34 lf_9_73 rfl zm_0 rfl ?_
        refine V_iload f dX9_act_37 0 rfl ?_
        refine V_ialdE (x := M 20 (Int32.toNatClampNeg x)) f dX9_act_39 zm_20 (sl2 hr (hS.2.2.2.1 _ (vlt (sl4 hr).1)) x0 c25) rfl ?_
        refine V_iconst (v := 2) f dX9_act_40 (by decide) ?_
        refine V_icmp_le (tgt := 48) f dX9_act_41 (by decide) (fun c26 => ?_) (fun c26 => ?_)
        · refine V_iconst (v := 0) f dX9_act_48 (by decide) ?_
          refine V_istore f dX9_act_49 (by decide) rfl ?_
          refine V_iconst (v := 3) f dX9_act_51 (by decide) ?_
          refine V_iload f dX9_act_52 1 rfl ?_
          refine V_imul f dX9_act_54 ?_
          refine V_istore f dX9_act_55 (by decide) rfl ?_
          have hq9 := sl2 hr (hS.2.2.2.1 _ (vlt (sl4 hr).1)) x0 c25
          have ht9 := tr1 hq9
          rw [vp_in_iff] at hq9
          exact inner c25 (1000 - (3 * x).toInt.toNat) (3 * x) 0 (by omega) (by omega)
        · refine V_iconst (v := 1) f dX9_act_44 (by decide) ?_
          refine V_goto (tgt := 49) f dX9_act_45 (by decide) ?_
          refine V_istore f dX9_act_49 (by decide) rfl ?_
          refine V_iconst (v := 3) f dX9_act_51 (by decide) ?_
          refine V_iload f dX9_act_52 1 rfl ?_
          refine V_imul f dX9_act_54 ?_
          refine V_istore f dX9_act_55 (by decide) rfl ?_
          have hq9 := sl2 hr (hS.2.2.2.1 _ (vlt (sl4 hr).1)) x0 c25
          have ht9 := tr1 hq9
          rw [vp_in_iff] at hq9
          exact inner c25 (1000 - (3 * x).toInt.toNat) (3 * x) 1 (by omega) (by omega)
  refine V_aload_n f dX9_act_0 0 rfl ?_
  refine V_iload_n f dX9_act_1 2 rfl ?_
  refine V_cVp (As := [.int b]) (rest := []) f dX9_act_2 lk_X9_197 ml_X9_197 ins_X9_inForce sel_X9_inForce zm_0 (by decide) rfl (c3_X9_inForce _ _ _ _ ad M b hS) rfl (Nat.le_of_ble_eq_true rfl) rfl ⟨by decide, by decide⟩ ⟨Nat.zero_le _, Nat.zero_le _⟩ rfl rfl (fun v1 Mx1 hp1 => ?_)
  obtain ⟨r1, rfl, e1, hr1⟩ := hp1
  rw [e1]
  show V K ad 0 0 ZM M 5 [(0, .ref (ad 0)), (1, .int a), (2, .int b)] [.int r1]
  refine V_istore_n f dX9_act_5 rfl (by decide) rfl ?_
  refine V_bipush (v := 16) f dX9_act_6 (by decide) ?_
  refine V_iload_n f dX9_act_8 0 rfl ?_
  refine V_imul f dX9_act_9 ?_
  refine V_istore f dX9_act_10 (by decide) rfl ?_
  rcases hr1 with er | er
  · refine V_iload_n f dX9_act_12 1 rfl ?_
    refine V_iconst (v := (-1)) f dX9_act_13 (by decide) ?_
    refine V_icmp_eq (tgt := 235) f dX9_act_14 (by decide) (fun _ => ?_) (fun h => absurd er h)
    refine V_iconst (v := 5) f dX9_act_235 (by decide) ?_
    exact V_iret f q dX9_act_236 rfl (Nat.zero_le _) (Nat.zero_le _) ⟨rfl, rfl, ⟨5, rfl⟩, rfl⟩
  · exact loop r1 er (1000 - (16 * r1).toInt.toNat) (16 * r1)  (by have := sl1 er; omega) (by have := sl1 er; omega)
set_option maxHeartbeats 4000000 in
set_option maxRecDepth 100000 in
theorem c3_X9_count (l : Launch) (D : va_G) (cy : Nat → ClassId) (X : va_W) (ad : Nat → Nat) (M : MT) (e : Int32) (hS : InvS M) : CtP l yX9_count cX9_count 4 (some .int) (rK 0) D cy X ad ZM M [.ref (ad 0), .int e] (fun v M1 => (∃ r : Int32, v = some (.int r)) ∧ M1 = M) := by
  refine Ctr.of (by decide +kernel) (Nat.le_of_ble_eq_true rfl) ?_
  intro K f q hnm hl0 hD0 hy0 hX0
  show V K ad 0 0 ZM M 0 [(0, .ref (ad 0)), (1, .int e)] []
  have loop : ∀ (n : Nat) (x : Int32) (t2 : Int32), 0 ≤ x.toInt → x.toInt + (n : Nat) = 1000 → V K ad 0 0 ZM M 115 [(3, .int x), (2, .int t2), (0, .ref (ad 0)), (1, .int e)] [] := by
    intro n
    induction n using Nat.strongRecOn with
    | ind n ih =>
      intro x t2 x0 hx
      refine V_iload_n f dX9_count_115 0 rfl ?_
      refine V_aload_n f dX9_count_116 2 rfl ?_
      refine V_getE (x := M 0 9) f dX9_count_117 lf_9_113 rfl zm_0 rfl ?_
      refine V_icmp_ge (tgt := 138) f dX9_count_120 (by decide) (fun c14 => ?_) (fun c14 => ?_)
      · refine V_iload_n f dX9_count_138 1 rfl ?_
        exact V_iret f q dX9_count_139 rfl (Nat.zero_le _) (Nat.zero_le _) ⟨rfl, rfl, ⟨t2, rfl⟩, rfl⟩
      · refine V_iload_n f dX9_count_123 1 rfl ?_
        refine V_aload_n f dX9_count_124 2 rfl ?_
        refine V_getR f dX9_count_125 lf_9_31 rfl zm_0 rfl ?_
        refine V_iload_n f dX9_count_128 0 rfl ?_
        refine V_ialdE (x := M 8 (Int32.toNatClampNeg x)) f dX9_count_129 zm_8 (vinN x0 c14 hS.1.2) rfl ?_
        refine V_iadd f dX9_count_130 ?_
        refine V_istore_n f dX9_count_131 rfl (by decide) rfl ?_
        refine V_iinc (v := x + 1) f dX9_count_132 1 rfl rfl (by decide) rfl ?_
        refine V_goto (tgt := 115) f dX9_count_135 (by decide) ?_
        obtain ⟨k9, e9, y0, y1⟩ := lo_inc x0 hx c14 (by have := hS.1.2; omega)
        exact ih k9 (by omega) (x + 1) _ y0 y1
  refine V_iconst (v := 0) f dX9_count_0 (by decide) ?_
  refine V_istore_n f dX9_count_1 rfl (by decide) rfl ?_
  refine V_iload_n f dX9_count_2 2 rfl ?_
  rcases Decidable.em (e = 0) with c1 | c1
  · refine V_tableIn (off := 65) (tgt := 68) f dX9_count_3 (by rw [c1]; decide) (by rw [c1]; decide) (by rw [c1]; decide) (by decide) ?_
    refine V_aload_n f dX9_count_68 1 rfl ?_
    refine V_getE (x := M 0 0) f dX9_count_69 lf_9_194 rfl zm_0 rfl ?_
    exact V_iret f q dX9_count_72 rfl (Nat.zero_le _) (Nat.zero_le _) ⟨rfl, rfl, ⟨(M 0 0), rfl⟩, rfl⟩
  rcases Decidable.em (e = 1) with c2 | c2
  · refine V_tableIn (off := 70) (tgt := 73) f dX9_count_3 (by rw [c2]; decide) (by rw [c2]; decide) (by rw [c2]; decide) (by decide) ?_
    refine V_aload_n f dX9_count_73 1 rfl ?_
    refine V_getE (x := M 0 1) f dX9_count_74 lf_9_222 rfl zm_0 rfl ?_
    exact V_iret f q dX9_count_77 rfl (Nat.zero_le _) (Nat.zero_le _) ⟨rfl, rfl, ⟨(M 0 1), rfl⟩, rfl⟩
  rcases Decidable.em (e = 2) with c3 | c3
  · refine V_tableIn (off := 75) (tgt := 78) f dX9_count_3 (by rw [c3]; decide) (by rw [c3]; decide) (by rw [c3]; decide) (by decide) ?_
    refine V_aload_n f dX9_count_78 1 rfl ?_
    refine V_getE (x := M 0 2) f dX9_count_79 lf_9_237 rfl zm_0 rfl ?_
    exact V_iret f q dX9_count_82 rfl (Nat.zero_le _) (Nat.zero_le _) ⟨rfl, rfl, ⟨(M 0 2), rfl⟩, rfl⟩
  rcases Decidable.em (e = 3) with c4 | c4
  · refine V_tableIn (off := 80) (tgt := 83) f dX9_count_3 (by rw [c4]; decide) (by rw [c4]; decide) (by rw [c4]; decide) (by decide) ?_
    refine V_aload_n f dX9_count_83 1 rfl ?_
    refine V_getE (x := M 0 3) f dX9_count_84 lf_9_240 rfl zm_0 rfl ?_
    exact V_iret f q dX9_count_87 rfl (Nat.zero_le _) (Nat.zero_le _) ⟨rfl, rfl, ⟨(M 0 3), rfl⟩, rfl⟩
  rcases Decidable.em (e = 4) with c5 | c5
  · refine V_tableIn (off := 85) (tgt := 88) f dX9_count_3 (by rw [c5]; decide) (by rw [c5]; decide) (by rw [c5]; decide) (by decide) ?_
    refine V_aload_n f dX9_count_88 1 rfl ?_
    refine V_getE (x := M 0 4) f dX9_count_89 lf_9_257 rfl zm_0 rfl ?_
    exact V_iret f q dX9_count_92 rfl (Nat.zero_le _) (Nat.zero_le _) ⟨rfl, rfl, ⟨(M 0 4), rfl⟩, rfl⟩
  rcases Decidable.em (e = 5) with c6 | c6
  · refine V_tableIn (off := 90) (tgt := 93) f dX9_count_3 (by rw [c6]; decide) (by rw [c6]; decide) (by rw [c6]; decide) (by decide) ?_
    refine V_aload_n f dX9_count_93 1 rfl ?_
    refine V_getE (x := M 0 5) f dX9_count_94 lf_9_260 rfl zm_0 rfl ?_
    exact V_iret f q dX9_count_97 rfl (Nat.zero_le _) (Nat.zero_le _) ⟨rfl, rfl, ⟨(M 0 5), rfl⟩, rfl⟩
  rcases Decidable.em (e = 6) with c7 | c7
  · refine V_tableIn (off := 95) (tgt := 98) f dX9_count_3 (by rw [c7]; decide) (by rw [c7]; decide) (by rw [c7]; decide) (by decide) ?_
    refine V_aload_n f dX9_count_98 1 rfl ?_
    refine V_getE (x := M 0 6) f dX9_count_99 lf_9_263 rfl zm_0 rfl ?_
    exact V_iret f q dX9_count_102 rfl (Nat.zero_le _) (Nat.zero_le _) ⟨rfl, rfl, ⟨(M 0 6), rfl⟩, rfl⟩
  rcases Decidable.em (e = 7) with c8 | c8
  · refine V_tableIn (off := 100) (tgt := 103) f dX9_count_3 (by rw [c8]; decide) (by rw [c8]; decide) (by rw [c8]; decide) (by decide) ?_
    refine V_aload_n f dX9_count_103 1 rfl ?_
    refine V_getE (x := M 0 7) f dX9_count_104 lf_9_266 rfl zm_0 rfl ?_
    exact V_iret f q dX9_count_107 rfl (Nat.zero_le _) (Nat.zero_le _) ⟨rfl, rfl, ⟨(M 0 7), rfl⟩, rfl⟩
  rcases Decidable.em (e = 8) with c9 | c9
  · refine V_tableIn (off := 105) (tgt := 108) f dX9_count_3 (by rw [c9]; decide) (by rw [c9]; decide) (by rw [c9]; decide) (by decide) ?_
    refine V_aload_n f dX9_count_108 1 rfl ?_
    refine V_getE (x := M 0 8) f dX9_count_109 lf_9_246 rfl zm_0 rfl ?_
    exact V_iret f q dX9_count_112 rfl (Nat.zero_le _) (Nat.zero_le _) ⟨rfl, rfl, ⟨(M 0 8), rfl⟩, rfl⟩
  rcases Decidable.em (e = 9) with c10 | c10
  · refine V_tableIn (off := 110) (tgt := 113) f dX9_count_3 (by rw [c10]; decide) (by rw [c10]; decide) (by rw [c10]; decide) (by decide) ?_
    refine V_iconst (v := 0) f dX9_count_113 (by decide) ?_
    refine V_istore_n f dX9_count_114 rfl (by decide) rfl ?_
    exact loop 1000 0 0 (by decide) (by decide)
  rcases Decidable.em (e = 10) with c11 | c11
  · refine V_tableIn (off := 137) (tgt := 140) f dX9_count_3 (by rw [c11]; decide) (by rw [c11]; decide) (by rw [c11]; decide) (by decide) ?_
    refine V_aload_n f dX9_count_140 1 rfl ?_
    refine V_getE (x := M 0 9) f dX9_count_141 lf_9_113 rfl zm_0 rfl ?_
    exact V_iret f q dX9_count_144 rfl (Nat.zero_le _) (Nat.zero_le _) ⟨rfl, rfl, ⟨(M 0 9), rfl⟩, rfl⟩
  rcases Decidable.em (e = 11) with c12 | c12
  · refine V_tableIn (off := 142) (tgt := 145) f dX9_count_3 (by rw [c12]; decide) (by rw [c12]; decide) (by rw [c12]; decide) (by decide) ?_
    refine V_aload_n f dX9_count_145 1 rfl ?_
    refine V_getE (x := M 0 31) f dX9_count_146 lf_9_188 rfl zm_0 rfl ?_
    exact V_iret f q dX9_count_149 rfl (Nat.zero_le _) (Nat.zero_le _) ⟨rfl, rfl, ⟨(M 0 31), rfl⟩, rfl⟩
  rcases Decidable.em (e = 12) with c13 | c13
  · refine V_tableIn (off := 147) (tgt := 150) f dX9_count_3 (by rw [c13]; decide) (by rw [c13]; decide) (by rw [c13]; decide) (by decide) ?_
    refine V_aload_n f dX9_count_150 1 rfl ?_
    refine V_getE (x := M 0 27) f dX9_count_151 lf_9_116 rfl zm_0 rfl ?_
    exact V_iret f q dX9_count_154 rfl (Nat.zero_le _) (Nat.zero_le _) ⟨rfl, rfl, ⟨(M 0 27), rfl⟩, rfl⟩
  refine V_tableOut (tgt := 155) f dX9_count_3 (sw_out 0 12 13 [0, 1, 2, 3, 4, 5, 6, 7, 8, 9, 10, 11, 12] (by decide) (by decide) (List.forall_mem_cons.mpr ⟨c1, (List.forall_mem_cons.mpr ⟨c2, (List.forall_mem_cons.mpr ⟨c3, (List.forall_mem_cons.mpr ⟨c4, (List.forall_mem_cons.mpr ⟨c5, (List.forall_mem_cons.mpr ⟨c6, (List.forall_mem_cons.mpr ⟨c7, (List.forall_mem_cons.mpr ⟨c8, (List.forall_mem_cons.mpr ⟨c9, (List.forall_mem_cons.mpr ⟨c10, (List.forall_mem_cons.mpr ⟨c11, (List.forall_mem_cons.mpr ⟨c12, (List.forall_mem_cons.mpr ⟨c13, (fun _ h => absurd h List.not_mem_nil)⟩)⟩)⟩)⟩)⟩)⟩)⟩)⟩)⟩)⟩)⟩)⟩)⟩)) (by decide) ?_
  refine V_iconst (v := (-1)) f dX9_count_155 (by decide) ?_
  exact V_iret f q dX9_count_156 rfl (Nat.zero_le _) (Nat.zero_le _) ⟨rfl, rfl, ⟨(-1), rfl⟩, rfl⟩
set_option maxHeartbeats 4000000 in
set_option maxRecDepth 100000 in
theorem c3_X9_lasts (l : Launch) (D : va_G) (cy : Nat → ClassId) (X : va_W) (ad : Nat → Nat) (M : MT) (hS : InvS M) : CtP l yX9_lasts cX9_lasts 3 (some .int) (rK 1) D cy X ad ZM M [.ref (ad 0)] (fun v M1 => (∃ r : Int32, v = some (.int r)) ∧ M1 = M) := by
  refine Ctr.of (by decide +kernel) (Nat.le_of_ble_eq_true rfl) ?_
  intro K f q hnm hl0 hD0 hy0 hX0
  show V K ad 0 0 ZM M 0 [(0, .ref (ad 0))] []
  have loop : ∀ (n : Nat) (x : Int32) (t1 : Int32), 0 ≤ x.toInt → x.toInt + (n : Nat) = 1000 → V K ad 0 0 ZM M 7 [(2, .int x), (1, .int t1), (0, .ref (ad 0))] [] := by
    intro n
    induction n using Nat.strongRecOn with
    | ind n ih =>
      intro x t1 x0 hx
      refine V_iload_n f dX9_lasts_7 0 rfl ?_
      refine V_aload_n f dX9_lasts_8 2 rfl ?_
      refine V_getE (x := M 0 9) f dX9_lasts_9 lf_9_113 rfl zm_0 rfl ?_
      refine V_icmp_ge (tgt := 42) f dX9_lasts_12 (by decide) (fun c1 => ?_) (fun c1 => ?_)
      · refine V_aload_n f dX9_lasts_42 2 rfl ?_
        refine V_getE (x := M 0 3) f dX9_lasts_43 lf_9_240 rfl zm_0 rfl ?_
        refine V_if_ne (tgt := 53) f dX9_lasts_46 (by decide) (fun c2 => ?_) (fun c2 => ?_)
        · refine V_iload_n f dX9_lasts_53 1 rfl ?_
          refine V_aload_n f dX9_lasts_54 2 rfl ?_
          refine V_getE (x := M 0 3) f dX9_lasts_55 lf_9_240 rfl zm_0 rfl ?_
          refine V_idiv f dX9_lasts_58 (by assumption) ?_
          exact V_iret f q dX9_lasts_59 rfl (Nat.zero_le _) (Nat.zero_le _) ⟨rfl, rfl, ⟨(t1 / (M 0 3)), rfl⟩, rfl⟩
        · refine V_iconst (v := (-1)) f dX9_lasts_49 (by decide) ?_
          refine V_goto (tgt := 59) f dX9_lasts_50 (by decide) ?_
          exact V_iret f q dX9_lasts_59 rfl (Nat.zero_le _) (Nat.zero_le _) ⟨rfl, rfl, ⟨(-1), rfl⟩, rfl⟩
      · refine V_iload_n f dX9_lasts_15 1 rfl ?_
        refine V_aload_n f dX9_lasts_16 2 rfl ?_
        refine V_iload_n f dX9_lasts_17 0 rfl ?_
        refine V_cVi (As := [.int x]) (rest := [.int t1]) f dX9_lasts_18 lk_X9_234 ml_X9_234 ins_X9_burns sel_X9_burns zm_0 (by decide) rfl (c_X9_burns (kl K) (kD K) (ky K) (kX K) ad M x (vinN x0 c1 hS.1.2)) rfl (Nat.le_of_ble_eq_true rfl) rfl ⟨by decide, by decide⟩ ⟨Nat.zero_le _, Nat.zero_le _⟩ rfl rfl ?_
        refine V_if_eq (tgt := 28) f dX9_lasts_21 (by decide) (fun c3 => ?_) (fun c3 => ?_)
        · refine V_aload_n f dX9_lasts_28 2 rfl ?_
          refine V_getR f dX9_lasts_29 lf_9_31 rfl zm_0 rfl ?_
          refine V_iload_n f dX9_lasts_32 0 rfl ?_
          refine V_ialdE (x := M 8 (Int32.toNatClampNeg x)) f dX9_lasts_33 zm_8 (vinN x0 c1 hS.1.2) rfl ?_
          refine V_iadd f dX9_lasts_34 ?_
          refine V_istore_n f dX9_lasts_35 rfl (by decide) rfl ?_
          refine V_iinc (v := x + 1) f dX9_lasts_36 1 rfl rfl (by decide) rfl ?_
          refine V_goto (tgt := 7) f dX9_lasts_39 (by decide) ?_
          obtain ⟨k9, e9, y0, y1⟩ := lo_inc x0 hx c1 (by have := hS.1.2; omega)
          exact ih k9 (by omega) (x + 1) _ y0 y1
        · refine V_iconst (v := 0) f dX9_lasts_24 (by decide) ?_
          refine V_goto (tgt := 34) f dX9_lasts_25 (by decide) ?_
          refine V_iadd f dX9_lasts_34 ?_
          refine V_istore_n f dX9_lasts_35 rfl (by decide) rfl ?_
          refine V_iinc (v := x + 1) f dX9_lasts_36 1 rfl rfl (by decide) rfl ?_
          refine V_goto (tgt := 7) f dX9_lasts_39 (by decide) ?_
          obtain ⟨k9, e9, y0, y1⟩ := lo_inc x0 hx c1 (by have := hS.1.2; omega)
          exact ih k9 (by omega) (x + 1) _ y0 y1
  refine V_aload_n f dX9_lasts_0 0 rfl ?_
  refine V_getE (x := M 0 4) f dX9_lasts_1 lf_9_257 rfl zm_0 rfl ?_
  refine V_istore_n f dX9_lasts_4 rfl (by decide) rfl ?_
  refine V_iconst (v := 0) f dX9_lasts_5 (by decide) ?_
  refine V_istore_n f dX9_lasts_6 rfl (by decide) rfl ?_
  exact loop 1000 0 (M 0 4) (by decide) (by decide)

set_option maxHeartbeats 4000000 in
set_option maxRecDepth 100000 in
theorem c4_X1_closes (l : Launch) (D : va_G) (cy : Nat → ClassId) (X : va_W) (ad : Nat → Nat) (M : MT) (i : Nat) (a : Int32) (b : Int32) (hz : LawZ i) (hL : LwOk M i) : CtP l yX1_closes cX1_closes 5 (some .boolean) (rK 2) D cy X ad ZB M [.ref (ad i), .int a, .int b] (fun v M1 => ∃ r : Int32, v = some (.int r) ∧ (r = 0 ∨ r = 1) ∧ M1 = M ∧ clR a (b - b / 365 * 365) (cB M i).2.2 r) := by
  refine Ctr.of (by decide +kernel) (Nat.le_of_ble_eq_true rfl) ?_
  intro K f q hnm hl0 hD0 hy0 hX0
  show V K ad 0 0 ZB M 0 [(0, .ref (ad i)), (1, .int a), (2, .int b)] []
  have loop : ∀ (n : Nat) (x : Int32), 0 ≤ x.toInt → x.toInt + (n : Nat) = 1000 → (∀ c : Nat, (c : Int) < x.toInt → ¬ clP a (b - b / 365 * 365) (clE M i c)) → V K ad 0 0 ZB M 9 [(4, .int x), (3, .int (b - b / 365 * 365)), (0, .ref (ad i)), (1, .int a), (2, .int b)] [] := by
    intro n
    induction n using Nat.strongRecOn with
    | ind n ih =>
      intro x x0 hx hp
      refine V_iload f dX1_closes_9 0 rfl ?_
      refine V_aload_n f dX1_closes_11 2 rfl ?_
      refine V_getE (x := M i 4) f dX1_closes_12 lf_1_24 rfl (zL hz) rfl ?_
      refine V_icmp_ge (tgt := 57) f dX1_closes_15 (by decide) (fun c1 => ?_) (fun c1 => ?_)
      · refine V_iconst (v := 0) f dX1_closes_57 (by decide) ?_
        exact V_iret f q dX1_closes_58 rfl (Nat.zero_le _) (Nat.zero_le _) ⟨rfl, rfl, 0, rfl, Or.inl rfl, rfl, Or.inr ⟨rfl, cl_all (fun c hc => hp c (by have g := c1; rw [Int32.le_iff_toInt_le] at g; omega))⟩⟩
      · refine V_iload_n f dX1_closes_18 3 rfl ?_
        refine V_aload_n f dX1_closes_19 2 rfl ?_
        refine V_getR f dX1_closes_20 lf_1_27 rfl (zL hz) rfl ?_
        refine V_iload f dX1_closes_23 0 rfl ?_
        refine V_ialdE (x := M (i + 1) (Int32.toNatClampNeg x)) f dX1_closes_25 (zLa_1 hz) (vin16 x0 c1 hL.1.2) rfl ?_
        refine V_aload_n f dX1_closes_26 2 rfl ?_
        refine V_getR f dX1_closes_27 lf_1_31 rfl (zL hz) rfl ?_
        refine V_iload f dX1_closes_30 0 rfl ?_
        refine V_ialdE (x := M (i + 2) (Int32.toNatClampNeg x)) f dX1_closes_32 (zLa_2 hz) (vin16 x0 c1 hL.1.2) rfl ?_
        refine V_cNi (As := [.int a, .int (M (i + 1) (Int32.toNatClampNeg x)), .int (M (i + 2) (Int32.toNatClampNeg x))]) (rest := []) f dX1_closes_33 lk_X1_58 nl_X1_58 sta_X8_within (c_X8_within (kl K) (kD K) (ky K) (kX K) ad M a (M (i + 1) (Int32.toNatClampNeg x)) (M (i + 2) (Int32.toNatClampNeg x))) rfl (Nat.le_of_ble_eq_true rfl) rfl ⟨by decide, by decide⟩ ⟨Nat.zero_le _, Nat.zero_le _⟩ rfl rfl ?_
        refine V_if_eq (tgt := 51) f dX1_closes_36 (by decide) (fun c2 => ?_) (fun c2 => ?_)
        · refine V_iinc (v := x + 1) f dX1_closes_51 0 rfl rfl (by decide) rfl ?_
          refine V_goto (tgt := 9) f dX1_closes_54 (by decide) ?_
          obtain ⟨k9, e9, y0, y1⟩ := lo_inc x0 hx c1 (by have := hL.1.2; omega)
          exact ih k9 (by omega) (x + 1) y0 y1 (nxt hp (fun g => (wi_i.mpr g.1) c2) x0 (by omega))
        · refine V_aload_n f dX1_closes_39 2 rfl ?_
          refine V_iload f dX1_closes_40 0 rfl ?_
          refine V_iload_n f dX1_closes_42 1 rfl ?_
          refine V_cVi (As := [.int x, .int (b - b / 365 * 365)]) (rest := []) f dX1_closes_43 lk_X1_62 ml_X1_62 ins_X1_runsOn sel_X1_runsOn (zL hz) (by decide) rfl (c_X1_runsOn (kl K) (kD K) (ky K) (kX K) ad M i x (b - b / 365 * 365) hz (vin16 x0 c1 hL.1.2)) rfl (Nat.le_of_ble_eq_true rfl) rfl ⟨by decide, by decide⟩ ⟨Nat.zero_le _, Nat.zero_le _⟩ rfl rfl ?_
          refine V_if_eq (tgt := 51) f dX1_closes_46 (by decide) (fun c3 => ?_) (fun c3 => ?_)
          · refine V_iinc (v := x + 1) f dX1_closes_51 0 rfl rfl (by decide) rfl ?_
            refine V_goto (tgt := 9) f dX1_closes_54 (by decide) ?_
            obtain ⟨k9, e9, y0, y1⟩ := lo_inc x0 hx c1 (by have := hL.1.2; omega)
            exact ih k9 (by omega) (x + 1) y0 y1 (nxt hp (fun g => (ru_i.mpr g.2) c3) x0 (by omega))
          · refine V_iconst (v := 1) f dX1_closes_49 (by decide) ?_
            exact V_iret f q dX1_closes_50 rfl (Nat.zero_le _) (Nat.zero_le _) ⟨rfl, rfl, 1, rfl, Or.inr rfl, rfl, Or.inl ⟨rfl, clE M i (Int32.toNatClampNeg x), cl_in (by have g := c1; rw [Int32.le_iff_toInt_le] at g; show x.toInt.toNat < _; omega), wi_i.mp c2, ru_i.mp c3⟩⟩
  refine V_iload_n f dX1_closes_0 2 rfl ?_
  refine V_sipush (v := 365) f dX1_closes_1 (by decide) ?_
  refine V_irem f dX1_closes_4 (by decide) ?_
  refine V_istore_n f dX1_closes_5 rfl (by decide) rfl ?_
  refine V_iconst (v := 0) f dX1_closes_6 (by decide) ?_
  refine V_istore f dX1_closes_7 (by decide) rfl ?_
  exact loop 1000 0 (by decide) (by decide) (fun c hc => by rw [show (0 : Int32).toInt = 0 by decide] at hc; omega)
set_option maxHeartbeats 4000000 in
set_option maxRecDepth 100000 in
theorem c4_X8_lawOn (l : Launch) (D : va_G) (cy : Nat → ClassId) (X : va_W) (ad : Nat → Nat) (M : MT) (a : Int32) (hI : InvB M) : CtP l yX8_lawOn cX8_lawOn 3 (some (.object "PeatBog$Law")) (rK 0) D cy X ad ZB M [.ref (ad 0), .int a] (fun v M1 => ∃ j : Nat, v = some (.ref (ad j)) ∧ LawZ j ∧ M1 = M ∧ LO M a j) := by
  refine Ctr.of (by decide +kernel) (Nat.le_of_ble_eq_true rfl) ?_
  intro K f q hnm hl0 hD0 hy0 hX0
  show V K ad 0 0 ZB M 0 [(0, .ref (ad 0)), (1, .int a)] []
  have loop : ∀ (n : Nat) (x : Int32), (x.toInt + 1 = (n : Int) ∧ n ≤ 8) → (∀ k, n ≤ k → k < Int32.toNatClampNeg (M 0 9) → a < M (54 + 10 * k) 1) → n ≤ Int32.toNatClampNeg (M 0 9) → V K ad 0 0 ZB M 7 [(2, .int x), (0, .ref (ad 0)), (1, .int a)] [] := by
    intro n
    induction n using Nat.strongRecOn with
    | ind n ih =>
      intro x hx hp hn
      refine V_iload_n f dX8_lawOn_7 0 rfl ?_
      refine V_if_lt (tgt := 37) f dX8_lawOn_8 (by decide) (fun c1 => ?_) (fun c1 => ?_)
      · refine V_aload_n f dX8_lawOn_37 1 rfl ?_
        refine V_getR f dX8_lawOn_38 lf_8_28 rfl zb_0 rfl ?_
        exact V_aret f q dX8_lawOn_41 (Nat.zero_le _) (Nat.zero_le _) ⟨rfl, rfl, 4, rfl, zNo, rfl, Or.inr ⟨rfl, fun k hk => hp k (by have g := c1; rw [Int32.lt_iff_toInt_lt, show (0 : Int32).toInt = 0 by decide] at g; omega) hk⟩⟩
      · refine V_aload_n f dX8_lawOn_11 1 rfl ?_
        refine V_getR f dX8_lawOn_12 lf_8_23 rfl zb_0 rfl ?_
        refine V_iload_n f dX8_lawOn_15 0 rfl ?_
        refine V_aald (t0 := 4) f dX8_lawOn_16 zb_3 (by decide) rfl (lv8 c1 hx) (eLaw (vlt (lv8 c1 hx))) ?_
        refine V_getE (x := M (54 + 10 * Int32.toNatClampNeg x) 1) f dX8_lawOn_17 lf_8_240 rfl (zL (zLw (vlt (lv8 c1 hx)))) rfl ?_
        refine V_iload_n f dX8_lawOn_20 2 rfl ?_
        refine V_icmp_gt (tgt := 31) f dX8_lawOn_21 (by decide) (fun c2 => ?_) (fun c2 => ?_)
        · refine V_iinc (v := x + (-1)) f dX8_lawOn_31 0 rfl rfl (by decide) rfl ?_
          refine V_goto (tgt := 7) f dX8_lawOn_34 (by decide) ?_
          obtain ⟨k9, e9, y1⟩ := lv8d c1 hx
          exact ih k9 (by omega) (x + (-1)) y1 (nxd (P := fun k => a < M (54 + 10 * k) 1) hp c2 hx.1 e9) (by omega)
        · refine V_aload_n f dX8_lawOn_24 1 rfl ?_
          refine V_getR f dX8_lawOn_25 lf_8_23 rfl zb_0 rfl ?_
          refine V_iload_n f dX8_lawOn_28 0 rfl ?_
          refine V_aald (t0 := 4) f dX8_lawOn_29 zb_3 (by decide) rfl (lv8 c1 hx) (eLaw (vlt (lv8 c1 hx))) ?_
          exact V_aret f q dX8_lawOn_30 (Nat.zero_le _) (Nat.zero_le _) ⟨rfl, rfl, (54 + 10 * Int32.toNatClampNeg x), rfl, zLw (vlt (lv8 c1 hx)), rfl, Or.inl ⟨Int32.toNatClampNeg x, by have g := c1; rw [Int32.lt_iff_toInt_lt, show (0 : Int32).toInt = 0 by decide] at g; show x.toInt.toNat < _; omega, rfl, c2, fun k h1 h2 => hp k (by have : x.toInt.toNat < k := h1; omega) h2⟩⟩
  refine V_aload_n f dX8_lawOn_0 0 rfl ?_
  refine V_getE (x := M 0 9) f dX8_lawOn_1 lf_8_66 rfl zb_0 rfl ?_
  refine V_iconst (v := 1) f dX8_lawOn_4 (by decide) ?_
  refine V_isub f dX8_lawOn_5 ?_
  refine V_istore_n f dX8_lawOn_6 rfl (by decide) rfl ?_
  exact loop _ _ (lv8s hI.2.1) (fun k h1 h2 => by have : k < (M 0 9).toInt.toNat := h2; omega) (by show _ ≤ (M 0 9).toInt.toNat; omega)
set_option maxHeartbeats 4000000 in
set_option maxRecDepth 100000 in
theorem c4_X8_tells (l : Launch) (D : va_G) (cy : Nat → ClassId) (X : va_W) (ad : Nat → Nat) (M : MT) (a : Int32) (e : Int32) (hI : InvB M) : CtP l yX8_tells cX8_tells 4 (some .int) (rK 3) D cy X ad ZB M [.ref (ad 0), .int a, .int e] (fun v M1 => ∃ r : Int32, v = some (.int r) ∧ TBr M a e r ∧ M1 = M) := by
  refine Ctr.of (by decide +kernel) (Nat.le_of_ble_eq_true rfl) ?_
  intro K f q hnm hl0 hD0 hy0 hX0
  show V K ad 0 0 ZB M 0 [(0, .ref (ad 0)), (1, .int a), (2, .int e)] []
  refine V_iload_n f dX8_tells_0 1 rfl ?_
  refine V_iconst (v := 0) f dX8_tells_1 (by decide) ?_
  refine V_sipush (v := 1000) f dX8_tells_2 (by decide) ?_
  refine V_cSi (As := [.int a, .int 0, .int 1000]) (rest := []) f dX8_tells_5 lk_X8_90 ml_X8_90 sta_X8_within (c_X8_within (kl K) (kD K) (ky K) (kX K) ad M a 0 1000) rfl (Nat.le_of_ble_eq_true rfl) rfl ⟨by decide, by decide⟩ ⟨Nat.zero_le _, Nat.zero_le _⟩ rfl rfl ?_
  refine V_if_ne (tgt := 13) f dX8_tells_8 (by decide) (fun c1 => ?_) (fun c1 => ?_)
  · refine V_aload_n f dX8_tells_13 0 rfl ?_
    refine V_iload_n f dX8_tells_14 1 rfl ?_
    refine V_cVp (As := [.int a]) (rest := []) f dX8_tells_15 lk_X8_101 ml_X8_101 ins_X8_lawOn sel_X8_lawOn zb_0 (by decide) rfl (c4_X8_lawOn _ _ _ _ ad M a hI) rfl (Nat.le_of_ble_eq_true rfl) rfl ⟨by decide, by decide⟩ ⟨Nat.zero_le _, Nat.zero_le _⟩ rfl rfl (fun v2 Mx2 hp2 => ?_)
    obtain ⟨j2, rfl, hj2, e2, ho2⟩ := hp2
    rw [e2]
    show V K ad 0 0 ZB M 18 [(0, .ref (ad 0)), (1, .int a), (2, .int e)] [.ref (ad j2)]
    refine V_astore_n f dX8_tells_18 rfl (by decide) rfl ?_
    refine V_iload_n f dX8_tells_19 3 rfl ?_
    refine V_bipush (v := 10) f dX8_tells_20 (by decide) ?_
    refine V_bipush (v := 25) f dX8_tells_22 (by decide) ?_
    refine V_cSi (As := [.int e, .int 10, .int 25]) (rest := []) f dX8_tells_24 lk_X8_90 ml_X8_90 sta_X8_within (c_X8_within (kl K) (kD K) (ky K) (kX K) ad M e 10 25) rfl (Nat.le_of_ble_eq_true rfl) rfl ⟨by decide, by decide⟩ ⟨Nat.zero_le _, Nat.zero_le _⟩ rfl rfl ?_
    refine V_if_eq (tgt := 48) f dX8_tells_27 (by decide) (fun c3 => ?_) (fun c3 => ?_)
    · refine V_iload_n f dX8_tells_48 3 rfl ?_
      rcases Decidable.em (e = 0) with c4 | c4
      · refine V_tableIn (off := 27) (tgt := 76) f dX8_tells_49 (by rw [c4]; decide) (by rw [c4]; decide) (by rw [c4]; decide) (by decide) ?_
        refine V_aload_n f dX8_tells_76 0 rfl ?_
        refine V_getE (x := M j2 2) f dX8_tells_77 lf_8_140 rfl (zL hj2) rfl ?_
        exact V_iret f q dX8_tells_80 rfl (Nat.zero_le _) (Nat.zero_le _) ⟨rfl, rfl, (M j2 2), rfl, Or.inr ⟨c1, j2, ho2, Or.inr ⟨c3, Or.inl ⟨c4, rfl⟩⟩⟩, rfl⟩
      rcases Decidable.em (e = 1) with c5 | c5
      · refine V_tableIn (off := 32) (tgt := 81) f dX8_tells_49 (by rw [c5]; decide) (by rw [c5]; decide) (by rw [c5]; decide) (by decide) ?_
        refine V_aload_n f dX8_tells_81 0 rfl ?_
        refine V_getE (x := M j2 3) f dX8_tells_82 lf_8_109 rfl (zL hj2) rfl ?_
        exact V_iret f q dX8_tells_85 rfl (Nat.zero_le _) (Nat.zero_le _) ⟨rfl, rfl, (M j2 3), rfl, Or.inr ⟨c1, j2, ho2, Or.inr ⟨c3, Or.inr (Or.inl ⟨c5, rfl⟩)⟩⟩, rfl⟩
      rcases Decidable.em (e = 2) with c6 | c6
      · refine V_tableIn (off := 37) (tgt := 86) f dX8_tells_49 (by rw [c6]; decide) (by rw [c6]; decide) (by rw [c6]; decide) (by decide) ?_
        refine V_aload_n f dX8_tells_86 0 rfl ?_
        refine V_getE (x := M j2 0) f dX8_tells_87 lf_8_202 rfl (zL hj2) rfl ?_
        exact V_iret f q dX8_tells_90 rfl (Nat.zero_le _) (Nat.zero_le _) ⟨rfl, rfl, (M j2 0), rfl, Or.inr ⟨c1, j2, ho2, Or.inr ⟨c3, Or.inr (Or.inr (Or.inl ⟨c6, rfl⟩))⟩⟩, rfl⟩
      refine V_tableOut (tgt := 91) f dX8_tells_49 (sw_out 0 2 3 [0, 1, 2] (by decide) (by decide) (List.forall_mem_cons.mpr ⟨c4, (List.forall_mem_cons.mpr ⟨c5, (List.forall_mem_cons.mpr ⟨c6, (fun _ h => absurd h List.not_mem_nil)⟩)⟩)⟩)) (by decide) ?_
      refine V_iconst (v := (-1)) f dX8_tells_91 (by decide) ?_
      exact V_iret f q dX8_tells_92 rfl (Nat.zero_le _) (Nat.zero_le _) ⟨rfl, rfl, (-1), rfl, Or.inr ⟨c1, j2, ho2, Or.inr ⟨c3, Or.inr (Or.inr (Or.inr ⟨c4, c5, c6, rfl⟩))⟩⟩, rfl⟩
    · refine V_aload_n f dX8_tells_30 0 rfl ?_
      refine V_iload_n f dX8_tells_31 3 rfl ?_
      refine V_bipush (v := 10) f dX8_tells_32 (by decide) ?_
      refine V_isub f dX8_tells_34 ?_
      refine V_iload_n f dX8_tells_35 2 rfl ?_
      refine V_cVp (As := [.int (e - 10), .int a]) (rest := []) f dX8_tells_36 lk_X8_105 ml_X8_105 ins_X1_closes sel_X1_closes (zL hj2) (by decide) rfl (c4_X1_closes _ _ _ _ ad M j2 (e - 10) a hj2 (hI.2.2.2.2 _ hj2)) rfl (Nat.le_of_ble_eq_true rfl) rfl ⟨by decide, by decide⟩ ⟨Nat.zero_le _, Nat.zero_le _⟩ rfl rfl (fun v7 Mx7 hp7 => ?_)
      obtain ⟨r7, rfl, hr7, e7, hc7⟩ := hp7
      rw [e7]
      show V K ad 0 0 ZB M 39 [(3, .ref (ad j2)), (0, .ref (ad 0)), (1, .int a), (2, .int e)] [.int r7]
      refine V_if_eq (tgt := 46) f dX8_tells_39 (by decide) (fun c8 => ?_) (fun c8 => ?_)
      · refine V_iconst (v := 0) f dX8_tells_46 (by decide) ?_
        exact V_iret f q dX8_tells_47 rfl (Nat.zero_le _) (Nat.zero_le _) ⟨rfl, rfl, 0, rfl, Or.inr ⟨c1, j2, ho2, Or.inl ⟨c3, (by rw [c8] at hc7; exact hc7)⟩⟩, rfl⟩
      · refine V_iconst (v := 1) f dX8_tells_42 (by decide) ?_
        refine V_goto (tgt := 47) f dX8_tells_43 (by decide) ?_
        exact V_iret f q dX8_tells_47 rfl (Nat.zero_le _) (Nat.zero_le _) ⟨rfl, rfl, 1, rfl, Or.inr ⟨c1, j2, ho2, Or.inl ⟨c3, (by have q := hr7.resolve_left c8; rw [q] at hc7; exact hc7)⟩⟩, rfl⟩
  · refine V_iconst (v := (-1)) f dX8_tells_11 (by decide) ?_
    exact V_iret f q dX8_tells_12 rfl (Nat.zero_le _) (Nat.zero_le _) ⟨rfl, rfl, (-1), rfl, Or.inl ⟨c1, rfl⟩, rfl⟩
set_option maxHeartbeats 4000000 in
set_option maxRecDepth 100000 in
theorem c4_X9_inForce (l : Launch) (D : va_G) (cy : Nat → ClassId) (X : va_W) (ad : Nat → Nat) (M : MT) (a : Int32) (hS : InvS M) : CtP l yX9_inForce cX9_inForce 4 (some .int) (rK 0) D cy X ad ZM M [.ref (ad 0), .int a] (fun v M1 => ∃ r : Int32, v = some (.int r) ∧ M1 = M ∧ IFo M a r) := by
  refine Ctr.of (by decide +kernel) (Nat.le_of_ble_eq_true rfl) ?_
  intro K f q hnm hl0 hD0 hy0 hX0
  show V K ad 0 0 ZM M 0 [(0, .ref (ad 0)), (1, .int a)] []
  have r31 := hS.2.1
  have e31 : Int32.toNatClampNeg (M 0 31) = (M 0 31).toInt.toNat := rfl
  have loop : ∀ (n k : Nat) (x t : Int32), x.toInt = (k : Int) → k + n = Int32.toNatClampNeg (M 0 31) → IFx M a k t → V K ad 0 0 ZM M 4 [(3, .int x), (2, .int t), (0, .ref (ad 0)), (1, .int a)] [] := by
    intro n
    induction n with
    | zero =>
      intro k x t hx hn hp
      obtain rfl : k = Int32.toNatClampNeg (M 0 31) := by omega
      refine V_iload_n f dX9_inForce_4 0 rfl ?_
      refine V_aload_n f dX9_inForce_5 2 rfl ?_
      refine V_getE (x := M 0 31) f dX9_inForce_6 lf_9_188 rfl zm_0 rfl ?_
      refine V_icmp_ge (tgt := 30) f dX9_inForce_9 (by decide) (fun _ => ?_) (fun h => absurd (by rw [Int32.le_iff_toInt_le]; omega) h)
      refine V_iload_n f dX9_inForce_30 1 rfl ?_
      exact V_iret f q dX9_inForce_31 rfl (Nat.zero_le _) (Nat.zero_le _) ⟨rfl, rfl, t, rfl, rfl, hp⟩
    | succ n ih =>
      intro k x t hx hn hp
      have hx1 : (x + 1).toInt = ((k + 1 : Nat) : Int) := by have e1 : (1 : Int32).toInt = 1 := (by decide); have := i32_add (x := x) (by omega) (by omega) (k := 1) (by decide) (by decide); omega
      refine V_iload_n f dX9_inForce_4 0 rfl ?_
      refine V_aload_n f dX9_inForce_5 2 rfl ?_
      refine V_getE (x := M 0 31) f dX9_inForce_6 lf_9_188 rfl zm_0 rfl ?_
      refine V_icmp_ge (tgt := 30) f dX9_inForce_9 (by decide) (fun h => absurd h (by rw [Int32.le_iff_toInt_le]; omega)) (fun _ => ?_)
      refine V_aload_n f dX9_inForce_12 2 rfl ?_
      refine V_getR f dX9_inForce_13 lf_9_70 rfl zm_0 rfl ?_
      refine V_iload_n f dX9_inForce_16 0 rfl ?_
      refine V_ialdE (x := M 19 (Int32.toNatClampNeg x)) f dX9_inForce_17 zm_19 (by rw [vp_in_iff]; have := hS.2.1; omega) rfl ?_
      refine V_iload_n f dX9_inForce_18 3 rfl ?_
      refine V_icmp_gt (tgt := 24) f dX9_inForce_19 (by decide) (fun c1 => ?_) (fun c1 => ?_)
      · refine V_iinc (v := x + 1) f dX9_inForce_24 0 rfl rfl (by decide) rfl ?_
        refine V_goto (tgt := 4) f dX9_inForce_27 (by decide) ?_
        exact ih (k + 1) (x + 1) t hx1 (by omega) (IFx_n hp (by have g := c1; rw [nat_eq hx] at g; exact g))
      · refine V_iload_n f dX9_inForce_22 0 rfl ?_
        refine V_istore_n f dX9_inForce_23 rfl (by decide) rfl ?_
        refine V_iinc (v := x + 1) f dX9_inForce_24 1 rfl rfl (by decide) rfl ?_
        refine V_goto (tgt := 4) f dX9_inForce_27 (by decide) ?_
        exact ih (k + 1) (x + 1) x hx1 (by omega) (by have g := c1; rw [nat_eq hx] at g; rw [ofN_eq hx (by omega)]; exact IFx_y g)
  refine V_iconst (v := (-1)) f dX9_inForce_0 (by decide) ?_
  refine V_istore_n f dX9_inForce_1 rfl (by decide) rfl ?_
  refine V_iconst (v := 0) f dX9_inForce_2 (by decide) ?_
  refine V_istore_n f dX9_inForce_3 rfl (by decide) rfl ?_
  exact loop (Int32.toNatClampNeg (M 0 31)) 0 0 (-1) (by decide) (by omega) (Or.inr ⟨rfl, fun k hk => absurd hk (Nat.not_lt_zero k)⟩)
set_option maxHeartbeats 4000000 in
set_option maxRecDepth 100000 in
theorem c4_X9_lastOf (l : Launch) (D : va_G) (cy : Nat → ClassId) (X : va_W) (ad : Nat → Nat) (M : MT) (a : Int32) (b : Int32) (e : Int32) (hS : InvS M) (hbe : (b = 0 ∧ e = 550) ∨ (b = 1 ∧ e = 0)) : CtP l yX9_lastOf cX9_lastOf 7 (some .int) (rK 1) D cy X ad ZM M [.ref (ad 0), .int a, .int b, .int e] (fun v M1 => ∃ r : Int32, v = some (.int r) ∧ M1 = M ∧ ∃ f, IFo M a f ∧ r = fldM b (cMX M f)) := by
  refine Ctr.of (by decide +kernel) (Nat.le_of_ble_eq_true rfl) ?_
  intro K f q hnm hl0 hD0 hy0 hX0
  show V K ad 0 0 ZM M 0 [(0, .ref (ad 0)), (1, .int a), (2, .int b), (3, .int e)] []
  have r18 := hS.2.2.2.1
  have loop : ∀ (r : Int32), IFo M a r → (0 ≤ r.toInt ∧ r.toInt ≤ 7) → ∀ (n k : Nat) (x t : Int32), x.toInt = 16 * ((Int32.toNatClampNeg r : Nat) : Int) + (k : Int) → k + n = (M 18 (Int32.toNatClampNeg r)).toInt.toNat → t = fldM b (cMF M (Int32.toNatClampNeg r) k) → V K ad 0 0 ZM M 17 [(6, .int x), (5, .int t), (4, .int r), (0, .ref (ad 0)), (1, .int a), (2, .int b), (3, .int e)] [] := by
    intro r hf hr n
    have h18 := r18 (Int32.toNatClampNeg r) (vlt (sl4 hr).1)
    have hl9 : Int32.toNatClampNeg r = r.toInt.toNat := rfl
    have hsl := sl1 hr
    have hsum : ((16 * r) + (M 18 (Int32.toNatClampNeg r))).toInt = 16 * r.toInt + (M 18 (Int32.toNatClampNeg r)).toInt := by rw [Int32.toInt_add, hsl, Int.bmod_eq_of_le (by omega) (by omega)]
    induction n with
    | zero =>
      intro k x t hx hn hp
      refine V_iload f dX9_lastOf_17 2 rfl ?_
      refine V_iconst (v := (-1)) f dX9_lastOf_19 (by decide) ?_
      refine V_icmp_eq (tgt := 67) f dX9_lastOf_20 (by decide) (fun h => absurd h (sl4 hr).2) (fun _ => ?_)
      refine V_iload f dX9_lastOf_23 0 rfl ?_
      refine V_bipush (v := 16) f dX9_lastOf_25 (by decide) ?_
      refine V_iload f dX9_lastOf_27 2 rfl ?_
      refine V_imul f dX9_lastOf_29 ?_
      refine V_aload_n f dX9_lastOf_30 3 rfl ?_
      refine V_getR f dX9_lastOf_31 lf_9_67 rfl zm_0 rfl ?_
      refine V_iload f dX9_lastOf_34 2 rfl ?_
      refine V_ialdE (x := M 18 (Int32.toNatClampNeg r)) f dX9_lastOf_36 zm_18 (sl4 hr).1 rfl ?_
      refine V_iadd f dX9_lastOf_37 ?_
      refine V_icmp_ge (tgt := 67) f dX9_lastOf_38 (by decide) (fun _ => ?_) (fun h => absurd (by rw [Int32.le_iff_toInt_le]; omega) h)
      refine V_iload f dX9_lastOf_67 1 rfl ?_
      exact V_iret f q dX9_lastOf_69 rfl (Nat.zero_le _) (Nat.zero_le _) ⟨rfl, rfl, t, rfl, rfl, r, hf, by unfold cMX; rw [if_neg (sl4 hr).2, show (M 18 (Int32.toNatClampNeg r)).toInt.toNat = k by omega]; exact hp⟩
    | succ n ih =>
      intro k x t hx hn hp
      have hx144 : vp_in x 144 := by rw [vp_in_iff]; omega
      have hxk : Int32.toNatClampNeg x = 16 * Int32.toNatClampNeg r + k := by show x.toInt.toNat = _; omega
      have hx1 : (x + 1).toInt = 16 * ((Int32.toNatClampNeg r : Nat) : Int) + ((k + 1 : Nat) : Int) := by have e1 : (1 : Int32).toInt = 1 := (by decide); have := i32_add (x := x) (by omega) (by omega) (k := 1) (by decide) (by decide); omega
      refine V_iload f dX9_lastOf_17 2 rfl ?_
      refine V_iconst (v := (-1)) f dX9_lastOf_19 (by decide) ?_
      refine V_icmp_eq (tgt := 67) f dX9_lastOf_20 (by decide) (fun h => absurd h (sl4 hr).2) (fun _ => ?_)
      refine V_iload f dX9_lastOf_23 0 rfl ?_
      refine V_bipush (v := 16) f dX9_lastOf_25 (by decide) ?_
      refine V_iload f dX9_lastOf_27 2 rfl ?_
      refine V_imul f dX9_lastOf_29 ?_
      refine V_aload_n f dX9_lastOf_30 3 rfl ?_
      refine V_getR f dX9_lastOf_31 lf_9_67 rfl zm_0 rfl ?_
      refine V_iload f dX9_lastOf_34 2 rfl ?_
      refine V_ialdE (x := M 18 (Int32.toNatClampNeg r)) f dX9_lastOf_36 zm_18 (sl4 hr).1 rfl ?_
      refine V_iadd f dX9_lastOf_37 ?_
      refine V_icmp_ge (tgt := 67) f dX9_lastOf_38 (by decide) (fun h => absurd h (by rw [Int32.le_iff_toInt_le]; omega)) (fun _ => ?_)
      refine V_aload_n f dX9_lastOf_41 3 rfl ?_
      refine V_getR f dX9_lastOf_42 lf_9_73 rfl zm_0 rfl ?_
      refine V_iload f dX9_lastOf_45 0 rfl ?_
      refine V_ialdE (x := M 20 (Int32.toNatClampNeg x)) f dX9_lastOf_47 zm_20 hx144 rfl ?_
      refine V_iload_n f dX9_lastOf_48 5 rfl ?_
      refine V_icmp_ne (tgt := 61) f dX9_lastOf_49 (by decide) (fun c2 => ?_) (fun c2 => ?_)
      · refine V_iinc (v := x + 1) f dX9_lastOf_61 0 rfl rfl (by decide) rfl ?_
        refine V_goto (tgt := 17) f dX9_lastOf_64 (by decide) ?_
        exact ih (k + 1) (x + 1) t hx1 (by omega) (by rw [hp]; exact ((fld_s (hbe.imp (fun q => q.1) (fun q => q.1))).2 (by have g := c2; rw [hxk] at g; exact g)).symm)
      · refine V_aload_n f dX9_lastOf_52 3 rfl ?_
        refine V_getR f dX9_lastOf_53 lf_9_76 rfl zm_0 rfl ?_
        refine V_iload f dX9_lastOf_56 0 rfl ?_
        refine V_ialdE (x := M 21 (Int32.toNatClampNeg x)) f dX9_lastOf_58 zm_21 hx144 rfl ?_
        refine V_istore f dX9_lastOf_59 (by decide) rfl ?_
        refine V_iinc (v := x + 1) f dX9_lastOf_61 1 rfl rfl (by decide) rfl ?_
        refine V_goto (tgt := 17) f dX9_lastOf_64 (by decide) ?_
        exact ih (k + 1) (x + 1) (M 21 (Int32.toNatClampNeg x)) hx1 (by omega) (by rw [hxk]; exact ((fld_s (hbe.imp (fun q => q.1) (fun q => q.1))).1 (by have g := c2; rw [hxk] at g; exact g)).symm)
  refine V_aload_n f dX9_lastOf_0 0 rfl ?_
  refine V_iload_n f dX9_lastOf_1 1 rfl ?_
  refine V_cVp (As := [.int a]) (rest := []) f dX9_lastOf_2 lk_X9_197 ml_X9_197 ins_X9_inForce sel_X9_inForce zm_0 (by decide) rfl (c4_X9_inForce _ _ _ _ ad M a hS) rfl (Nat.le_of_ble_eq_true rfl) rfl ⟨by decide, by decide⟩ ⟨Nat.zero_le _, Nat.zero_le _⟩ rfl rfl (fun v1 Mx1 hp1 => ?_)
  obtain ⟨r1, rfl, e1, hf1⟩ := hp1
  rw [e1]
  show V K ad 0 0 ZM M 5 [(0, .ref (ad 0)), (1, .int a), (2, .int b), (3, .int e)] [.int r1]
  refine V_istore f dX9_lastOf_5 (by decide) rfl ?_
  refine V_iload_n f dX9_lastOf_7 4 rfl ?_
  refine V_istore f dX9_lastOf_8 (by decide) rfl ?_
  refine V_bipush (v := 16) f dX9_lastOf_10 (by decide) ?_
  refine V_iload f dX9_lastOf_12 1 rfl ?_
  refine V_imul f dX9_lastOf_14 ?_
  refine V_istore f dX9_lastOf_15 (by decide) rfl ?_
  rcases IFo_r hS hf1 with er | er
  · refine V_iload f dX9_lastOf_17 2 rfl ?_
    refine V_iconst (v := (-1)) f dX9_lastOf_19 (by decide) ?_
    refine V_icmp_eq (tgt := 67) f dX9_lastOf_20 (by decide) (fun _ => ?_) (fun h => absurd er h)
    refine V_iload f dX9_lastOf_67 1 rfl ?_
    exact V_iret f q dX9_lastOf_69 rfl (Nat.zero_le _) (Nat.zero_le _) ⟨rfl, rfl, e, rfl, rfl, r1, hf1, by unfold cMX; rw [if_pos er]; exact fld_e hbe⟩
  · exact loop r1 hf1 er (M 18 (Int32.toNatClampNeg r1)).toInt.toNat 0 (16 * r1) e (by have := sl1 er; show (16 * r1).toInt = 16 * (r1.toInt.toNat : Int) + _; omega) (by omega) (fld_e hbe)
set_option maxHeartbeats 4000000 in
set_option maxRecDepth 100000 in
theorem c4_X9_isClosed (l : Launch) (D : va_G) (cy : Nat → ClassId) (X : va_W) (ad : Nat → Nat) (M : MT) (a : Int32) (b : Int32) (hS : InvS M) : CtP l yX9_isClosed cX9_isClosed 7 (some .boolean) (rK 1) D cy X ad ZM M [.ref (ad 0), .int a, .int b] (fun v M1 => ∃ r : Int32, v = some (.int r) ∧ (r = 0 ∨ r = 1) ∧ M1 = M ∧ ∃ f, IFo M a f ∧ clR b (a - a / 365 * 365) (cMX M f).2.2 r) := by
  refine Ctr.of (by decide +kernel) (Nat.le_of_ble_eq_true rfl) ?_
  intro K f q hnm hl0 hD0 hy0 hX0
  show V K ad 0 0 ZM M 0 [(0, .ref (ad 0)), (1, .int a), (2, .int b)] []
  have r18 := hS.2.2.2.1
  have loop : ∀ (r : Int32), IFo M a r → (0 ≤ r.toInt ∧ r.toInt ≤ 7) → ∀ (n k : Nat) (x t : Int32), x.toInt = 16 * ((Int32.toNatClampNeg r : Nat) : Int) + (k : Int) → k + n = (M 18 (Int32.toNatClampNeg r)).toInt.toNat → ((t = 0 ∨ t = 1) ∧ clR b (a - a / 365 * 365) (cMF M (Int32.toNatClampNeg r) k).2.2 t) → V K ad 0 0 ZM M 22 [(6, .int x), (5, .int t), (4, .int (a - a / 365 * 365)), (3, .int r), (0, .ref (ad 0)), (1, .int a), (2, .int b)] [] := by
    intro r hf hr n
    have h18 := r18 (Int32.toNatClampNeg r) (vlt (sl4 hr).1)
    have hl9 : Int32.toNatClampNeg r = r.toInt.toNat := rfl
    have hsl := sl1 hr
    have hsum : ((16 * r) + (M 18 (Int32.toNatClampNeg r))).toInt = 16 * r.toInt + (M 18 (Int32.toNatClampNeg r)).toInt := by rw [Int32.toInt_add, hsl, Int.bmod_eq_of_le (by omega) (by omega)]
    induction n with
    | zero =>
      intro k x t hx hn hp
      refine V_iload_n f dX9_isClosed_22 3 rfl ?_
      refine V_iconst (v := (-1)) f dX9_isClosed_23 (by decide) ?_
      refine V_icmp_eq (tgt := 162) f dX9_isClosed_24 (by decide) (fun h => absurd h (sl4 hr).2) (fun _ => ?_)
      refine V_iload f dX9_isClosed_27 0 rfl ?_
      refine V_bipush (v := 16) f dX9_isClosed_29 (by decide) ?_
      refine V_iload_n f dX9_isClosed_31 3 rfl ?_
      refine V_imul f dX9_isClosed_32 ?_
      refine V_aload_n f dX9_isClosed_33 4 rfl ?_
      refine V_getR f dX9_isClosed_34 lf_9_67 rfl zm_0 rfl ?_
      refine V_iload_n f dX9_isClosed_37 3 rfl ?_
      refine V_ialdE (x := M 18 (Int32.toNatClampNeg r)) f dX9_isClosed_38 zm_18 (sl4 hr).1 rfl ?_
      refine V_iadd f dX9_isClosed_39 ?_
      refine V_icmp_ge (tgt := 162) f dX9_isClosed_40 (by decide) (fun _ => ?_) (fun h => absurd (by rw [Int32.le_iff_toInt_le]; omega) h)
      refine V_iload f dX9_isClosed_162 1 rfl ?_
      exact V_iret f q dX9_isClosed_164 (nbz hp.1) (Nat.zero_le _) (Nat.zero_le _) ⟨rfl, rfl, t, rfl, hp.1, rfl, r, hf, by unfold cMX; rw [if_neg (sl4 hr).2, show (M 18 (Int32.toNatClampNeg r)).toInt.toNat = k by omega]; exact hp.2⟩
    | succ n ih =>
      intro k x t hx hn hp
      have hx144 : vp_in x 144 := by rw [vp_in_iff]; omega
      have hxk : Int32.toNatClampNeg x = 16 * Int32.toNatClampNeg r + k := by show x.toInt.toNat = _; omega
      have hx1 : (x + 1).toInt = 16 * ((Int32.toNatClampNeg r : Nat) : Int) + ((k + 1 : Nat) : Int) := by have e1 : (1 : Int32).toInt = 1 := (by decide); have := i32_add (x := x) (by omega) (by omega) (k := 1) (by decide) (by decide); omega
      refine V_iload_n f dX9_isClosed_22 3 rfl ?_
      refine V_iconst (v := (-1)) f dX9_isClosed_23 (by decide) ?_
      refine V_icmp_eq (tgt := 162) f dX9_isClosed_24 (by decide) (fun h => absurd h (sl4 hr).2) (fun _ => ?_)
      refine V_iload f dX9_isClosed_27 0 rfl ?_
      refine V_bipush (v := 16) f dX9_isClosed_29 (by decide) ?_
      refine V_iload_n f dX9_isClosed_31 3 rfl ?_
      refine V_imul f dX9_isClosed_32 ?_
      refine V_aload_n f dX9_isClosed_33 4 rfl ?_
      refine V_getR f dX9_isClosed_34 lf_9_67 rfl zm_0 rfl ?_
      refine V_iload_n f dX9_isClosed_37 3 rfl ?_
      refine V_ialdE (x := M 18 (Int32.toNatClampNeg r)) f dX9_isClosed_38 zm_18 (sl4 hr).1 rfl ?_
      refine V_iadd f dX9_isClosed_39 ?_
      refine V_icmp_ge (tgt := 162) f dX9_isClosed_40 (by decide) (fun h => absurd h (by rw [Int32.le_iff_toInt_le]; omega)) (fun _ => ?_)
      refine V_aload_n f dX9_isClosed_43 4 rfl ?_
      refine V_getR f dX9_isClosed_44 lf_9_73 rfl zm_0 rfl ?_
      refine V_iload f dX9_isClosed_47 0 rfl ?_
      refine V_ialdE (x := M 20 (Int32.toNatClampNeg x)) f dX9_isClosed_49 zm_20 hx144 rfl ?_
      refine V_iconst (v := 2) f dX9_isClosed_50 (by decide) ?_
      refine V_icmp_ne (tgt := 156) f dX9_isClosed_51 (by decide) (fun c2 => ?_) (fun c2 => ?_)
      · refine V_iinc (v := x + 1) f dX9_isClosed_156 0 rfl rfl (by decide) rfl ?_
        refine V_goto (tgt := 22) f dX9_isClosed_159 (by decide) ?_
        exact ih (k + 1) (x + 1) t hx1 (by omega) (by exact ⟨hp.1, clR_n hp.2 (Or.inl (by have g := c2; rw [hxk] at g; exact g))⟩)
      · refine V_iload_n f dX9_isClosed_54 6 rfl ?_
        refine V_aload_n f dX9_isClosed_55 4 rfl ?_
        refine V_getR f dX9_isClosed_56 lf_9_76 rfl zm_0 rfl ?_
        refine V_iload f dX9_isClosed_59 0 rfl ?_
        refine V_ialdE (x := M 21 (Int32.toNatClampNeg x)) f dX9_isClosed_61 zm_21 hx144 rfl ?_
        refine V_aload_n f dX9_isClosed_62 4 rfl ?_
        refine V_getR f dX9_isClosed_63 lf_9_79 rfl zm_0 rfl ?_
        refine V_iload f dX9_isClosed_66 0 rfl ?_
        refine V_ialdE (x := M 22 (Int32.toNatClampNeg x)) f dX9_isClosed_68 zm_22 hx144 rfl ?_
        refine V_cSi (As := [.int b, .int (M 21 (Int32.toNatClampNeg x)), .int (M 22 (Int32.toNatClampNeg x))]) (rest := []) f dX9_isClosed_69 lk_X9_109 ml_X9_109 sta_X9_isIn (c_X9_isIn (kl K) (kD K) (ky K) (kX K) ad M b (M 21 (Int32.toNatClampNeg x)) (M 22 (Int32.toNatClampNeg x))) rfl (Nat.le_of_ble_eq_true rfl) rfl ⟨by decide, by decide⟩ ⟨Nat.zero_le _, Nat.zero_le _⟩ rfl rfl ?_
        refine V_if_ne (tgt := 78) f dX9_isClosed_72 (by decide) (fun c3 => ?_) (fun c3 => ?_)
        · refine V_iload f dX9_isClosed_78 1 rfl ?_
          refine V_if_ne (tgt := 149) f dX9_isClosed_80 (by decide) (fun c4 => ?_) (fun c4 => ?_)
          · refine V_iconst (v := 1) f dX9_isClosed_149 (by decide) ?_
            refine V_goto (tgt := 154) f dX9_isClosed_150 (by decide) ?_
            refine V_istore f dX9_isClosed_154 (by decide) rfl ?_
            refine V_iinc (v := x + 1) f dX9_isClosed_156 1 rfl rfl (by decide) rfl ?_
            refine V_goto (tgt := 22) f dX9_isClosed_159 (by decide) ?_
            exact ih (k + 1) (x + 1) 1 hx1 (by omega) (by exact ⟨Or.inr rfl, clR_t hp.2 c4⟩)
          · refine V_aload_n f dX9_isClosed_83 4 rfl ?_
            refine V_getR f dX9_isClosed_84 lf_9_82 rfl zm_0 rfl ?_
            refine V_iload f dX9_isClosed_87 0 rfl ?_
            refine V_ialdE (x := M 23 (Int32.toNatClampNeg x)) f dX9_isClosed_89 zm_23 hx144 rfl ?_
            refine V_aload_n f dX9_isClosed_90 4 rfl ?_
            refine V_getR f dX9_isClosed_91 lf_9_85 rfl zm_0 rfl ?_
            refine V_iload f dX9_isClosed_94 0 rfl ?_
            refine V_ialdE (x := M 24 (Int32.toNatClampNeg x)) f dX9_isClosed_96 zm_24 hx144 rfl ?_
            refine V_icmp_gt (tgt := 125) f dX9_isClosed_97 (by decide) (fun c5 => ?_) (fun c5 => ?_)
            · refine V_iload f dX9_isClosed_125 2 rfl ?_
              refine V_aload_n f dX9_isClosed_127 4 rfl ?_
              refine V_getR f dX9_isClosed_128 lf_9_82 rfl zm_0 rfl ?_
              refine V_iload f dX9_isClosed_131 0 rfl ?_
              refine V_ialdE (x := M 23 (Int32.toNatClampNeg x)) f dX9_isClosed_133 zm_23 hx144 rfl ?_
              refine V_icmp_ge (tgt := 149) f dX9_isClosed_134 (by decide) (fun c6 => ?_) (fun c6 => ?_)
              · refine V_iconst (v := 1) f dX9_isClosed_149 (by decide) ?_
                refine V_goto (tgt := 154) f dX9_isClosed_150 (by decide) ?_
                refine V_istore f dX9_isClosed_154 (by decide) rfl ?_
                refine V_iinc (v := x + 1) f dX9_isClosed_156 1 rfl rfl (by decide) rfl ?_
                refine V_goto (tgt := 22) f dX9_isClosed_159 (by decide) ?_
                exact ih (k + 1) (x + 1) 1 hx1 (by omega) (by exact ⟨Or.inr rfl, clR_y (by have g := c2; rw [hxk] at g; exact g) (by rw [← hxk]; exact ⟨wi9.mp c3, Or.inr ⟨Int32.not_le.mpr c5, Or.inl c6⟩⟩)⟩)
              · refine V_iload f dX9_isClosed_137 2 rfl ?_
                refine V_aload_n f dX9_isClosed_139 4 rfl ?_
                refine V_getR f dX9_isClosed_140 lf_9_85 rfl zm_0 rfl ?_
                refine V_iload f dX9_isClosed_143 0 rfl ?_
                refine V_ialdE (x := M 24 (Int32.toNatClampNeg x)) f dX9_isClosed_145 zm_24 hx144 rfl ?_
                refine V_icmp_gt (tgt := 153) f dX9_isClosed_146 (by decide) (fun c7 => ?_) (fun c7 => ?_)
                · refine V_iconst (v := 0) f dX9_isClosed_153 (by decide) ?_
                  refine V_istore f dX9_isClosed_154 (by decide) rfl ?_
                  refine V_iinc (v := x + 1) f dX9_isClosed_156 1 rfl rfl (by decide) rfl ?_
                  refine V_goto (tgt := 22) f dX9_isClosed_159 (by decide) ?_
                  exact ih (k + 1) (x + 1) 0 hx1 (by omega) (by have q9 := hp.2; rw [c4] at q9; exact ⟨Or.inl rfl, clR_n q9 (Or.inr (by rw [← hxk]; exact fun g => g.2.elim (fun k => (Int32.not_le.mpr c5) k.1) (fun k => k.2.elim c6 (fun j => (Int32.not_lt.mpr j) c7))))⟩)
                · refine V_iconst (v := 1) f dX9_isClosed_149 (by decide) ?_
                  refine V_goto (tgt := 154) f dX9_isClosed_150 (by decide) ?_
                  refine V_istore f dX9_isClosed_154 (by decide) rfl ?_
                  refine V_iinc (v := x + 1) f dX9_isClosed_156 1 rfl rfl (by decide) rfl ?_
                  refine V_goto (tgt := 22) f dX9_isClosed_159 (by decide) ?_
                  exact ih (k + 1) (x + 1) 1 hx1 (by omega) (by exact ⟨Or.inr rfl, clR_y (by have g := c2; rw [hxk] at g; exact g) (by rw [← hxk]; exact ⟨wi9.mp c3, Or.inr ⟨Int32.not_le.mpr c5, Or.inr (Int32.not_lt.mp c7)⟩⟩)⟩)
            · refine V_iload f dX9_isClosed_100 2 rfl ?_
              refine V_aload_n f dX9_isClosed_102 4 rfl ?_
              refine V_getR f dX9_isClosed_103 lf_9_82 rfl zm_0 rfl ?_
              refine V_iload f dX9_isClosed_106 0 rfl ?_
              refine V_ialdE (x := M 23 (Int32.toNatClampNeg x)) f dX9_isClosed_108 zm_23 hx144 rfl ?_
              refine V_aload_n f dX9_isClosed_109 4 rfl ?_
              refine V_getR f dX9_isClosed_110 lf_9_85 rfl zm_0 rfl ?_
              refine V_iload f dX9_isClosed_113 0 rfl ?_
              refine V_ialdE (x := M 24 (Int32.toNatClampNeg x)) f dX9_isClosed_115 zm_24 hx144 rfl ?_
              refine V_cSi (As := [.int (a - a / 365 * 365), .int (M 23 (Int32.toNatClampNeg x)), .int (M 24 (Int32.toNatClampNeg x))]) (rest := []) f dX9_isClosed_116 lk_X9_109 ml_X9_109 sta_X9_isIn (c_X9_isIn (kl K) (kD K) (ky K) (kX K) ad M (a - a / 365 * 365) (M 23 (Int32.toNatClampNeg x)) (M 24 (Int32.toNatClampNeg x))) rfl (Nat.le_of_ble_eq_true rfl) rfl ⟨by decide, by decide⟩ ⟨Nat.zero_le _, Nat.zero_le _⟩ rfl rfl ?_
              refine V_if_eq (tgt := 153) f dX9_isClosed_119 (by decide) (fun c8 => ?_) (fun c8 => ?_)
              · refine V_iconst (v := 0) f dX9_isClosed_153 (by decide) ?_
                refine V_istore f dX9_isClosed_154 (by decide) rfl ?_
                refine V_iinc (v := x + 1) f dX9_isClosed_156 1 rfl rfl (by decide) rfl ?_
                refine V_goto (tgt := 22) f dX9_isClosed_159 (by decide) ?_
                exact ih (k + 1) (x + 1) 0 hx1 (by omega) (by have q9 := hp.2; rw [c4] at q9; exact ⟨Or.inl rfl, clR_n q9 (Or.inr (by rw [← hxk]; exact fun g => g.2.elim (fun k => (wi9.mpr k.2) c8) (fun k => k.1 (Int32.not_lt.mp c5))))⟩)
              · refine V_goto (tgt := 149) f dX9_isClosed_122 (by decide) ?_
                refine V_iconst (v := 1) f dX9_isClosed_149 (by decide) ?_
                refine V_goto (tgt := 154) f dX9_isClosed_150 (by decide) ?_
                refine V_istore f dX9_isClosed_154 (by decide) rfl ?_
                refine V_iinc (v := x + 1) f dX9_isClosed_156 1 rfl rfl (by decide) rfl ?_
                refine V_goto (tgt := 22) f dX9_isClosed_159 (by decide) ?_
                exact ih (k + 1) (x + 1) 1 hx1 (by omega) (by exact ⟨Or.inr rfl, clR_y (by have g := c2; rw [hxk] at g; exact g) (by rw [← hxk]; exact ⟨wi9.mp c3, Or.inl ⟨Int32.not_lt.mp c5, wi9.mp c8⟩⟩)⟩)
        · refine V_goto (tgt := 156) f dX9_isClosed_75 (by decide) ?_
          refine V_iinc (v := x + 1) f dX9_isClosed_156 0 rfl rfl (by decide) rfl ?_
          refine V_goto (tgt := 22) f dX9_isClosed_159 (by decide) ?_
          exact ih (k + 1) (x + 1) t hx1 (by omega) (by exact ⟨hp.1, clR_n hp.2 (Or.inr (by rw [← hxk]; exact fun g => (wi9.mpr g.1) c3))⟩)
  refine V_aload_n f dX9_isClosed_0 0 rfl ?_
  refine V_iload_n f dX9_isClosed_1 1 rfl ?_
  refine V_cVp (As := [.int a]) (rest := []) f dX9_isClosed_2 lk_X9_197 ml_X9_197 ins_X9_inForce sel_X9_inForce zm_0 (by decide) rfl (c4_X9_inForce _ _ _ _ ad M a hS) rfl (Nat.le_of_ble_eq_true rfl) rfl ⟨by decide, by decide⟩ ⟨Nat.zero_le _, Nat.zero_le _⟩ rfl rfl (fun v1 Mx1 hp1 => ?_)
  obtain ⟨r1, rfl, e1, hf1⟩ := hp1
  rw [e1]
  show V K ad 0 0 ZM M 5 [(0, .ref (ad 0)), (1, .int a), (2, .int b)] [.int r1]
  refine V_istore_n f dX9_isClosed_5 rfl (by decide) rfl ?_
  refine V_iload_n f dX9_isClosed_6 2 rfl ?_
  refine V_sipush (v := 365) f dX9_isClosed_7 (by decide) ?_
  refine V_irem f dX9_isClosed_10 (by decide) ?_
  refine V_istore f dX9_isClosed_11 (by decide) rfl ?_
  refine V_iconst (v := 0) f dX9_isClosed_13 (by decide) ?_
  refine V_istore f dX9_isClosed_14 (by decide) rfl ?_
  refine V_bipush (v := 16) f dX9_isClosed_16 (by decide) ?_
  refine V_iload_n f dX9_isClosed_18 2 rfl ?_
  refine V_imul f dX9_isClosed_19 ?_
  refine V_istore f dX9_isClosed_20 (by decide) rfl ?_
  rcases IFo_r hS hf1 with er | er
  · refine V_iload_n f dX9_isClosed_22 3 rfl ?_
    refine V_iconst (v := (-1)) f dX9_isClosed_23 (by decide) ?_
    refine V_icmp_eq (tgt := 162) f dX9_isClosed_24 (by decide) (fun _ => ?_) (fun h => absurd er h)
    refine V_iload f dX9_isClosed_162 1 rfl ?_
    exact V_iret f q dX9_isClosed_164 rfl (Nat.zero_le _) (Nat.zero_le _) ⟨rfl, rfl, 0, rfl, Or.inl rfl, rfl, r1, hf1, by unfold cMX; rw [if_pos er]; exact Or.inr ⟨rfl, fun q hq => absurd hq List.not_mem_nil⟩⟩
  · exact loop r1 hf1 er (M 18 (Int32.toNatClampNeg r1)).toInt.toNat 0 (16 * r1) 0 (by have := sl1 er; show (16 * r1).toInt = 16 * (r1.toInt.toNat : Int) + _; omega) (by omega) ⟨Or.inl rfl, Or.inr ⟨rfl, fun q hq => absurd hq List.not_mem_nil⟩⟩
set_option maxHeartbeats 4000000 in
set_option maxRecDepth 100000 in
theorem c4_X9_tells (l : Launch) (D : va_G) (cy : Nat → ClassId) (X : va_W) (ad : Nat → Nat) (M : MT) (a : Int32) (e : Int32) (hS : InvS M) : CtP l yX9_tells cX9_tells 3 (some .int) (rK 2) D cy X ad ZM M [.ref (ad 0), .int a, .int e] (fun v M1 => ∃ r : Int32, v = some (.int r) ∧ TMr M a e r ∧ M1 = M) := by
  refine Ctr.of (by decide +kernel) (Nat.le_of_ble_eq_true rfl) ?_
  intro K f q hnm hl0 hD0 hy0 hX0
  show V K ad 0 0 ZM M 0 [(0, .ref (ad 0)), (1, .int a), (2, .int e)] []
  refine V_iload_n f dX9_tells_0 1 rfl ?_
  refine V_iconst (v := 0) f dX9_tells_1 (by decide) ?_
  refine V_sipush (v := 1000) f dX9_tells_2 (by decide) ?_
  refine V_cSi (As := [.int a, .int 0, .int 1000]) (rest := []) f dX9_tells_5 lk_X9_109 ml_X9_109 sta_X9_isIn (c_X9_isIn (kl K) (kD K) (ky K) (kX K) ad M a 0 1000) rfl (Nat.le_of_ble_eq_true rfl) rfl ⟨by decide, by decide⟩ ⟨Nat.zero_le _, Nat.zero_le _⟩ rfl rfl ?_
  refine V_if_ne (tgt := 13) f dX9_tells_8 (by decide) (fun c1 => ?_) (fun c1 => ?_)
  · refine V_iload_n f dX9_tells_13 2 rfl ?_
    refine V_bipush (v := 10) f dX9_tells_14 (by decide) ?_
    refine V_bipush (v := 25) f dX9_tells_16 (by decide) ?_
    refine V_cSi (As := [.int e, .int 10, .int 25]) (rest := []) f dX9_tells_18 lk_X9_109 ml_X9_109 sta_X9_isIn (c_X9_isIn (kl K) (kD K) (ky K) (kX K) ad M e 10 25) rfl (Nat.le_of_ble_eq_true rfl) rfl ⟨by decide, by decide⟩ ⟨Nat.zero_le _, Nat.zero_le _⟩ rfl rfl ?_
    refine V_if_eq (tgt := 37) f dX9_tells_21 (by decide) (fun c2 => ?_) (fun c2 => ?_)
    · refine V_iload_n f dX9_tells_37 2 rfl ?_
      refine V_if_ne (tgt := 53) f dX9_tells_38 (by decide) (fun c3 => ?_) (fun c3 => ?_)
      · refine V_iload_n f dX9_tells_53 2 rfl ?_
        refine V_iconst (v := 1) f dX9_tells_54 (by decide) ?_
        refine V_icmp_ne (tgt := 68) f dX9_tells_55 (by decide) (fun c4 => ?_) (fun c4 => ?_)
        · refine V_iload_n f dX9_tells_68 2 rfl ?_
          refine V_iconst (v := 2) f dX9_tells_69 (by decide) ?_
          refine V_icmp_ne (tgt := 81) f dX9_tells_70 (by decide) (fun c5 => ?_) (fun c5 => ?_)
          · refine V_iconst (v := (-1)) f dX9_tells_81 (by decide) ?_
            exact V_iret f q dX9_tells_82 rfl (Nat.zero_le _) (Nat.zero_le _) ⟨rfl, rfl, (-1), rfl, Or.inr (Or.inl ⟨c1, c2, c3, c4, c5, rfl⟩), rfl⟩
          · refine V_aload_n f dX9_tells_73 0 rfl ?_
            refine V_iload_n f dX9_tells_74 1 rfl ?_
            refine V_cVp (As := [.int a]) (rest := []) f dX9_tells_75 lk_X9_197 ml_X9_197 ins_X9_inForce sel_X9_inForce zm_0 (by decide) rfl (c4_X9_inForce _ _ _ _ ad M a hS) rfl (Nat.le_of_ble_eq_true rfl) rfl ⟨by decide, by decide⟩ ⟨Nat.zero_le _, Nat.zero_le _⟩ rfl rfl (fun v6 Mx6 hp6 => ?_)
            obtain ⟨r6, rfl, e6, hf6⟩ := hp6
            rw [e6]
            show V K ad 0 0 ZM M 78 [(0, .ref (ad 0)), (1, .int a), (2, .int e)] [.int r6]
            refine V_goto (tgt := 82) f dX9_tells_78 (by decide) ?_
            exact V_iret f q dX9_tells_82 rfl (Nat.zero_le _) (Nat.zero_le _) ⟨rfl, rfl, r6, rfl, Or.inr (Or.inr ⟨c1, r6, hf6, Or.inr ⟨c2, Or.inr (Or.inr ⟨c5, rfl⟩)⟩⟩), rfl⟩
        · refine V_aload_n f dX9_tells_58 0 rfl ?_
          refine V_iload_n f dX9_tells_59 1 rfl ?_
          refine V_iconst (v := 1) f dX9_tells_60 (by decide) ?_
          refine V_iconst (v := 0) f dX9_tells_61 (by decide) ?_
          refine V_cVp (As := [.int a, .int 1, .int 0]) (rest := []) f dX9_tells_62 lk_X9_209 ml_X9_209 ins_X9_lastOf sel_X9_lastOf zm_0 (by decide) rfl (c4_X9_lastOf _ _ _ _ ad M a 1 0 hS (Or.inr ⟨rfl, rfl⟩)) rfl (Nat.le_of_ble_eq_true rfl) rfl ⟨by decide, by decide⟩ ⟨Nat.zero_le _, Nat.zero_le _⟩ rfl rfl (fun v7 Mx7 hp7 => ?_)
          obtain ⟨r7, rfl, e7, f7, hf7, hv7⟩ := hp7
          rw [e7]
          show V K ad 0 0 ZM M 65 [(0, .ref (ad 0)), (1, .int a), (2, .int e)] [.int r7]
          refine V_goto (tgt := 82) f dX9_tells_65 (by decide) ?_
          exact V_iret f q dX9_tells_82 rfl (Nat.zero_le _) (Nat.zero_le _) ⟨rfl, rfl, r7, rfl, Or.inr (Or.inr ⟨c1, f7, hf7, Or.inr ⟨c2, Or.inr (Or.inl ⟨c4, by rw [hv7]; rfl⟩)⟩⟩), rfl⟩
      · refine V_aload_n f dX9_tells_41 0 rfl ?_
        refine V_iload_n f dX9_tells_42 1 rfl ?_
        refine V_iconst (v := 0) f dX9_tells_43 (by decide) ?_
        refine V_sipush (v := 550) f dX9_tells_44 (by decide) ?_
        refine V_cVp (As := [.int a, .int 0, .int 550]) (rest := []) f dX9_tells_47 lk_X9_209 ml_X9_209 ins_X9_lastOf sel_X9_lastOf zm_0 (by decide) rfl (c4_X9_lastOf _ _ _ _ ad M a 0 550 hS (Or.inl ⟨rfl, rfl⟩)) rfl (Nat.le_of_ble_eq_true rfl) rfl ⟨by decide, by decide⟩ ⟨Nat.zero_le _, Nat.zero_le _⟩ rfl rfl (fun v8 Mx8 hp8 => ?_)
        obtain ⟨r8, rfl, e8, f8, hf8, hv8⟩ := hp8
        rw [e8]
        show V K ad 0 0 ZM M 50 [(0, .ref (ad 0)), (1, .int a), (2, .int e)] [.int r8]
        refine V_goto (tgt := 82) f dX9_tells_50 (by decide) ?_
        exact V_iret f q dX9_tells_82 rfl (Nat.zero_le _) (Nat.zero_le _) ⟨rfl, rfl, r8, rfl, Or.inr (Or.inr ⟨c1, f8, hf8, Or.inr ⟨c2, Or.inl ⟨c3, by rw [hv8]; rfl⟩⟩⟩), rfl⟩
    · refine V_aload_n f dX9_tells_24 0 rfl ?_
      refine V_iload_n f dX9_tells_25 1 rfl ?_
      refine V_iload_n f dX9_tells_26 2 rfl ?_
      refine V_bipush (v := 10) f dX9_tells_27 (by decide) ?_
      refine V_isub f dX9_tells_29 ?_
      refine V_cVp (As := [.int a, .int (e - 10)]) (rest := []) f dX9_tells_30 lk_X9_201 ml_X9_201 ins_X9_isClosed sel_X9_isClosed zm_0 (by decide) rfl (c4_X9_isClosed _ _ _ _ ad M a (e - 10) hS) rfl (Nat.le_of_ble_eq_true rfl) rfl ⟨by decide, by decide⟩ ⟨Nat.zero_le _, Nat.zero_le _⟩ rfl rfl (fun v9 Mx9 hp9 => ?_)
      obtain ⟨r9, rfl, hr9, e9, f9, hf9, hc9⟩ := hp9
      rw [e9]
      show V K ad 0 0 ZM M 33 [(0, .ref (ad 0)), (1, .int a), (2, .int e)] [.int r9]
      refine V_cSi (As := [.int r9]) (rest := []) f dX9_tells_33 lk_X9_205 ml_X9_205 sta_X9_one (c_X9_one (kl K) (kD K) (ky K) (kX K) ad M r9) rfl (Nat.le_of_ble_eq_true rfl) rfl ⟨by decide, by decide⟩ ⟨Nat.zero_le _, Nat.zero_le _⟩ rfl rfl ?_
      exact V_iret f q dX9_tells_36 rfl (Nat.zero_le _) (Nat.zero_le _) ⟨rfl, rfl, (s_X9_one M r9), rfl, Or.inr (Or.inr ⟨c1, f9, hf9, Or.inl ⟨c2, by rw [one_i hr9]; exact hc9⟩⟩), rfl⟩
  · refine V_iconst (v := (-1)) f dX9_tells_11 (by decide) ?_
    exact V_iret f q dX9_tells_12 rfl (Nat.zero_le _) (Nat.zero_le _) ⟨rfl, rfl, (-1), rfl, Or.inl ⟨c1, rfl⟩, rfl⟩

def s_X1_valueOf (M : MT) (a : Int32) (s : Nat) (b : Int32) : Int32 := (if a = 12 then (M s 3) else (if a = 13 then b else (M s 0)))
set_option maxHeartbeats 4000000 in
set_option maxRecDepth 100000 in
theorem c_X1_valueOf (l : Launch) (D : va_G) (cy : Nat → ClassId) (X : va_W) (ad : Nat → Nat) (M : MT) (a : Int32) (s : Nat) (b : Int32) {ns : Nat} {rss : List (Option Nat)} (hs : ZB[s]? = some (5, ns, rss)) : CtI l yX1_valueOf cX1_valueOf 3 .int (rK 0) D cy X ad ZB M [.int a, .ref (ad s), .int b] (s_X1_valueOf M a s b) M := by
  refine Ctr.of (by decide +kernel) (Nat.le_of_ble_eq_true rfl) ?_
  intro K f q hnm hl0 hD0 hy0 hX0
  show V K ad 0 0 ZB M 0 [(0, .int a), (1, .ref (ad s)), (2, .int b)] []
  refine V_iload_n f dX1_valueOf_0 0 rfl ?_
  rcases Decidable.em (a = 12) with c1 | c1
  · refine V_lookup (off := 27) (tgt := 28) f dX1_valueOf_1 (by decide) (by rw [c1]; decide) (by decide) ?_
    refine V_aload_n f dX1_valueOf_28 1 rfl ?_
    refine V_getE (x := M s 3) f dX1_valueOf_29 lf_1_75 rfl hs rfl ?_
    exact V_iret f q dX1_valueOf_32 rfl (Nat.zero_le _) (Nat.zero_le _) ⟨rfl, rfl, (by simp only [s_X1_valueOf, if_pos c1]), rfl⟩
  rcases Decidable.em (a = 13) with c2 | c2
  · refine V_lookup (off := 32) (tgt := 33) f dX1_valueOf_1 (by decide) (by rw [c2]; decide) (by decide) ?_
    refine V_iload_n f dX1_valueOf_33 2 rfl ?_
    exact V_iret f q dX1_valueOf_34 rfl (Nat.zero_le _) (Nat.zero_le _) ⟨rfl, rfl, (by simp only [s_X1_valueOf, if_neg c1, if_pos c2]), rfl⟩
  refine V_lookup (off := 34) (tgt := 35) f dX1_valueOf_1 (by decide) ((lv_osw (k := 12) c1 (by decide)).trans ((lv_osw (k := 13) c2 (by decide)).trans rfl)) (by decide) ?_
  refine V_aload_n f dX1_valueOf_35 1 rfl ?_
  refine V_getE (x := M s 0) f dX1_valueOf_36 lf_1_84 rfl hs rfl ?_
  exact V_iret f q dX1_valueOf_39 rfl (Nat.zero_le _) (Nat.zero_le _) ⟨rfl, rfl, (by simp only [s_X1_valueOf, if_neg c1, if_neg c2]), rfl⟩
def s_X1_holds (M : MT) (i : Nat) (a : Int32) (s : Nat) (b : Int32) : Int32 := (if (M (i + 7) (Int32.toNatClampNeg a)) = 12 then (if (M s 3) = (-1) then 0 else (if (M (i + 8) (Int32.toNatClampNeg a)) = 60 then (if (M (i + 9) (Int32.toNatClampNeg a)) ≤ (s_X1_valueOf M (M (i + 7) (Int32.toNatClampNeg a)) s b) then 0 else 1) else (if (M (i + 8) (Int32.toNatClampNeg a)) = 62 then (if (s_X1_valueOf M (M (i + 7) (Int32.toNatClampNeg a)) s b) ≤ (M (i + 9) (Int32.toNatClampNeg a)) then 0 else 1) else (if (s_X1_valueOf M (M (i + 7) (Int32.toNatClampNeg a)) s b) = (M (i + 9) (Int32.toNatClampNeg a)) then 1 else 0)))) else (if (M (i + 8) (Int32.toNatClampNeg a)) = 60 then (if (M (i + 9) (Int32.toNatClampNeg a)) ≤ (s_X1_valueOf M (M (i + 7) (Int32.toNatClampNeg a)) s b) then 0 else 1) else (if (M (i + 8) (Int32.toNatClampNeg a)) = 62 then (if (s_X1_valueOf M (M (i + 7) (Int32.toNatClampNeg a)) s b) ≤ (M (i + 9) (Int32.toNatClampNeg a)) then 0 else 1) else (if (s_X1_valueOf M (M (i + 7) (Int32.toNatClampNeg a)) s b) = (M (i + 9) (Int32.toNatClampNeg a)) then 1 else 0))))
theorem b_X1_holds (M : MT) (i : Nat) (a : Int32) (s : Nat) (b : Int32) : s_X1_holds M i a s b = 0 ∨ s_X1_holds M i a s b = 1 := by unfold s_X1_holds; first | (repeat' split) <;> simp | (repeat' split) <;> first | exact Or.inl rfl | exact Or.inr rfl | simp [*]
set_option maxHeartbeats 4000000 in
set_option maxRecDepth 100000 in
theorem c_X1_holds (l : Launch) (D : va_G) (cy : Nat → ClassId) (X : va_W) (ad : Nat → Nat) (M : MT) (i : Nat) (a : Int32) (s : Nat) (b : Int32) (hz : LawZ i) {ns : Nat} {rss : List (Option Nat)} (hs : ZB[s]? = some (5, ns, rss)) (ha : vp_in a 48) : CtI l yX1_holds cX1_holds 5 .boolean (rK 1) D cy X ad ZB M [.ref (ad i), .int a, .ref (ad s), .int b] (s_X1_holds M i a s b) M := by
  refine Ctr.of (by decide +kernel) (Nat.le_of_ble_eq_true rfl) ?_
  intro K f q hnm hl0 hD0 hy0 hX0
  show V K ad 0 0 ZB M 0 [(0, .ref (ad i)), (1, .int a), (2, .ref (ad s)), (3, .int b)] []
  refine V_aload_n f dX1_holds_0 0 rfl ?_
  refine V_getR f dX1_holds_1 lf_1_49 rfl (zL hz) rfl ?_
  refine V_iload_n f dX1_holds_4 1 rfl ?_
  refine V_ialdE (x := M (i + 7) (Int32.toNatClampNeg a)) f dX1_holds_5 (zLa_7 hz) ha rfl ?_
  refine V_bipush (v := 12) f dX1_holds_6 (by decide) ?_
  refine V_icmp_ne (tgt := 21) f dX1_holds_8 (by decide) (fun c1 => ?_) (fun c1 => ?_)
  · refine V_aload_n f dX1_holds_21 0 rfl ?_
    refine V_getR f dX1_holds_22 lf_1_49 rfl (zL hz) rfl ?_
    refine V_iload_n f dX1_holds_25 1 rfl ?_
    refine V_ialdE (x := M (i + 7) (Int32.toNatClampNeg a)) f dX1_holds_26 (zLa_7 hz) ha rfl ?_
    refine V_aload_n f dX1_holds_27 2 rfl ?_
    refine V_iload_n f dX1_holds_28 3 rfl ?_
    refine V_cSi (As := [.int (M (i + 7) (Int32.toNatClampNeg a)), .ref (ad s), .int b]) (rest := []) f dX1_holds_29 lk_X1_80 ml_X1_80 sta_X1_valueOf (c_X1_valueOf (kl K) (kD K) (ky K) (kX K) ad M (M (i + 7) (Int32.toNatClampNeg a)) s b hs) rfl (Nat.le_of_ble_eq_true rfl) rfl ⟨by decide, by decide⟩ ⟨Nat.zero_le _, Nat.zero_le _⟩ rfl rfl ?_
    refine V_istore f dX1_holds_32 (by decide) rfl ?_
    refine V_aload_n f dX1_holds_34 1 rfl ?_
    refine V_getR f dX1_holds_35 lf_1_52 rfl (zL hz) rfl ?_
    refine V_iload_n f dX1_holds_38 2 rfl ?_
    refine V_ialdE (x := M (i + 8) (Int32.toNatClampNeg a)) f dX1_holds_39 (zLa_8 hz) ha rfl ?_
    rcases Decidable.em ((M (i + 8) (Int32.toNatClampNeg a)) = 60) with c2 | c2
    · refine V_lookup (off := 28) (tgt := 68) f dX1_holds_40 (by decide) (by rw [c2]; decide) (by decide) ?_
      refine V_iload f dX1_holds_68 0 rfl ?_
      refine V_aload_n f dX1_holds_70 1 rfl ?_
      refine V_getR f dX1_holds_71 lf_1_55 rfl (zL hz) rfl ?_
      refine V_iload_n f dX1_holds_74 2 rfl ?_
      refine V_ialdE (x := M (i + 9) (Int32.toNatClampNeg a)) f dX1_holds_75 (zLa_9 hz) ha rfl ?_
      refine V_icmp_ge (tgt := 83) f dX1_holds_76 (by decide) (fun c3 => ?_) (fun c3 => ?_)
      · refine V_iconst (v := 0) f dX1_holds_83 (by decide) ?_
        exact V_iret f q dX1_holds_84 rfl (Nat.zero_le _) (Nat.zero_le _) ⟨rfl, rfl, (by simp only [s_X1_holds, if_neg c1, if_pos c2, if_pos c3]), rfl⟩
      · refine V_iconst (v := 1) f dX1_holds_79 (by decide) ?_
        refine V_goto (tgt := 84) f dX1_holds_80 (by decide) ?_
        exact V_iret f q dX1_holds_84 rfl (Nat.zero_le _) (Nat.zero_le _) ⟨rfl, rfl, (by simp only [s_X1_holds, if_neg c1, if_pos c2, if_neg c3]), rfl⟩
    rcases Decidable.em ((M (i + 8) (Int32.toNatClampNeg a)) = 62) with c4 | c4
    · refine V_lookup (off := 45) (tgt := 85) f dX1_holds_40 (by decide) (by rw [c4]; decide) (by decide) ?_
      refine V_iload f dX1_holds_85 0 rfl ?_
      refine V_aload_n f dX1_holds_87 1 rfl ?_
      refine V_getR f dX1_holds_88 lf_1_55 rfl (zL hz) rfl ?_
      refine V_iload_n f dX1_holds_91 2 rfl ?_
      refine V_ialdE (x := M (i + 9) (Int32.toNatClampNeg a)) f dX1_holds_92 (zLa_9 hz) ha rfl ?_
      refine V_icmp_le (tgt := 100) f dX1_holds_93 (by decide) (fun c5 => ?_) (fun c5 => ?_)
      · refine V_iconst (v := 0) f dX1_holds_100 (by decide) ?_
        exact V_iret f q dX1_holds_101 rfl (Nat.zero_le _) (Nat.zero_le _) ⟨rfl, rfl, (by simp only [s_X1_holds, if_neg c1, if_neg c2, if_pos c4, if_pos c5]), rfl⟩
      · refine V_iconst (v := 1) f dX1_holds_96 (by decide) ?_
        refine V_goto (tgt := 101) f dX1_holds_97 (by decide) ?_
        exact V_iret f q dX1_holds_101 rfl (Nat.zero_le _) (Nat.zero_le _) ⟨rfl, rfl, (by simp only [s_X1_holds, if_neg c1, if_neg c2, if_pos c4, if_neg c5]), rfl⟩
    refine V_lookup (off := 62) (tgt := 102) f dX1_holds_40 (by decide) ((lv_osw (k := 60) c2 (by decide)).trans ((lv_osw (k := 62) c4 (by decide)).trans rfl)) (by decide) ?_
    refine V_iload f dX1_holds_102 0 rfl ?_
    refine V_aload_n f dX1_holds_104 1 rfl ?_
    refine V_getR f dX1_holds_105 lf_1_55 rfl (zL hz) rfl ?_
    refine V_iload_n f dX1_holds_108 2 rfl ?_
    refine V_ialdE (x := M (i + 9) (Int32.toNatClampNeg a)) f dX1_holds_109 (zLa_9 hz) ha rfl ?_
    refine V_icmp_ne (tgt := 117) f dX1_holds_110 (by decide) (fun c6 => ?_) (fun c6 => ?_)
    · refine V_iconst (v := 0) f dX1_holds_117 (by decide) ?_
      exact V_iret f q dX1_holds_118 rfl (Nat.zero_le _) (Nat.zero_le _) ⟨rfl, rfl, (by simp only [s_X1_holds, if_neg c1, if_neg c2, if_neg c4, if_neg c6]), rfl⟩
    · refine V_iconst (v := 1) f dX1_holds_113 (by decide) ?_
      refine V_goto (tgt := 118) f dX1_holds_114 (by decide) ?_
      exact V_iret f q dX1_holds_118 rfl (Nat.zero_le _) (Nat.zero_le _) ⟨rfl, rfl, (by simp only [s_X1_holds, if_neg c1, if_neg c2, if_neg c4, if_pos c6]), rfl⟩
  · refine V_aload_n f dX1_holds_11 2 rfl ?_
    refine V_getE (x := M s 3) f dX1_holds_12 lf_1_75 rfl hs rfl ?_
    refine V_iconst (v := (-1)) f dX1_holds_15 (by decide) ?_
    refine V_icmp_ne (tgt := 21) f dX1_holds_16 (by decide) (fun c7 => ?_) (fun c7 => ?_)
    · refine V_aload_n f dX1_holds_21 0 rfl ?_
      refine V_getR f dX1_holds_22 lf_1_49 rfl (zL hz) rfl ?_
      refine V_iload_n f dX1_holds_25 1 rfl ?_
      refine V_ialdE (x := M (i + 7) (Int32.toNatClampNeg a)) f dX1_holds_26 (zLa_7 hz) ha rfl ?_
      refine V_aload_n f dX1_holds_27 2 rfl ?_
      refine V_iload_n f dX1_holds_28 3 rfl ?_
      refine V_cSi (As := [.int (M (i + 7) (Int32.toNatClampNeg a)), .ref (ad s), .int b]) (rest := []) f dX1_holds_29 lk_X1_80 ml_X1_80 sta_X1_valueOf (c_X1_valueOf (kl K) (kD K) (ky K) (kX K) ad M (M (i + 7) (Int32.toNatClampNeg a)) s b hs) rfl (Nat.le_of_ble_eq_true rfl) rfl ⟨by decide, by decide⟩ ⟨Nat.zero_le _, Nat.zero_le _⟩ rfl rfl ?_
      refine V_istore f dX1_holds_32 (by decide) rfl ?_
      refine V_aload_n f dX1_holds_34 1 rfl ?_
      refine V_getR f dX1_holds_35 lf_1_52 rfl (zL hz) rfl ?_
      refine V_iload_n f dX1_holds_38 2 rfl ?_
      refine V_ialdE (x := M (i + 8) (Int32.toNatClampNeg a)) f dX1_holds_39 (zLa_8 hz) ha rfl ?_
      rcases Decidable.em ((M (i + 8) (Int32.toNatClampNeg a)) = 60) with c8 | c8
      · refine V_lookup (off := 28) (tgt := 68) f dX1_holds_40 (by decide) (by rw [c8]; decide) (by decide) ?_
        refine V_iload f dX1_holds_68 0 rfl ?_
        refine V_aload_n f dX1_holds_70 1 rfl ?_
        refine V_getR f dX1_holds_71 lf_1_55 rfl (zL hz) rfl ?_
        refine V_iload_n f dX1_holds_74 2 rfl ?_
        refine V_ialdE (x := M (i + 9) (Int32.toNatClampNeg a)) f dX1_holds_75 (zLa_9 hz) ha rfl ?_
        refine V_icmp_ge (tgt := 83) f dX1_holds_76 (by decide) (fun c9 => ?_) (fun c9 => ?_)
        · refine V_iconst (v := 0) f dX1_holds_83 (by decide) ?_
          exact V_iret f q dX1_holds_84 rfl (Nat.zero_le _) (Nat.zero_le _) ⟨rfl, rfl, (by simp only [s_X1_holds, if_pos c1, if_neg c7, if_pos c8, if_pos c9]), rfl⟩
        · refine V_iconst (v := 1) f dX1_holds_79 (by decide) ?_
          refine V_goto (tgt := 84) f dX1_holds_80 (by decide) ?_
          exact V_iret f q dX1_holds_84 rfl (Nat.zero_le _) (Nat.zero_le _) ⟨rfl, rfl, (by simp only [s_X1_holds, if_pos c1, if_neg c7, if_pos c8, if_neg c9]), rfl⟩
      rcases Decidable.em ((M (i + 8) (Int32.toNatClampNeg a)) = 62) with c10 | c10
      · refine V_lookup (off := 45) (tgt := 85) f dX1_holds_40 (by decide) (by rw [c10]; decide) (by decide) ?_
        refine V_iload f dX1_holds_85 0 rfl ?_
        refine V_aload_n f dX1_holds_87 1 rfl ?_
        refine V_getR f dX1_holds_88 lf_1_55 rfl (zL hz) rfl ?_
        refine V_iload_n f dX1_holds_91 2 rfl ?_
        refine V_ialdE (x := M (i + 9) (Int32.toNatClampNeg a)) f dX1_holds_92 (zLa_9 hz) ha rfl ?_
        refine V_icmp_le (tgt := 100) f dX1_holds_93 (by decide) (fun c11 => ?_) (fun c11 => ?_)
        · refine V_iconst (v := 0) f dX1_holds_100 (by decide) ?_
          exact V_iret f q dX1_holds_101 rfl (Nat.zero_le _) (Nat.zero_le _) ⟨rfl, rfl, (by simp only [s_X1_holds, if_pos c1, if_neg c7, if_neg c8, if_pos c10, if_pos c11]), rfl⟩
        · refine V_iconst (v := 1) f dX1_holds_96 (by decide) ?_
          refine V_goto (tgt := 101) f dX1_holds_97 (by decide) ?_
          exact V_iret f q dX1_holds_101 rfl (Nat.zero_le _) (Nat.zero_le _) ⟨rfl, rfl, (by simp only [s_X1_holds, if_pos c1, if_neg c7, if_neg c8, if_pos c10, if_neg c11]), rfl⟩
      refine V_lookup (off := 62) (tgt := 102) f dX1_holds_40 (by decide) ((lv_osw (k := 60) c8 (by decide)).trans ((lv_osw (k := 62) c10 (by decide)).trans rfl)) (by decide) ?_
      refine V_iload f dX1_holds_102 0 rfl ?_
      refine V_aload_n f dX1_holds_104 1 rfl ?_
      refine V_getR f dX1_holds_105 lf_1_55 rfl (zL hz) rfl ?_
      refine V_iload_n f dX1_holds_108 2 rfl ?_
      refine V_ialdE (x := M (i + 9) (Int32.toNatClampNeg a)) f dX1_holds_109 (zLa_9 hz) ha rfl ?_
      refine V_icmp_ne (tgt := 117) f dX1_holds_110 (by decide) (fun c12 => ?_) (fun c12 => ?_)
      · refine V_iconst (v := 0) f dX1_holds_117 (by decide) ?_
        exact V_iret f q dX1_holds_118 rfl (Nat.zero_le _) (Nat.zero_le _) ⟨rfl, rfl, (by simp only [s_X1_holds, if_pos c1, if_neg c7, if_neg c8, if_neg c10, if_neg c12]), rfl⟩
      · refine V_iconst (v := 1) f dX1_holds_113 (by decide) ?_
        refine V_goto (tgt := 118) f dX1_holds_114 (by decide) ?_
        exact V_iret f q dX1_holds_118 rfl (Nat.zero_le _) (Nat.zero_le _) ⟨rfl, rfl, (by simp only [s_X1_holds, if_pos c1, if_neg c7, if_neg c8, if_neg c10, if_pos c12]), rfl⟩
    · refine V_iconst (v := 0) f dX1_holds_19 (by decide) ?_
      exact V_iret f q dX1_holds_20 rfl (Nat.zero_le _) (Nat.zero_le _) ⟨rfl, rfl, (by simp only [s_X1_holds, if_pos c1, if_pos c7]), rfl⟩
theorem ah1 {a : Int32} (h : vp_in a 16) : (a * 3).toInt = a.toInt * 3 ∧ 0 ≤ a.toInt ∧ a.toInt ≤ 15 := by
  rw [vp_in_iff] at h
  have e3 : (3 : Int32).toInt = 3 := by decide
  refine ⟨?_, by omega, by omega⟩
  rw [Int32.toInt_mul, e3, Int.bmod_eq_of_le (by omega) (by omega)]
theorem ah2 {a t x : Int32} (h : vp_in a 16) (ht : 0 ≤ t.toInt ∧ t.toInt ≤ 3) (x0 : 0 ≤ x.toInt) (hx : ¬ (a * 3) + t ≤ x) : vp_in x 48 := by
  obtain ⟨h1, h2, h3⟩ := ah1 h
  have e : ((a * 3) + t).toInt = a.toInt * 3 + t.toInt := by rw [Int32.toInt_add, h1, Int.bmod_eq_of_le (by omega) (by omega)]
  rw [Int32.le_iff_toInt_le, e] at hx
  rw [vp_in_iff]; omega
theorem ah3 {a t x : Int32} {n : Nat} (h : vp_in a 16) (ht : 0 ≤ t.toInt ∧ t.toInt ≤ 3) (x0 : 0 ≤ x.toInt) (hx : x.toInt + (n : Nat) = 1000) (hc : ¬ (a * 3) + t ≤ x) : ∃ m, n = m + 1 ∧ 0 ≤ (x + 1).toInt ∧ (x + 1).toInt + (m : Nat) = 1000 := by
  obtain ⟨h1, h2, h3⟩ := ah1 h
  have e : ((a * 3) + t).toInt = a.toInt * 3 + t.toInt := by rw [Int32.toInt_add, h1, Int.bmod_eq_of_le (by omega) (by omega)]
  exact lo_inc x0 hx hc (by omega)
set_option maxHeartbeats 4000000 in
set_option maxRecDepth 100000 in
theorem c3_X1_allHold (l : Launch) (D : va_G) (cy : Nat → ClassId) (X : va_W) (ad : Nat → Nat) (M : MT) (i : Nat) (a : Int32) (s : Nat) (b : Int32) (hz : LawZ i) {ns : Nat} {rss : List (Option Nat)} (hs : ZB[s]? = some (5, ns, rss)) (ha : vp_in a 16) (hL : LwOk M i) : CtP l yX1_allHold cX1_allHold 6 (some .boolean) (rK 2) D cy X ad ZB M [.ref (ad i), .int a, .ref (ad s), .int b] (fun v M1 => ∃ r : Int32, v = some (.int r) ∧ (r = 0 ∨ r = 1) ∧ M1 = M) := by
  refine Ctr.of (by decide +kernel) (Nat.le_of_ble_eq_true rfl) ?_
  intro K f q hnm hl0 hD0 hy0 hX0
  show V K ad 0 0 ZB M 0 [(0, .ref (ad i)), (1, .int a), (2, .ref (ad s)), (3, .int b)] []
  have loop : ∀ (n : Nat) (x : Int32), 0 ≤ x.toInt → x.toInt + (n : Nat) = 1000 → V K ad 0 0 ZB M 9 [(5, .int x), (4, .int (a * 3)), (0, .ref (ad i)), (1, .int a), (2, .ref (ad s)), (3, .int b)] [] := by
    intro n
    induction n using Nat.strongRecOn with
    | ind n ih =>
      intro x x0 hx
      refine V_iload f dX1_allHold_9 0 rfl ?_
      refine V_iload f dX1_allHold_11 1 rfl ?_
      refine V_aload_n f dX1_allHold_13 2 rfl ?_
      refine V_getR f dX1_allHold_14 lf_1_43 rfl (zL hz) rfl ?_
      refine V_iload_n f dX1_allHold_17 3 rfl ?_
      refine V_ialdE (x := M (i + 5) (Int32.toNatClampNeg a)) f dX1_allHold_18 (zLa_5 hz) ha rfl ?_
      refine V_iadd f dX1_allHold_19 ?_
      refine V_icmp_ge (tgt := 42) f dX1_allHold_20 (by decide) (fun c1 => ?_) (fun c1 => ?_)
      · refine V_iconst (v := 1) f dX1_allHold_42 (by decide) ?_
        exact V_iret f q dX1_allHold_43 rfl (Nat.zero_le _) (Nat.zero_le _) ⟨rfl, rfl, 1, rfl, Or.inr rfl, rfl⟩
      · refine V_aload_n f dX1_allHold_23 2 rfl ?_
        refine V_iload f dX1_allHold_24 0 rfl ?_
        refine V_aload_n f dX1_allHold_26 4 rfl ?_
        refine V_iload_n f dX1_allHold_27 5 rfl ?_
        refine V_cVi (As := [.int x, .ref (ad s), .int b]) (rest := []) f dX1_allHold_28 lk_X1_72 ml_X1_72 ins_X1_holds sel_X1_holds (zL hz) (by decide) rfl (c_X1_holds (kl K) (kD K) (ky K) (kX K) ad M i x s b hz hs (ah2 ha (hL.2.2 _ (vlt ha)) x0 c1)) rfl (Nat.le_of_ble_eq_true rfl) rfl ⟨by decide, by decide⟩ ⟨Nat.zero_le _, Nat.zero_le _⟩ rfl rfl ?_
        refine V_if_ne (tgt := 36) f dX1_allHold_31 (by decide) (fun c2 => ?_) (fun c2 => ?_)
        · refine V_iinc (v := x + 1) f dX1_allHold_36 0 rfl rfl (by decide) rfl ?_
          refine V_goto (tgt := 9) f dX1_allHold_39 (by decide) ?_
          obtain ⟨k9, e9, y0, y1⟩ := ah3 ha (hL.2.2 _ (vlt ha)) x0 hx c1
          exact ih k9 (by omega) (x + 1) y0 y1
        · refine V_iconst (v := 0) f dX1_allHold_34 (by decide) ?_
          exact V_iret f q dX1_allHold_35 rfl (Nat.zero_le _) (Nat.zero_le _) ⟨rfl, rfl, 0, rfl, Or.inl rfl, rfl⟩
  refine V_iload_n f dX1_allHold_0 1 rfl ?_
  refine V_iconst (v := 3) f dX1_allHold_1 (by decide) ?_
  refine V_imul f dX1_allHold_2 ?_
  refine V_istore f dX1_allHold_3 (by decide) rfl ?_
  refine V_iload f dX1_allHold_5 0 rfl ?_
  refine V_istore f dX1_allHold_7 (by decide) rfl ?_
  exact loop (1000 - (a * 3).toInt.toNat) (a * 3) (by have := ah1 ha; omega) (by have := ah1 ha; omega)
set_option maxHeartbeats 4000000 in
set_option maxRecDepth 100000 in
theorem c3_X1_deedFor (l : Launch) (D : va_G) (cy : Nat → ClassId) (X : va_W) (ad : Nat → Nat) (M : MT) (i : Nat) (s : Nat) (b : Int32) (hz : LawZ i) {ns : Nat} {rss : List (Option Nat)} (hs : ZB[s]? = some (5, ns, rss)) (hL : LwOk M i) : CtP l yX1_deedFor cX1_deedFor 4 (some .int) (rK 3) D cy X ad ZB M [.ref (ad i), .ref (ad s), .int b] (fun v M1 => (∃ r : Int32, v = some (.int r)) ∧ M1 = M) := by
  refine Ctr.of (by decide +kernel) (Nat.le_of_ble_eq_true rfl) ?_
  intro K f q hnm hl0 hD0 hy0 hX0
  show V K ad 0 0 ZB M 0 [(0, .ref (ad i)), (1, .ref (ad s)), (2, .int b)] []
  have loop : ∀ (n : Nat) (x : Int32), 0 ≤ x.toInt → x.toInt + (n : Nat) = 1000 → V K ad 0 0 ZB M 2 [(3, .int x), (0, .ref (ad i)), (1, .ref (ad s)), (2, .int b)] [] := by
    intro n
    induction n using Nat.strongRecOn with
    | ind n ih =>
      intro x x0 hx
      refine V_iload_n f dX1_deedFor_2 0 rfl ?_
      refine V_aload_n f dX1_deedFor_3 1 rfl ?_
      refine V_getE (x := M i 9) f dX1_deedFor_4 lf_1_40 rfl (zL hz) rfl ?_
      refine V_icmp_ge (tgt := 33) f dX1_deedFor_7 (by decide) (fun c1 => ?_) (fun c1 => ?_)
      · refine V_bipush (v := 11) f dX1_deedFor_33 (by decide) ?_
        exact V_iret f q dX1_deedFor_35 rfl (Nat.zero_le _) (Nat.zero_le _) ⟨rfl, rfl, ⟨11, rfl⟩, rfl⟩
      · refine V_aload_n f dX1_deedFor_10 1 rfl ?_
        refine V_iload_n f dX1_deedFor_11 0 rfl ?_
        refine V_aload_n f dX1_deedFor_12 2 rfl ?_
        refine V_iload_n f dX1_deedFor_13 3 rfl ?_
        refine V_cVp (As := [.int x, .ref (ad s), .int b]) (rest := []) f dX1_deedFor_14 lk_X1_66 ml_X1_66 ins_X1_allHold sel_X1_allHold (zL hz) (by decide) rfl (c3_X1_allHold _ _ _ _ ad M i x s b hz hs (vinN x0 c1 hL.2.1.2) hL) rfl (Nat.le_of_ble_eq_true rfl) rfl ⟨by decide, by decide⟩ ⟨Nat.zero_le _, Nat.zero_le _⟩ rfl rfl (fun v2 Mx2 hp2 => ?_)
        obtain ⟨r2, rfl, hr2, e2⟩ := hp2
        rw [e2]
        show V K ad 0 0 ZB M 17 [(3, .int x), (0, .ref (ad i)), (1, .ref (ad s)), (2, .int b)] [.int r2]
        refine V_if_eq (tgt := 27) f dX1_deedFor_17 (by decide) (fun c3 => ?_) (fun c3 => ?_)
        · refine V_iinc (v := x + 1) f dX1_deedFor_27 0 rfl rfl (by decide) rfl ?_
          refine V_goto (tgt := 2) f dX1_deedFor_30 (by decide) ?_
          obtain ⟨k9, e9, y0, y1⟩ := lo_inc x0 hx c1 (by have := hL.2.1.2; omega)
          exact ih k9 (by omega) (x + 1) y0 y1
        · refine V_aload_n f dX1_deedFor_20 1 rfl ?_
          refine V_getR f dX1_deedFor_21 lf_1_46 rfl (zL hz) rfl ?_
          refine V_iload_n f dX1_deedFor_24 0 rfl ?_
          refine V_ialdE (x := M (i + 6) (Int32.toNatClampNeg x)) f dX1_deedFor_25 (zLa_6 hz) (vinN x0 c1 hL.2.1.2) rfl ?_
          exact V_iret f q dX1_deedFor_26 rfl (Nat.zero_le _) (Nat.zero_le _) ⟨rfl, rfl, ⟨(M (i + 6) (Int32.toNatClampNeg x)), rfl⟩, rfl⟩
  refine V_iconst (v := 0) f dX1_deedFor_0 (by decide) ?_
  refine V_istore_n f dX1_deedFor_1 rfl (by decide) rfl ?_
  exact loop 1000 0 (by decide) (by decide)

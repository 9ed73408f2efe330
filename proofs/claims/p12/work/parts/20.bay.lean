theorem sw_out {x : Int32} (lo hi : Int) (n : Nat) (l : List Int32) (hh : hi = lo + n - 1) (hl : l.map Int32.toInt = (List.range n).map (fun k : Nat => lo + k)) (h : ∀ y ∈ l, ¬ x = y) : x.toInt < lo ∨ hi < x.toInt := by
  by_cases h1 : x.toInt < lo
  · exact Or.inl h1
  · by_cases h2 : hi < x.toInt
    · exact Or.inr h2
    · have hm : x.toInt ∈ l.map Int32.toInt := by
        rw [hl, List.mem_map]
        exact ⟨(x.toInt - lo).toNat, List.mem_range.mpr (by omega), by omega⟩
      obtain ⟨y, hy, he⟩ := List.mem_map.mp hm
      exact absurd (Int32.toInt_inj.mp he.symm) (h y hy)
theorem vlt {i : Int32} {n : Nat} (h : vp_in i n) : i.toNatClampNeg < n := Nat.not_le.mp fun q => h (Or.inr q)
def s_X0_lies (M : MT) (i : Nat) : Int32 := (if (M i 1) = 0 then 0 else 1)
theorem b_X0_lies (M : MT) (i : Nat) : s_X0_lies M i = 0 ∨ s_X0_lies M i = 1 := by unfold s_X0_lies; first | (repeat' split) <;> simp | (repeat' split) <;> first | exact Or.inl rfl | exact Or.inr rfl | simp [*]
set_option maxHeartbeats 4000000 in
set_option maxRecDepth 100000 in
theorem c_X0_lies (l : Launch) (D : va_G) (cy : Nat → ClassId) (X : va_W) (ad : Nat → Nat) {Z : ZT} (M : MT) (i : Nat) {ni : Nat} {rsi : List (Option Nat)} (hi : Z[i]? = some (0, ni, rsi)) : CtI l yX0_lies cX0_lies 1 .boolean (rK 0) D cy X ad Z M [.ref (ad i)] (s_X0_lies M i) M := by
  refine Ctr.of (by decide +kernel) (Nat.le_of_ble_eq_true rfl) ?_
  intro K f q hnm hl0 hD0 hy0 hX0
  show V K ad 0 0 Z M 0 [(0, .ref (ad i))] []
  refine V_aload_n f dX0_lies_0 0 rfl ?_
  refine V_getE (x := M i 1) f dX0_lies_1 lf_0_15 rfl hi rfl ?_
  refine V_if_eq (tgt := 11) f dX0_lies_4 (by decide) (fun c1 => ?_) (fun c1 => ?_)
  · refine V_iconst (v := 0) f dX0_lies_11 (by decide) ?_
    exact V_iret f q dX0_lies_12 rfl (Nat.zero_le _) (Nat.zero_le _) ⟨rfl, rfl, (by simp only [s_X0_lies, if_pos c1]), rfl⟩
  · refine V_iconst (v := 1) f dX0_lies_7 (by decide) ?_
    refine V_goto (tgt := 12) f dX0_lies_8 (by decide) ?_
    exact V_iret f q dX0_lies_12 rfl (Nat.zero_le _) (Nat.zero_le _) ⟨rfl, rfl, (by simp only [s_X0_lies, if_neg c1]), rfl⟩
def s_X0_loosen (M : MT) (i : Nat) (a : Int32) : MT := (up2 (up2 (up2 (up2 M i 0 ((M i 0) - a)) i 2 (10 * a)) i 3 800) i 1 1)
set_option maxHeartbeats 4000000 in
set_option maxRecDepth 100000 in
theorem c_X0_loosen (l : Launch) (D : va_G) (cy : Nat → ClassId) (X : va_W) (ad : Nat → Nat) {Z : ZT} (M : MT) (i : Nat) (a : Int32) {ni : Nat} {rsi : List (Option Nat)} (hi : Z[i]? = some (0, ni, rsi)) : CtV l yX0_loosen cX0_loosen 2 (rK 0) D cy X ad Z M [.ref (ad i), .int a] (s_X0_loosen M i a) := by
  refine Ctr.of (by decide +kernel) (Nat.le_of_ble_eq_true rfl) ?_
  intro K f q hnm hl0 hD0 hy0 hX0
  show V K ad 0 0 Z M 0 [(0, .ref (ad i)), (1, .int a)] []
  refine V_aload_n f dX0_loosen_0 0 rfl ?_
  refine V_dup f dX0_loosen_1 rfl ?_
  refine V_getE (x := M i 0) f dX0_loosen_2 lf_0_9 rfl hi rfl ?_
  refine V_iload_n f dX0_loosen_5 1 rfl ?_
  refine V_isub f dX0_loosen_6 ?_
  refine V_putI f dX0_loosen_7 lf_0_9 lp_0_0 rfl rfl rfl rfl hi ?_
  refine V_aload_n f dX0_loosen_10 0 rfl ?_
  refine V_bipush (v := 10) f dX0_loosen_11 (by decide) ?_
  refine V_iload_n f dX0_loosen_13 1 rfl ?_
  refine V_imul f dX0_loosen_14 ?_
  refine V_putI f dX0_loosen_15 lf_0_18 lp_0_2 rfl rfl rfl rfl hi ?_
  refine V_aload_n f dX0_loosen_18 0 rfl ?_
  refine V_sipush (v := 800) f dX0_loosen_19 (by decide) ?_
  refine V_putI f dX0_loosen_22 lf_0_21 lp_0_3 rfl rfl rfl rfl hi ?_
  refine V_aload_n f dX0_loosen_25 0 rfl ?_
  refine V_iconst (v := 1) f dX0_loosen_26 (by decide) ?_
  refine V_putI f dX0_loosen_27 lf_0_15 lp_0_1 rfl rfl rfl rfl hi ?_
  exact V_vret f q dX0_loosen_30 (Nat.zero_le _) (Nat.zero_le _) ⟨rfl, rfl, rfl, (by simp only [s_X0_loosen])⟩
def s_X0_takesProbe (M : MT) (i : Nat) : Int32 := (if (s_X0_lies M i) = 0 then 0 else (if 8 ≤ (M i 4) then 0 else 1))
theorem b_X0_takesProbe (M : MT) (i : Nat) : s_X0_takesProbe M i = 0 ∨ s_X0_takesProbe M i = 1 := by unfold s_X0_takesProbe; first | (repeat' split) <;> simp | (repeat' split) <;> first | exact Or.inl rfl | exact Or.inr rfl | simp [*]
set_option maxHeartbeats 4000000 in
set_option maxRecDepth 100000 in
theorem c_X0_takesProbe (l : Launch) (D : va_G) (cy : Nat → ClassId) (X : va_W) (ad : Nat → Nat) {Z : ZT} (M : MT) (i : Nat) {ni : Nat} {rsi : List (Option Nat)} (hi : Z[i]? = some (0, ni, rsi)) : CtI l yX0_takesProbe cX0_takesProbe 1 .boolean (rK 1) D cy X ad Z M [.ref (ad i)] (s_X0_takesProbe M i) M := by
  refine Ctr.of (by decide +kernel) (Nat.le_of_ble_eq_true rfl) ?_
  intro K f q hnm hl0 hD0 hy0 hX0
  show V K ad 0 0 Z M 0 [(0, .ref (ad i))] []
  refine V_aload_n f dX0_takesProbe_0 0 rfl ?_
  refine V_cVi (As := []) (rest := []) f dX0_takesProbe_1 lk_X0_33 ml_X0_33 ins_X0_lies sel_X0_lies hi (by decide) rfl (c_X0_lies (kl K) (kD K) (ky K) (kX K) ad M i hi) rfl (Nat.le_of_ble_eq_true rfl) rfl ⟨by decide, by decide⟩ ⟨Nat.zero_le _, Nat.zero_le _⟩ rfl rfl ?_
  refine V_if_eq (tgt := 20) f dX0_takesProbe_4 (by decide) (fun c1 => ?_) (fun c1 => ?_)
  · refine V_iconst (v := 0) f dX0_takesProbe_20 (by decide) ?_
    exact V_iret f q dX0_takesProbe_21 rfl (Nat.zero_le _) (Nat.zero_le _) ⟨rfl, rfl, (by simp only [s_X0_takesProbe, if_pos c1]), rfl⟩
  · refine V_aload_n f dX0_takesProbe_7 0 rfl ?_
    refine V_getE (x := M i 4) f dX0_takesProbe_8 lf_0_24 rfl hi rfl ?_
    refine V_bipush (v := 8) f dX0_takesProbe_11 (by decide) ?_
    refine V_icmp_ge (tgt := 20) f dX0_takesProbe_13 (by decide) (fun c2 => ?_) (fun c2 => ?_)
    · refine V_iconst (v := 0) f dX0_takesProbe_20 (by decide) ?_
      exact V_iret f q dX0_takesProbe_21 rfl (Nat.zero_le _) (Nat.zero_le _) ⟨rfl, rfl, (by simp only [s_X0_takesProbe, if_neg c1, if_pos c2]), rfl⟩
    · refine V_iconst (v := 1) f dX0_takesProbe_16 (by decide) ?_
      refine V_goto (tgt := 21) f dX0_takesProbe_17 (by decide) ?_
      exact V_iret f q dX0_takesProbe_21 rfl (Nat.zero_le _) (Nat.zero_le _) ⟨rfl, rfl, (by simp only [s_X0_takesProbe, if_neg c1, if_neg c2]), rfl⟩
def s_X0_addProbe (M : MT) (i : Nat) (a : Int32) : Int32 × MT := ((M i 4) + 1, (up2 (up2 M i 5 (if (M i 5) < a then a else (M i 5))) i 4 ((M i 4) + 1)))
set_option maxHeartbeats 4000000 in
set_option maxRecDepth 100000 in
theorem c_X0_addProbe (l : Launch) (D : va_G) (cy : Nat → ClassId) (X : va_W) (ad : Nat → Nat) {Z : ZT} (M : MT) (i : Nat) (a : Int32) {ni : Nat} {rsi : List (Option Nat)} (hi : Z[i]? = some (0, ni, rsi)) : CtI l yX0_addProbe cX0_addProbe 2 .int (rK 1) D cy X ad Z M [.ref (ad i), .int a] (s_X0_addProbe M i a).1 (s_X0_addProbe M i a).2 := by
  refine Ctr.of (by decide +kernel) (Nat.le_of_ble_eq_true rfl) ?_
  intro K f q hnm hl0 hD0 hy0 hX0
  show V K ad 0 0 Z M 0 [(0, .ref (ad i)), (1, .int a)] []
  refine V_aload_n f dX0_addProbe_0 0 rfl ?_
  refine V_aload_n f dX0_addProbe_1 0 rfl ?_
  refine V_getE (x := M i 5) f dX0_addProbe_2 lf_0_27 rfl hi rfl ?_
  refine V_iload_n f dX0_addProbe_5 1 rfl ?_
  refine V_mmax f dX0_addProbe_6 ml_X0_37 ma_max ma_ini mc_max (by decide) (Nat.le_of_ble_eq_true rfl) (Nat.zero_le _) (Nat.zero_le _) ?_
  refine V_putI f dX0_addProbe_9 lf_0_27 lp_0_5 rfl rfl rfl rfl hi ?_
  refine V_aload_n f dX0_addProbe_12 0 rfl ?_
  refine V_dup f dX0_addProbe_13 rfl ?_
  refine V_getE (x := M i 4) f dX0_addProbe_14 lf_0_24 rfl hi (up_k (by decide) rfl) ?_
  refine V_iconst (v := 1) f dX0_addProbe_17 (by decide) ?_
  refine V_iadd f dX0_addProbe_18 ?_
  refine V_putI f dX0_addProbe_19 lf_0_24 lp_0_4 rfl rfl rfl rfl hi ?_
  refine V_aload_n f dX0_addProbe_22 0 rfl ?_
  refine V_getE (x := (M i 4) + 1) f dX0_addProbe_23 lf_0_24 rfl hi up_s ?_
  exact V_iret f q dX0_addProbe_26 rfl (Nat.zero_le _) (Nat.zero_le _) ⟨rfl, rfl, (by simp only [s_X0_addProbe]), (by simp only [s_X0_addProbe])⟩
def s_X0_clear (M : MT) (i : Nat) : MT := (up2 (up2 (up2 (up2 M i 6 ((M i 6) + (M i 2))) i 1 0) i 2 0) i 3 0)
set_option maxHeartbeats 4000000 in
set_option maxRecDepth 100000 in
theorem c_X0_clear (l : Launch) (D : va_G) (cy : Nat → ClassId) (X : va_W) (ad : Nat → Nat) {Z : ZT} (M : MT) (i : Nat) {ni : Nat} {rsi : List (Option Nat)} (hi : Z[i]? = some (0, ni, rsi)) : CtV l yX0_clear cX0_clear 1 (rK 0) D cy X ad Z M [.ref (ad i)] (s_X0_clear M i) := by
  refine Ctr.of (by decide +kernel) (Nat.le_of_ble_eq_true rfl) ?_
  intro K f q hnm hl0 hD0 hy0 hX0
  show V K ad 0 0 Z M 0 [(0, .ref (ad i))] []
  refine V_aload_n f dX0_clear_0 0 rfl ?_
  refine V_dup f dX0_clear_1 rfl ?_
  refine V_getE (x := M i 6) f dX0_clear_2 lf_0_30 rfl hi rfl ?_
  refine V_aload_n f dX0_clear_5 0 rfl ?_
  refine V_getE (x := M i 2) f dX0_clear_6 lf_0_18 rfl hi rfl ?_
  refine V_iadd f dX0_clear_9 ?_
  refine V_putI f dX0_clear_10 lf_0_30 lp_0_6 rfl rfl rfl rfl hi ?_
  refine V_aload_n f dX0_clear_13 0 rfl ?_
  refine V_iconst (v := 0) f dX0_clear_14 (by decide) ?_
  refine V_putI f dX0_clear_15 lf_0_15 lp_0_1 rfl rfl rfl rfl hi ?_
  refine V_aload_n f dX0_clear_18 0 rfl ?_
  refine V_iconst (v := 0) f dX0_clear_19 (by decide) ?_
  refine V_putI f dX0_clear_20 lf_0_18 lp_0_2 rfl rfl rfl rfl hi ?_
  refine V_aload_n f dX0_clear_23 0 rfl ?_
  refine V_iconst (v := 0) f dX0_clear_24 (by decide) ?_
  refine V_putI f dX0_clear_25 lf_0_21 lp_0_3 rfl rfl rfl rfl hi ?_
  exact V_vret f q dX0_clear_28 (Nat.zero_le _) (Nat.zero_le _) ⟨rfl, rfl, rfl, (by simp only [s_X0_clear])⟩
def s_X0_tellOf (M : MT) (i : Nat) (a : Int32) : Int32 := (if a = 0 then (M i 0) else (if a = 1 then (M i 1) else (if a = 2 then (M i 2) else (if a = 3 then (M i 3) else (if a = 4 then (M i 4) else (if a = 5 then (M i 5) else (if a = 6 then (M i 6) else (-1))))))))
set_option maxHeartbeats 4000000 in
set_option maxRecDepth 100000 in
theorem c_X0_tellOf (l : Launch) (D : va_G) (cy : Nat → ClassId) (X : va_W) (ad : Nat → Nat) {Z : ZT} (M : MT) (i : Nat) (a : Int32) {ni : Nat} {rsi : List (Option Nat)} (hi : Z[i]? = some (0, ni, rsi)) : CtI l yX0_tellOf cX0_tellOf 2 .int (rK 0) D cy X ad Z M [.ref (ad i), .int a] (s_X0_tellOf M i a) M := by
  refine Ctr.of (by decide +kernel) (Nat.le_of_ble_eq_true rfl) ?_
  intro K f q hnm hl0 hD0 hy0 hX0
  show V K ad 0 0 Z M 0 [(0, .ref (ad i)), (1, .int a)] []
  refine V_iload_n f dX0_tellOf_0 1 rfl ?_
  rcases Decidable.em (a = 0) with c1 | c1
  · refine V_tableIn (off := 43) (tgt := 44) f dX0_tellOf_1 (by rw [c1]; decide) (by rw [c1]; decide) (by rw [c1]; decide) (by decide) ?_
    refine V_aload_n f dX0_tellOf_44 0 rfl ?_
    refine V_getE (x := M i 0) f dX0_tellOf_45 lf_0_9 rfl hi rfl ?_
    exact V_iret f q dX0_tellOf_48 rfl (Nat.zero_le _) (Nat.zero_le _) ⟨rfl, rfl, (by simp only [s_X0_tellOf, if_pos c1]), rfl⟩
  rcases Decidable.em (a = 1) with c2 | c2
  · refine V_tableIn (off := 48) (tgt := 49) f dX0_tellOf_1 (by rw [c2]; decide) (by rw [c2]; decide) (by rw [c2]; decide) (by decide) ?_
    refine V_aload_n f dX0_tellOf_49 0 rfl ?_
    refine V_getE (x := M i 1) f dX0_tellOf_50 lf_0_15 rfl hi rfl ?_
    exact V_iret f q dX0_tellOf_53 rfl (Nat.zero_le _) (Nat.zero_le _) ⟨rfl, rfl, (by simp only [s_X0_tellOf, if_neg c1, if_pos c2]), rfl⟩
  rcases Decidable.em (a = 2) with c3 | c3
  · refine V_tableIn (off := 53) (tgt := 54) f dX0_tellOf_1 (by rw [c3]; decide) (by rw [c3]; decide) (by rw [c3]; decide) (by decide) ?_
    refine V_aload_n f dX0_tellOf_54 0 rfl ?_
    refine V_getE (x := M i 2) f dX0_tellOf_55 lf_0_18 rfl hi rfl ?_
    exact V_iret f q dX0_tellOf_58 rfl (Nat.zero_le _) (Nat.zero_le _) ⟨rfl, rfl, (by simp only [s_X0_tellOf, if_neg c1, if_neg c2, if_pos c3]), rfl⟩
  rcases Decidable.em (a = 3) with c4 | c4
  · refine V_tableIn (off := 58) (tgt := 59) f dX0_tellOf_1 (by rw [c4]; decide) (by rw [c4]; decide) (by rw [c4]; decide) (by decide) ?_
    refine V_aload_n f dX0_tellOf_59 0 rfl ?_
    refine V_getE (x := M i 3) f dX0_tellOf_60 lf_0_21 rfl hi rfl ?_
    exact V_iret f q dX0_tellOf_63 rfl (Nat.zero_le _) (Nat.zero_le _) ⟨rfl, rfl, (by simp only [s_X0_tellOf, if_neg c1, if_neg c2, if_neg c3, if_pos c4]), rfl⟩
  rcases Decidable.em (a = 4) with c5 | c5
  · refine V_tableIn (off := 63) (tgt := 64) f dX0_tellOf_1 (by rw [c5]; decide) (by rw [c5]; decide) (by rw [c5]; decide) (by decide) ?_
    refine V_aload_n f dX0_tellOf_64 0 rfl ?_
    refine V_getE (x := M i 4) f dX0_tellOf_65 lf_0_24 rfl hi rfl ?_
    exact V_iret f q dX0_tellOf_68 rfl (Nat.zero_le _) (Nat.zero_le _) ⟨rfl, rfl, (by simp only [s_X0_tellOf, if_neg c1, if_neg c2, if_neg c3, if_neg c4, if_pos c5]), rfl⟩
  rcases Decidable.em (a = 5) with c6 | c6
  · refine V_tableIn (off := 68) (tgt := 69) f dX0_tellOf_1 (by rw [c6]; decide) (by rw [c6]; decide) (by rw [c6]; decide) (by decide) ?_
    refine V_aload_n f dX0_tellOf_69 0 rfl ?_
    refine V_getE (x := M i 5) f dX0_tellOf_70 lf_0_27 rfl hi rfl ?_
    exact V_iret f q dX0_tellOf_73 rfl (Nat.zero_le _) (Nat.zero_le _) ⟨rfl, rfl, (by simp only [s_X0_tellOf, if_neg c1, if_neg c2, if_neg c3, if_neg c4, if_neg c5, if_pos c6]), rfl⟩
  rcases Decidable.em (a = 6) with c7 | c7
  · refine V_tableIn (off := 73) (tgt := 74) f dX0_tellOf_1 (by rw [c7]; decide) (by rw [c7]; decide) (by rw [c7]; decide) (by decide) ?_
    refine V_aload_n f dX0_tellOf_74 0 rfl ?_
    refine V_getE (x := M i 6) f dX0_tellOf_75 lf_0_30 rfl hi rfl ?_
    exact V_iret f q dX0_tellOf_78 rfl (Nat.zero_le _) (Nat.zero_le _) ⟨rfl, rfl, (by simp only [s_X0_tellOf, if_neg c1, if_neg c2, if_neg c3, if_neg c4, if_neg c5, if_neg c6, if_pos c7]), rfl⟩
  refine V_tableOut (tgt := 79) f dX0_tellOf_1 (sw_out 0 6 7 [0, 1, 2, 3, 4, 5, 6] (by decide) (by decide) (List.forall_mem_cons.mpr ⟨c1, (List.forall_mem_cons.mpr ⟨c2, (List.forall_mem_cons.mpr ⟨c3, (List.forall_mem_cons.mpr ⟨c4, (List.forall_mem_cons.mpr ⟨c5, (List.forall_mem_cons.mpr ⟨c6, (List.forall_mem_cons.mpr ⟨c7, (fun _ h => absurd h List.not_mem_nil)⟩)⟩)⟩)⟩)⟩)⟩)⟩)) (by decide) ?_
  refine V_iconst (v := (-1)) f dX0_tellOf_79 (by decide) ?_
  exact V_iret f q dX0_tellOf_80 rfl (Nat.zero_le _) (Nat.zero_le _) ⟨rfl, rfl, (by simp only [s_X0_tellOf, if_neg c1, if_neg c2, if_neg c3, if_neg c4, if_neg c5, if_neg c6, if_neg c7]), rfl⟩

set_option maxHeartbeats 4000000 in
set_option maxRecDepth 100000 in
theorem n_X0_init (l : Launch) (D : va_G) (cy : Nat → ClassId) (X : va_W) (ad : Nat → Nat) (Z : ZT) (M : MT) (i : Nat) {zn : Nat} {rs : List (Option Nat)} (hi : Z[i]? = some (0, zn, rs)) : CtN l yX0_init cX0_init 1 { frames := 1, cells := 0, slots := 0, locals := 12 } D cy X ad Z M [.ref (ad i)] Z (fun M1 => (M1 i 0 = 1000 ∧ M1 i 1 = 0 ∧ M1 i 2 = 0 ∧ M1 i 3 = 0 ∧ M1 i 4 = 0 ∧ M1 i 5 = (-1) ∧ M1 i 6 = 0) ∧ ∀ j, ¬ j = i → M1 j = M j) := by
  refine Ctr.of (by decide +kernel) (Nat.le_of_ble_eq_true rfl) ?_
  intro K f q hnm hl0 hD0 hy0 hX0
  show V K ad 0 0 Z M 0 [(0, .ref (ad i))] []
  refine V_aload_n f dX0_init_0 0 rfl ?_
  refine V_objInit f dX0_init_1 ml_X0_3 oi_ins oi_code (by decide) (Nat.le_of_ble_eq_true rfl) ?_
  refine V_aload_n f dX0_init_4 0 rfl ?_
  refine V_sipush (v := 1000) f dX0_init_5 (by decide) ?_
  refine V_putI f dX0_init_8 lf_0_9 lp_0_0 rfl rfl rfl rfl hi ?_
  refine V_aload_n f dX0_init_11 0 rfl ?_
  refine V_iconst (v := 0) f dX0_init_12 (by decide) ?_
  refine V_putI f dX0_init_13 lf_0_15 lp_0_1 rfl rfl rfl rfl hi ?_
  refine V_aload_n f dX0_init_16 0 rfl ?_
  refine V_iconst (v := 0) f dX0_init_17 (by decide) ?_
  refine V_putI f dX0_init_18 lf_0_18 lp_0_2 rfl rfl rfl rfl hi ?_
  refine V_aload_n f dX0_init_21 0 rfl ?_
  refine V_iconst (v := 0) f dX0_init_22 (by decide) ?_
  refine V_putI f dX0_init_23 lf_0_21 lp_0_3 rfl rfl rfl rfl hi ?_
  refine V_aload_n f dX0_init_26 0 rfl ?_
  refine V_iconst (v := 0) f dX0_init_27 (by decide) ?_
  refine V_putI f dX0_init_28 lf_0_24 lp_0_4 rfl rfl rfl rfl hi ?_
  refine V_aload_n f dX0_init_31 0 rfl ?_
  refine V_iconst (v := (-1)) f dX0_init_32 (by decide) ?_
  refine V_putI f dX0_init_33 lf_0_27 lp_0_5 rfl rfl rfl rfl hi ?_
  refine V_aload_n f dX0_init_36 0 rfl ?_
  refine V_iconst (v := 0) f dX0_init_37 (by decide) ?_
  refine V_putI f dX0_init_38 lf_0_30 lp_0_6 rfl rfl rfl rfl hi ?_
  exact V_vret f q dX0_init_41 (Nat.zero_le _) (Nat.zero_le _) ⟨rfl, fun _ _ => rfl, rfl, by simp [up2, va_up], fun j hj => by simp [up2, va_up, hj]⟩
set_option maxHeartbeats 4000000 in
set_option maxRecDepth 100000 in
theorem n_X5_init (l : Launch) (D : va_G) (cy : Nat → ClassId) (X : va_W) (ad : Nat → Nat) (Z : ZT) (M : MT) (i : Nat) {zn : Nat} {rs : List (Option Nat)} (hi : Z[i]? = some (5, zn, rs)) : CtN l yX5_init cX5_init 1 { frames := 1, cells := 0, slots := 0, locals := 12 } D cy X ad Z M [.ref (ad i)] Z (fun M1 => (M1 i 0 = 0 ∧ M1 i 1 = 0 ∧ M1 i 2 = 10 ∧ M1 i 3 = (-1) ∧ M1 i 4 = 0 ∧ M1 i 5 = 0 ∧ M1 i 6 = (-1) ∧ M1 i 7 = 0 ∧ M1 i 8 = 0) ∧ ∀ j, ¬ j = i → M1 j = M j) := by
  refine Ctr.of (by decide +kernel) (Nat.le_of_ble_eq_true rfl) ?_
  intro K f q hnm hl0 hD0 hy0 hX0
  show V K ad 0 0 Z M 0 [(0, .ref (ad i))] []
  refine V_aload_n f dX5_init_0 0 rfl ?_
  refine V_objInit f dX5_init_1 ml_X5_3 oi_ins oi_code (by decide) (Nat.le_of_ble_eq_true rfl) ?_
  refine V_aload_n f dX5_init_4 0 rfl ?_
  refine V_iconst (v := 0) f dX5_init_5 (by decide) ?_
  refine V_putI f dX5_init_6 lf_5_9 lp_5_0 rfl rfl rfl rfl hi ?_
  refine V_aload_n f dX5_init_9 0 rfl ?_
  refine V_iconst (v := 0) f dX5_init_10 (by decide) ?_
  refine V_putI f dX5_init_11 lf_5_15 lp_5_1 rfl rfl rfl rfl hi ?_
  refine V_aload_n f dX5_init_14 0 rfl ?_
  refine V_bipush (v := 10) f dX5_init_15 (by decide) ?_
  refine V_putI f dX5_init_17 lf_5_18 lp_5_2 rfl rfl rfl rfl hi ?_
  refine V_aload_n f dX5_init_20 0 rfl ?_
  refine V_iconst (v := (-1)) f dX5_init_21 (by decide) ?_
  refine V_putI f dX5_init_22 lf_5_21 lp_5_3 rfl rfl rfl rfl hi ?_
  refine V_aload_n f dX5_init_25 0 rfl ?_
  refine V_iconst (v := 0) f dX5_init_26 (by decide) ?_
  refine V_putI f dX5_init_27 lf_5_24 lp_5_4 rfl rfl rfl rfl hi ?_
  refine V_aload_n f dX5_init_30 0 rfl ?_
  refine V_iconst (v := 0) f dX5_init_31 (by decide) ?_
  refine V_putI f dX5_init_32 lf_5_28 lp_5_5 rfl rfl rfl rfl hi ?_
  refine V_aload_n f dX5_init_35 0 rfl ?_
  refine V_iconst (v := (-1)) f dX5_init_36 (by decide) ?_
  refine V_putI f dX5_init_37 lf_5_31 lp_5_6 rfl rfl rfl rfl hi ?_
  refine V_aload_n f dX5_init_40 0 rfl ?_
  refine V_iconst (v := 0) f dX5_init_41 (by decide) ?_
  refine V_putI f dX5_init_42 lf_5_34 lp_5_7 rfl rfl rfl rfl hi ?_
  refine V_aload_n f dX5_init_45 0 rfl ?_
  refine V_iconst (v := 0) f dX5_init_46 (by decide) ?_
  refine V_putI f dX5_init_47 lf_5_37 lp_5_8 rfl rfl rfl rfl hi ?_
  exact V_vret f q dX5_init_50 (Nat.zero_le _) (Nat.zero_le _) ⟨rfl, fun _ _ => rfl, rfl, by simp [up2, va_up], fun j hj => by simp [up2, va_up, hj]⟩
set_option maxHeartbeats 4000000 in
set_option maxRecDepth 100000 in
theorem n_X4_init (l : Launch) (D : va_G) (cy : Nat → ClassId) (X : va_W) (ad : Nat → Nat) (Z : ZT) (M : MT) (i : Nat) {zn : Nat} {rs : List (Option Nat)} (hi : Z[i]? = some (4, zn, rs)) : CtN l yX4_init cX4_init 1 { frames := 1, cells := 0, slots := 0, locals := 12 } D cy X ad Z M [.ref (ad i)] Z (fun M1 => (M1 i 0 = 0 ∧ M1 i 1 = 0 ∧ M1 i 2 = 0 ∧ M1 i 3 = 0 ∧ M1 i 4 = 0) ∧ ∀ j, ¬ j = i → M1 j = M j) := by
  refine Ctr.of (by decide +kernel) (Nat.le_of_ble_eq_true rfl) ?_
  intro K f q hnm hl0 hD0 hy0 hX0
  show V K ad 0 0 Z M 0 [(0, .ref (ad i))] []
  refine V_aload_n f dX4_init_0 0 rfl ?_
  refine V_objInit f dX4_init_1 ml_X4_1 oi_ins oi_code (by decide) (Nat.le_of_ble_eq_true rfl) ?_
  refine V_aload_n f dX4_init_4 0 rfl ?_
  refine V_iconst (v := 0) f dX4_init_5 (by decide) ?_
  refine V_putI f dX4_init_6 lf_4_7 lp_4_0 rfl rfl rfl rfl hi ?_
  refine V_aload_n f dX4_init_9 0 rfl ?_
  refine V_iconst (v := 0) f dX4_init_10 (by decide) ?_
  refine V_putI f dX4_init_11 lf_4_13 lp_4_1 rfl rfl rfl rfl hi ?_
  refine V_aload_n f dX4_init_14 0 rfl ?_
  refine V_iconst (v := 0) f dX4_init_15 (by decide) ?_
  refine V_putI f dX4_init_16 lf_4_16 lp_4_2 rfl rfl rfl rfl hi ?_
  refine V_aload_n f dX4_init_19 0 rfl ?_
  refine V_iconst (v := 0) f dX4_init_20 (by decide) ?_
  refine V_putI f dX4_init_21 lf_4_19 lp_4_3 rfl rfl rfl rfl hi ?_
  refine V_aload_n f dX4_init_24 0 rfl ?_
  refine V_iconst (v := 0) f dX4_init_25 (by decide) ?_
  refine V_putI f dX4_init_26 lf_4_22 lp_4_4 rfl rfl rfl rfl hi ?_
  exact V_vret f q dX4_init_29 (Nat.zero_le _) (Nat.zero_le _) ⟨rfl, fun _ _ => rfl, rfl, by simp [up2, va_up], fun j hj => by simp [up2, va_up, hj]⟩
set_option maxHeartbeats 4000000 in
set_option maxRecDepth 100000 in
theorem n_X1_init (l : Launch) (D : va_G) (cy : Nat → ClassId) (X : va_W) (ad : Nat → Nat) (Zp : ZT) (M : MT) (n : Nat) (hn : Zp.length = n) : CtN l yX1_init cX1_init 1 { frames := 1, cells := 9, slots := 240, locals := 12 } D cy X ad (Zp ++ [(1, 0, List.replicate 15 none)]) M [.ref (ad n)] (Zp ++ [(1, 0, [none, none, none, none, none, some (n + 1), some (n + 2), some (n + 3), some (n + 4), none, some (n + 5), some (n + 6), some (n + 7), some (n + 8), some (n + 9)]), (11, 16, []), (11, 16, []), (11, 16, []), (11, 16, []), (11, 16, []), (11, 16, []), (11, 48, []), (11, 48, []), (11, 48, [])]) (fun M1 => ((M1 n 0 = -1 ∧ M1 n 2 = 550 ∧ M1 n 3 = 0 ∧ M1 n 4 = 0) ∧ M1 n 9 = 0 ∧ M1 (n + 5) = (fun _ => 0)) ∧ ∀ j, j < n → M1 j = M j) := by
  refine Ctr.of (by decide +kernel) (Nat.le_of_ble_eq_true rfl) ?_
  intro K f q hnm hl0 hD0 hy0 hX0
  show V K ad 0 0 (Zp ++ [(1, 0, [none, none, none, none, none, none, none, none, none, none, none, none, none, none, none])]) M 0 [(0, .ref (ad n))] []
  refine V_aload_n f dX1_init_0 0 rfl ?_
  refine V_objInit f dX1_init_1 ml_X1_3 oi_ins oi_code (by decide) (Nat.le_of_ble_eq_true rfl) ?_
  refine V_aload_n f dX1_init_4 0 rfl ?_
  refine V_iconst (v := (-1)) f dX1_init_5 (by decide) ?_
  refine V_putI f dX1_init_6 lf_1_9 lp_1_0 rfl rfl rfl rfl (zpa (k := 0) hn rfl) ?_
  refine V_aload_n f dX1_init_9 0 rfl ?_
  refine V_iconst (v := 0) f dX1_init_10 (by decide) ?_
  refine V_putI f dX1_init_11 lf_1_15 lp_1_1 rfl rfl rfl rfl (zpa (k := 0) hn rfl) ?_
  refine V_aload_n f dX1_init_14 0 rfl ?_
  refine V_sipush (v := 550) f dX1_init_15 (by decide) ?_
  refine V_putI f dX1_init_18 lf_1_18 lp_1_2 rfl rfl rfl rfl (zpa (k := 0) hn rfl) ?_
  refine V_aload_n f dX1_init_21 0 rfl ?_
  refine V_iconst (v := 0) f dX1_init_22 (by decide) ?_
  refine V_putI f dX1_init_23 lf_1_21 lp_1_3 rfl rfl rfl rfl (zpa (k := 0) hn rfl) ?_
  refine V_aload_n f dX1_init_26 0 rfl ?_
  refine V_iconst (v := 0) f dX1_init_27 (by decide) ?_
  refine V_putI f dX1_init_28 lf_1_24 lp_1_4 rfl rfl rfl rfl (zpa (k := 0) hn rfl) ?_
  refine V_aload_n f dX1_init_31 0 rfl ?_
  refine V_bipush (v := 16) f dX1_init_32 (by decide) ?_
  refine V_newaF (t0 := 1) (ci := 11) (ty := .int) (N := 16) (n := (n + 1)) (Z1 := (Zp ++ [(1, 0, [none, none, none, none, none, none, none, none, none, none, none, none, none, none, none]), (11, 16, [])])) (lvF := fun ad => [(0, .ref (ad n))]) (stF := fun ad => [.ref (ad n)]) f dX1_init_34 ac_int rfl (by decide) (by decide) (fun _ => rfl) (fun _ h => by cases h) (fun _ => rfl) (by decide) (by decide) (by decide) (by decide) (by decide) (zpl hn rfl) (by rw [List.append_assoc]; rfl) (fun a h => ⟨by simp only [h n (by omega)], by simp only [h n (by omega)]⟩) (fun ad1 ag1 => ?_)
  refine V_putFp (Z1 := (Zp ++ [(1, 0, [none, none, none, none, none, some (n + 1), none, none, none, none, none, none, none, none, none]), (11, 16, [])])) (n := (n + 2)) f dX1_init_36 lf_1_27 lp_1_5 rfl hnm rfl rfl rfl rfl (zpl hn rfl) (by omega) (zpa (k := 0) hn rfl) (Nat.le_of_ble_eq_true rfl) (zps (j := 0) hn rfl) ?_
  refine V_aload_n f dX1_init_39 0 rfl ?_
  refine V_bipush (v := 16) f dX1_init_40 (by decide) ?_
  refine V_newaF (t0 := 1) (ci := 11) (ty := .int) (N := 16) (n := (n + 2)) (Z1 := (Zp ++ [(1, 0, [none, none, none, none, none, some (n + 1), none, none, none, none, none, none, none, none, none]), (11, 16, []), (11, 16, [])])) (lvF := fun ad => [(0, .ref (ad n))]) (stF := fun ad => [.ref (ad n)]) f dX1_init_42 ac_int rfl (by decide) (by decide) (fun _ => rfl) (fun _ h => by cases h) (fun _ => rfl) (by decide) (by decide) (by decide) (by decide) (by decide) (zpl hn rfl) (by rw [List.append_assoc]; rfl) (fun a h => ⟨by simp only [h n (by omega)], by simp only [h n (by omega)]⟩) (fun ad2 ag2 => ?_)
  refine V_putFp (Z1 := (Zp ++ [(1, 0, [none, none, none, none, none, some (n + 1), some (n + 2), none, none, none, none, none, none, none, none]), (11, 16, []), (11, 16, [])])) (n := (n + 3)) f dX1_init_44 lf_1_31 lp_1_6 rfl hnm rfl rfl rfl rfl (zpl hn rfl) (by omega) (zpa (k := 0) hn rfl) (Nat.le_of_ble_eq_true rfl) (zps (j := 0) hn rfl) ?_
  refine V_aload_n f dX1_init_47 0 rfl ?_
  refine V_bipush (v := 16) f dX1_init_48 (by decide) ?_
  refine V_newaF (t0 := 1) (ci := 11) (ty := .int) (N := 16) (n := (n + 3)) (Z1 := (Zp ++ [(1, 0, [none, none, none, none, none, some (n + 1), some (n + 2), none, none, none, none, none, none, none, none]), (11, 16, []), (11, 16, []), (11, 16, [])])) (lvF := fun ad => [(0, .ref (ad n))]) (stF := fun ad => [.ref (ad n)]) f dX1_init_50 ac_int rfl (by decide) (by decide) (fun _ => rfl) (fun _ h => by cases h) (fun _ => rfl) (by decide) (by decide) (by decide) (by decide) (by decide) (zpl hn rfl) (by rw [List.append_assoc]; rfl) (fun a h => ⟨by simp only [h n (by omega)], by simp only [h n (by omega)]⟩) (fun ad3 ag3 => ?_)
  refine V_putFp (Z1 := (Zp ++ [(1, 0, [none, none, none, none, none, some (n + 1), some (n + 2), some (n + 3), none, none, none, none, none, none, none]), (11, 16, []), (11, 16, []), (11, 16, [])])) (n := (n + 4)) f dX1_init_52 lf_1_34 lp_1_7 rfl hnm rfl rfl rfl rfl (zpl hn rfl) (by omega) (zpa (k := 0) hn rfl) (Nat.le_of_ble_eq_true rfl) (zps (j := 0) hn rfl) ?_
  refine V_aload_n f dX1_init_55 0 rfl ?_
  refine V_bipush (v := 16) f dX1_init_56 (by decide) ?_
  refine V_newaF (t0 := 1) (ci := 11) (ty := .int) (N := 16) (n := (n + 4)) (Z1 := (Zp ++ [(1, 0, [none, none, none, none, none, some (n + 1), some (n + 2), some (n + 3), none, none, none, none, none, none, none]), (11, 16, []), (11, 16, []), (11, 16, []), (11, 16, [])])) (lvF := fun ad => [(0, .ref (ad n))]) (stF := fun ad => [.ref (ad n)]) f dX1_init_58 ac_int rfl (by decide) (by decide) (fun _ => rfl) (fun _ h => by cases h) (fun _ => rfl) (by decide) (by decide) (by decide) (by decide) (by decide) (zpl hn rfl) (by rw [List.append_assoc]; rfl) (fun a h => ⟨by simp only [h n (by omega)], by simp only [h n (by omega)]⟩) (fun ad4 ag4 => ?_)
  refine V_putFp (Z1 := (Zp ++ [(1, 0, [none, none, none, none, none, some (n + 1), some (n + 2), some (n + 3), some (n + 4), none, none, none, none, none, none]), (11, 16, []), (11, 16, []), (11, 16, []), (11, 16, [])])) (n := (n + 5)) f dX1_init_60 lf_1_37 lp_1_8 rfl hnm rfl rfl rfl rfl (zpl hn rfl) (by omega) (zpa (k := 0) hn rfl) (Nat.le_of_ble_eq_true rfl) (zps (j := 0) hn rfl) ?_
  refine V_aload_n f dX1_init_63 0 rfl ?_
  refine V_iconst (v := 0) f dX1_init_64 (by decide) ?_
  refine V_putI f dX1_init_65 lf_1_40 lp_1_9 rfl rfl rfl rfl (zpa (k := 0) hn rfl) ?_
  refine V_aload_n f dX1_init_68 0 rfl ?_
  refine V_bipush (v := 16) f dX1_init_69 (by decide) ?_
  refine V_newaF (t0 := 1) (ci := 11) (ty := .int) (N := 16) (n := (n + 5)) (Z1 := (Zp ++ [(1, 0, [none, none, none, none, none, some (n + 1), some (n + 2), some (n + 3), some (n + 4), none, none, none, none, none, none]), (11, 16, []), (11, 16, []), (11, 16, []), (11, 16, []), (11, 16, [])])) (lvF := fun ad => [(0, .ref (ad n))]) (stF := fun ad => [.ref (ad n)]) f dX1_init_71 ac_int rfl (by decide) (by decide) (fun _ => rfl) (fun _ h => by cases h) (fun _ => rfl) (by decide) (by decide) (by decide) (by decide) (by decide) (zpl hn rfl) (by rw [List.append_assoc]; rfl) (fun a h => ⟨by simp only [h n (by omega)], by simp only [h n (by omega)]⟩) (fun ad5 ag5 => ?_)
  refine V_putFp (Z1 := (Zp ++ [(1, 0, [none, none, none, none, none, some (n + 1), some (n + 2), some (n + 3), some (n + 4), none, some (n + 5), none, none, none, none]), (11, 16, []), (11, 16, []), (11, 16, []), (11, 16, []), (11, 16, [])])) (n := (n + 6)) f dX1_init_73 lf_1_43 lp_1_10 rfl hnm rfl rfl rfl rfl (zpl hn rfl) (by omega) (zpa (k := 0) hn rfl) (Nat.le_of_ble_eq_true rfl) (zps (j := 0) hn rfl) ?_
  refine V_aload_n f dX1_init_76 0 rfl ?_
  refine V_bipush (v := 16) f dX1_init_77 (by decide) ?_
  refine V_newaF (t0 := 1) (ci := 11) (ty := .int) (N := 16) (n := (n + 6)) (Z1 := (Zp ++ [(1, 0, [none, none, none, none, none, some (n + 1), some (n + 2), some (n + 3), some (n + 4), none, some (n + 5), none, none, none, none]), (11, 16, []), (11, 16, []), (11, 16, []), (11, 16, []), (11, 16, []), (11, 16, [])])) (lvF := fun ad => [(0, .ref (ad n))]) (stF := fun ad => [.ref (ad n)]) f dX1_init_79 ac_int rfl (by decide) (by decide) (fun _ => rfl) (fun _ h => by cases h) (fun _ => rfl) (by decide) (by decide) (by decide) (by decide) (by decide) (zpl hn rfl) (by rw [List.append_assoc]; rfl) (fun a h => ⟨by simp only [h n (by omega)], by simp only [h n (by omega)]⟩) (fun ad6 ag6 => ?_)
  refine V_putFp (Z1 := (Zp ++ [(1, 0, [none, none, none, none, none, some (n + 1), some (n + 2), some (n + 3), some (n + 4), none, some (n + 5), some (n + 6), none, none, none]), (11, 16, []), (11, 16, []), (11, 16, []), (11, 16, []), (11, 16, []), (11, 16, [])])) (n := (n + 7)) f dX1_init_81 lf_1_46 lp_1_11 rfl hnm rfl rfl rfl rfl (zpl hn rfl) (by omega) (zpa (k := 0) hn rfl) (Nat.le_of_ble_eq_true rfl) (zps (j := 0) hn rfl) ?_
  refine V_aload_n f dX1_init_84 0 rfl ?_
  refine V_bipush (v := 48) f dX1_init_85 (by decide) ?_
  refine V_newaF (t0 := 1) (ci := 11) (ty := .int) (N := 48) (n := (n + 7)) (Z1 := (Zp ++ [(1, 0, [none, none, none, none, none, some (n + 1), some (n + 2), some (n + 3), some (n + 4), none, some (n + 5), some (n + 6), none, none, none]), (11, 16, []), (11, 16, []), (11, 16, []), (11, 16, []), (11, 16, []), (11, 16, []), (11, 48, [])])) (lvF := fun ad => [(0, .ref (ad n))]) (stF := fun ad => [.ref (ad n)]) f dX1_init_87 ac_int rfl (by decide) (by decide) (fun _ => rfl) (fun _ h => by cases h) (fun _ => rfl) (by decide) (by decide) (by decide) (by decide) (by decide) (zpl hn rfl) (by rw [List.append_assoc]; rfl) (fun a h => ⟨by simp only [h n (by omega)], by simp only [h n (by omega)]⟩) (fun ad7 ag7 => ?_)
  refine V_putFp (Z1 := (Zp ++ [(1, 0, [none, none, none, none, none, some (n + 1), some (n + 2), some (n + 3), some (n + 4), none, some (n + 5), some (n + 6), some (n + 7), none, none]), (11, 16, []), (11, 16, []), (11, 16, []), (11, 16, []), (11, 16, []), (11, 16, []), (11, 48, [])])) (n := (n + 8)) f dX1_init_89 lf_1_49 lp_1_12 rfl hnm rfl rfl rfl rfl (zpl hn rfl) (by omega) (zpa (k := 0) hn rfl) (Nat.le_of_ble_eq_true rfl) (zps (j := 0) hn rfl) ?_
  refine V_aload_n f dX1_init_92 0 rfl ?_
  refine V_bipush (v := 48) f dX1_init_93 (by decide) ?_
  refine V_newaF (t0 := 1) (ci := 11) (ty := .int) (N := 48) (n := (n + 8)) (Z1 := (Zp ++ [(1, 0, [none, none, none, none, none, some (n + 1), some (n + 2), some (n + 3), some (n + 4), none, some (n + 5), some (n + 6), some (n + 7), none, none]), (11, 16, []), (11, 16, []), (11, 16, []), (11, 16, []), (11, 16, []), (11, 16, []), (11, 48, []), (11, 48, [])])) (lvF := fun ad => [(0, .ref (ad n))]) (stF := fun ad => [.ref (ad n)]) f dX1_init_95 ac_int rfl (by decide) (by decide) (fun _ => rfl) (fun _ h => by cases h) (fun _ => rfl) (by decide) (by decide) (by decide) (by decide) (by decide) (zpl hn rfl) (by rw [List.append_assoc]; rfl) (fun a h => ⟨by simp only [h n (by omega)], by simp only [h n (by omega)]⟩) (fun ad8 ag8 => ?_)
  refine V_putFp (Z1 := (Zp ++ [(1, 0, [none, none, none, none, none, some (n + 1), some (n + 2), some (n + 3), some (n + 4), none, some (n + 5), some (n + 6), some (n + 7), some (n + 8), none]), (11, 16, []), (11, 16, []), (11, 16, []), (11, 16, []), (11, 16, []), (11, 16, []), (11, 48, []), (11, 48, [])])) (n := (n + 9)) f dX1_init_97 lf_1_52 lp_1_13 rfl hnm rfl rfl rfl rfl (zpl hn rfl) (by omega) (zpa (k := 0) hn rfl) (Nat.le_of_ble_eq_true rfl) (zps (j := 0) hn rfl) ?_
  refine V_aload_n f dX1_init_100 0 rfl ?_
  refine V_bipush (v := 48) f dX1_init_101 (by decide) ?_
  refine V_newaF (t0 := 1) (ci := 11) (ty := .int) (N := 48) (n := (n + 9)) (Z1 := (Zp ++ [(1, 0, [none, none, none, none, none, some (n + 1), some (n + 2), some (n + 3), some (n + 4), none, some (n + 5), some (n + 6), some (n + 7), some (n + 8), none]), (11, 16, []), (11, 16, []), (11, 16, []), (11, 16, []), (11, 16, []), (11, 16, []), (11, 48, []), (11, 48, []), (11, 48, [])])) (lvF := fun ad => [(0, .ref (ad n))]) (stF := fun ad => [.ref (ad n)]) f dX1_init_103 ac_int rfl (by decide) (by decide) (fun _ => rfl) (fun _ h => by cases h) (fun _ => rfl) (by decide) (by decide) (by decide) (by decide) (by decide) (zpl hn rfl) (by rw [List.append_assoc]; rfl) (fun a h => ⟨by simp only [h n (by omega)], by simp only [h n (by omega)]⟩) (fun ad9 ag9 => ?_)
  refine V_putFp (Z1 := (Zp ++ [(1, 0, [none, none, none, none, none, some (n + 1), some (n + 2), some (n + 3), some (n + 4), none, some (n + 5), some (n + 6), some (n + 7), some (n + 8), some (n + 9)]), (11, 16, []), (11, 16, []), (11, 16, []), (11, 16, []), (11, 16, []), (11, 16, []), (11, 48, []), (11, 48, []), (11, 48, [])])) (n := (n + 10)) f dX1_init_105 lf_1_55 lp_1_14 rfl hnm rfl rfl rfl rfl (zpl hn rfl) (by omega) (zpa (k := 0) hn rfl) (Nat.le_of_ble_eq_true rfl) (zps (j := 0) hn rfl) ?_
  exact V_vret f q dX1_init_108 (by decide) (by decide) ⟨rfl, (fun i hi => by rw [zpl (m := 1) hn rfl] at hi; exact (ag9 i (by omega)).trans ((ag8 i (by omega)).trans ((ag7 i (by omega)).trans ((ag6 i (by omega)).trans ((ag5 i (by omega)).trans ((ag4 i (by omega)).trans ((ag3 i (by omega)).trans ((ag2 i (by omega)).trans ((ag1 i (by omega)).trans (rfl)))))))))), rfl, ⟨by simp [up2, va_up], by simp [up2, va_up], by simp [up2, va_up]⟩, fun j hj => by have e0 : ¬ j = n := (by omega); have e1 : ¬ j = (n + 1) := (by omega); have e2 : ¬ j = (n + 2) := (by omega); have e3 : ¬ j = (n + 3) := (by omega); have e4 : ¬ j = (n + 4) := (by omega); have e5 : ¬ j = (n + 5) := (by omega); have e6 : ¬ j = (n + 6) := (by omega); have e7 : ¬ j = (n + 7) := (by omega); have e8 : ¬ j = (n + 8) := (by omega); have e9 : ¬ j = (n + 9) := (by omega); simp [up2, va_up, e0, e1, e2, e3, e4, e5, e6, e7, e8, e9]⟩
set_option maxHeartbeats 4000000 in
set_option maxRecDepth 100000 in
theorem n_X6_init (l : Launch) (D : va_G) (cy : Nat → ClassId) (X : va_W) (ad : Nat → Nat) (Zp : ZT) (M : MT) (n : Nat) (hn : Zp.length = n) : CtN l yX6_init cX6_init 1 { frames := 1, cells := 1, slots := 500, locals := 12 } D cy X ad (Zp ++ [(6, 0, List.replicate 2 none)]) M [.ref (ad n)] (Zp ++ [(6, 0, [some (n + 1), none]), (10, 500, [])]) (fun M1 => M1 n 1 = 0 ∧ ∀ j, j < n → M1 j = M j) := by
  refine Ctr.of (by decide +kernel) (Nat.le_of_ble_eq_true rfl) ?_
  intro K f q hnm hl0 hD0 hy0 hX0
  show V K ad 0 0 (Zp ++ [(6, 0, [none, none])]) M 0 [(0, .ref (ad n))] []
  refine V_aload_n f dX6_init_0 0 rfl ?_
  refine V_objInit f dX6_init_1 ml_X6_1 oi_ins oi_code (by decide) (Nat.le_of_ble_eq_true rfl) ?_
  refine V_aload_n f dX6_init_4 0 rfl ?_
  refine V_sipush (v := 500) f dX6_init_5 (by decide) ?_
  refine V_newaF (t0 := 0) (ci := 10) (ty := .byte) (N := 500) (n := (n + 1)) (Z1 := (Zp ++ [(6, 0, [none, none]), (10, 500, [])])) (lvF := fun ad => [(0, .ref (ad n))]) (stF := fun ad => [.ref (ad n)]) f dX6_init_8 ac_byte rfl (by decide) (by decide) (fun _ => rfl) (fun _ h => by cases h) (fun _ => rfl) (by decide) (by decide) (by decide) (by decide) (by decide) (zpl hn rfl) (by rw [List.append_assoc]; rfl) (fun a h => ⟨by simp only [h n (by omega)], by simp only [h n (by omega)]⟩) (fun ad1 ag1 => ?_)
  refine V_putFp (Z1 := (Zp ++ [(6, 0, [some (n + 1), none]), (10, 500, [])])) (n := (n + 2)) f dX6_init_10 lf_6_9 lp_6_0 rfl hnm rfl rfl rfl rfl (zpl hn rfl) (by omega) (zpa (k := 0) hn rfl) (Nat.le_of_ble_eq_true rfl) (zps (j := 0) hn rfl) ?_
  refine V_aload_n f dX6_init_13 0 rfl ?_
  refine V_iconst (v := 0) f dX6_init_14 (by decide) ?_
  refine V_putI f dX6_init_15 lf_6_13 lp_6_1 rfl rfl rfl rfl (zpa (k := 0) hn rfl) ?_
  exact V_vret f q dX6_init_18 (by decide) (by decide) ⟨rfl, (fun i hi => by rw [zpl (m := 1) hn rfl] at hi; exact (ag1 i (by omega)).trans (rfl)), rfl, by simp [up2, va_up], fun j hj => by have e0 : ¬ j = n := (by omega); have e1 : ¬ j = (n + 1) := (by omega); simp [up2, va_up, e0, e1]⟩
set_option maxHeartbeats 4000000 in
set_option maxRecDepth 100000 in
theorem n_X7_init (l : Launch) (D : va_G) (cy : Nat → ClassId) (X : va_W) (ad : Nat → Nat) (Zp : ZT) (M : MT) (n : Nat) (t : Nat) (hn : Zp.length = n) (ht : t < n) : CtN l yX7_init cX7_init 2 { frames := 1, cells := 3, slots := 1500, locals := 12 } D cy X ad (Zp ++ [(7, 0, List.replicate 6 none)]) M [.ref (ad n), .ref (ad t)] (Zp ++ [(7, 0, [some t, none, some (n + 1), some (n + 2), some (n + 3), none]), (11, 500, []), (11, 500, []), (11, 500, [])]) (fun M1 => M1 n 1 = 0 ∧ ∀ j, j < n → M1 j = M j) := by
  refine Ctr.of (by decide +kernel) (Nat.le_of_ble_eq_true rfl) ?_
  intro K f q hnm hl0 hD0 hy0 hX0
  show V K ad 0 0 (Zp ++ [(7, 0, [none, none, none, none, none, none])]) M 0 [(0, .ref (ad n)), (1, .ref (ad t))] []
  refine V_aload_n f dX7_init_0 0 rfl ?_
  refine V_objInit f dX7_init_1 ml_X7_1 oi_ins oi_code (by decide) (Nat.le_of_ble_eq_true rfl) ?_
  refine V_aload_n f dX7_init_4 0 rfl ?_
  refine V_iconst (v := 0) f dX7_init_5 (by decide) ?_
  refine V_putI f dX7_init_6 lf_7_7 lp_7_1 rfl rfl rfl rfl (zpa (k := 0) hn rfl) ?_
  refine V_aload_n f dX7_init_9 0 rfl ?_
  refine V_sipush (v := 500) f dX7_init_10 (by decide) ?_
  refine V_newaF (t0 := 1) (ci := 11) (ty := .int) (N := 500) (n := (n + 1)) (Z1 := (Zp ++ [(7, 0, [none, none, none, none, none, none]), (11, 500, [])])) (lvF := fun ad => [(0, .ref (ad n)), (1, .ref (ad t))]) (stF := fun ad => [.ref (ad n)]) f dX7_init_13 ac_int rfl (by decide) (by decide) (fun _ => rfl) (fun _ h => by cases h) (fun _ => rfl) (by decide) (by decide) (by decide) (by decide) (by decide) (zpl hn rfl) (by rw [List.append_assoc]; rfl) (fun a h => ⟨by simp only [h n (by omega), h t (by omega)], by simp only [h n (by omega)]⟩) (fun ad1 ag1 => ?_)
  refine V_putFp (Z1 := (Zp ++ [(7, 0, [none, none, some (n + 1), none, none, none]), (11, 500, [])])) (n := (n + 2)) f dX7_init_15 lf_7_15 lp_7_2 rfl hnm rfl rfl rfl rfl (zpl hn rfl) (by omega) (zpa (k := 0) hn rfl) (Nat.le_of_ble_eq_true rfl) (zps (j := 0) hn rfl) ?_
  refine V_aload_n f dX7_init_18 0 rfl ?_
  refine V_sipush (v := 500) f dX7_init_19 (by decide) ?_
  refine V_newaF (t0 := 1) (ci := 11) (ty := .int) (N := 500) (n := (n + 2)) (Z1 := (Zp ++ [(7, 0, [none, none, some (n + 1), none, none, none]), (11, 500, []), (11, 500, [])])) (lvF := fun ad => [(0, .ref (ad n)), (1, .ref (ad t))]) (stF := fun ad => [.ref (ad n)]) f dX7_init_22 ac_int rfl (by decide) (by decide) (fun _ => rfl) (fun _ h => by cases h) (fun _ => rfl) (by decide) (by decide) (by decide) (by decide) (by decide) (zpl hn rfl) (by rw [List.append_assoc]; rfl) (fun a h => ⟨by simp only [h n (by omega), h t (by omega)], by simp only [h n (by omega)]⟩) (fun ad2 ag2 => ?_)
  refine V_putFp (Z1 := (Zp ++ [(7, 0, [none, none, some (n + 1), some (n + 2), none, none]), (11, 500, []), (11, 500, [])])) (n := (n + 3)) f dX7_init_24 lf_7_19 lp_7_3 rfl hnm rfl rfl rfl rfl (zpl hn rfl) (by omega) (zpa (k := 0) hn rfl) (Nat.le_of_ble_eq_true rfl) (zps (j := 0) hn rfl) ?_
  refine V_aload_n f dX7_init_27 0 rfl ?_
  refine V_sipush (v := 500) f dX7_init_28 (by decide) ?_
  refine V_newaF (t0 := 1) (ci := 11) (ty := .int) (N := 500) (n := (n + 3)) (Z1 := (Zp ++ [(7, 0, [none, none, some (n + 1), some (n + 2), none, none]), (11, 500, []), (11, 500, []), (11, 500, [])])) (lvF := fun ad => [(0, .ref (ad n)), (1, .ref (ad t))]) (stF := fun ad => [.ref (ad n)]) f dX7_init_31 ac_int rfl (by decide) (by decide) (fun _ => rfl) (fun _ h => by cases h) (fun _ => rfl) (by decide) (by decide) (by decide) (by decide) (by decide) (zpl hn rfl) (by rw [List.append_assoc]; rfl) (fun a h => ⟨by simp only [h n (by omega), h t (by omega)], by simp only [h n (by omega)]⟩) (fun ad3 ag3 => ?_)
  refine V_putFp (Z1 := (Zp ++ [(7, 0, [none, none, some (n + 1), some (n + 2), some (n + 3), none]), (11, 500, []), (11, 500, []), (11, 500, [])])) (n := (n + 4)) f dX7_init_33 lf_7_22 lp_7_4 rfl hnm rfl rfl rfl rfl (zpl hn rfl) (by omega) (zpa (k := 0) hn rfl) (Nat.le_of_ble_eq_true rfl) (zps (j := 0) hn rfl) ?_
  refine V_aload_n f dX7_init_36 0 rfl ?_
  refine V_iconst (v := 0) f dX7_init_37 (by decide) ?_
  refine V_putI f dX7_init_38 lf_7_25 lp_7_5 rfl rfl rfl rfl (zpa (k := 0) hn rfl) ?_
  refine V_aload_n f dX7_init_41 0 rfl ?_
  refine V_aload_n f dX7_init_42 1 rfl ?_
  refine V_putFp (Z1 := (Zp ++ [(7, 0, [some t, none, some (n + 1), some (n + 2), some (n + 3), none]), (11, 500, []), (11, 500, []), (11, 500, [])])) (n := (n + 4)) f dX7_init_43 lf_7_28 lp_7_0 rfl hnm rfl rfl rfl rfl (zpl hn rfl) (by omega) (zpa (k := 0) hn rfl) (Nat.le_of_ble_eq_true rfl) (zps (j := 0) hn rfl) ?_
  exact V_vret f q dX7_init_46 (by decide) (by decide) ⟨rfl, (fun i hi => by rw [zpl (m := 1) hn rfl] at hi; exact (ag3 i (by omega)).trans ((ag2 i (by omega)).trans ((ag1 i (by omega)).trans (rfl)))), rfl, by simp [up2, va_up], fun j hj => by have e0 : ¬ j = n := (by omega); have e1 : ¬ j = (n + 1) := (by omega); have e2 : ¬ j = (n + 2) := (by omega); have e3 : ¬ j = (n + 3) := (by omega); simp [up2, va_up, e0, e1, e2, e3]⟩
set_option maxHeartbeats 4000000 in
set_option maxRecDepth 100000 in
theorem n_X3_init (l : Launch) (D : va_G) (cy : Nat → ClassId) (X : va_W) (ad : Nat → Nat) (Zp : ZT) (M : MT) (n : Nat) (hn : Zp.length = n) : CtN l yX3_init cX3_init 1 { frames := 1, cells := 5, slots := 44, locals := 12 } D cy X ad (Zp ++ [(3, 0, List.replicate 8 none)]) M [.ref (ad n)] (Zp ++ [(3, 0, [some (n + 1), some (n + 2), some (n + 3), some (n + 4), some (n + 5), none, none, none]), (11, 16, []), (11, 16, []), (11, 4, []), (11, 4, []), (11, 4, [])]) (fun M1 => (M1 (n + 3) = (fun _ => 0) ∧ M1 (n + 5) = (fun _ => 0)) ∧ ∀ j, j < n → M1 j = M j) := by
  refine Ctr.of (by decide +kernel) (Nat.le_of_ble_eq_true rfl) ?_
  intro K f q hnm hl0 hD0 hy0 hX0
  show V K ad 0 0 (Zp ++ [(3, 0, [none, none, none, none, none, none, none, none])]) M 0 [(0, .ref (ad n))] []
  refine V_aload_n f dX3_init_0 0 rfl ?_
  refine V_objInit f dX3_init_1 ml_X3_3 oi_ins oi_code (by decide) (Nat.le_of_ble_eq_true rfl) ?_
  refine V_aload_n f dX3_init_4 0 rfl ?_
  refine V_bipush (v := 16) f dX3_init_5 (by decide) ?_
  refine V_newaF (t0 := 1) (ci := 11) (ty := .int) (N := 16) (n := (n + 1)) (Z1 := (Zp ++ [(3, 0, [none, none, none, none, none, none, none, none]), (11, 16, [])])) (lvF := fun ad => [(0, .ref (ad n))]) (stF := fun ad => [.ref (ad n)]) f dX3_init_7 ac_int rfl (by decide) (by decide) (fun _ => rfl) (fun _ h => by cases h) (fun _ => rfl) (by decide) (by decide) (by decide) (by decide) (by decide) (zpl hn rfl) (by rw [List.append_assoc]; rfl) (fun a h => ⟨by simp only [h n (by omega)], by simp only [h n (by omega)]⟩) (fun ad1 ag1 => ?_)
  refine V_putFp (Z1 := (Zp ++ [(3, 0, [some (n + 1), none, none, none, none, none, none, none]), (11, 16, [])])) (n := (n + 2)) f dX3_init_9 lf_3_9 lp_3_0 rfl hnm rfl rfl rfl rfl (zpl hn rfl) (by omega) (zpa (k := 0) hn rfl) (Nat.le_of_ble_eq_true rfl) (zps (j := 0) hn rfl) ?_
  refine V_aload_n f dX3_init_12 0 rfl ?_
  refine V_bipush (v := 16) f dX3_init_13 (by decide) ?_
  refine V_newaF (t0 := 1) (ci := 11) (ty := .int) (N := 16) (n := (n + 2)) (Z1 := (Zp ++ [(3, 0, [some (n + 1), none, none, none, none, none, none, none]), (11, 16, []), (11, 16, [])])) (lvF := fun ad => [(0, .ref (ad n))]) (stF := fun ad => [.ref (ad n)]) f dX3_init_15 ac_int rfl (by decide) (by decide) (fun _ => rfl) (fun _ h => by cases h) (fun _ => rfl) (by decide) (by decide) (by decide) (by decide) (by decide) (zpl hn rfl) (by rw [List.append_assoc]; rfl) (fun a h => ⟨by simp only [h n (by omega)], by simp only [h n (by omega)]⟩) (fun ad2 ag2 => ?_)
  refine V_putFp (Z1 := (Zp ++ [(3, 0, [some (n + 1), some (n + 2), none, none, none, none, none, none]), (11, 16, []), (11, 16, [])])) (n := (n + 3)) f dX3_init_17 lf_3_15 lp_3_1 rfl hnm rfl rfl rfl rfl (zpl hn rfl) (by omega) (zpa (k := 0) hn rfl) (Nat.le_of_ble_eq_true rfl) (zps (j := 0) hn rfl) ?_
  refine V_aload_n f dX3_init_20 0 rfl ?_
  refine V_iconst (v := 4) f dX3_init_21 (by decide) ?_
  refine V_newaF (t0 := 1) (ci := 11) (ty := .int) (N := 4) (n := (n + 3)) (Z1 := (Zp ++ [(3, 0, [some (n + 1), some (n + 2), none, none, none, none, none, none]), (11, 16, []), (11, 16, []), (11, 4, [])])) (lvF := fun ad => [(0, .ref (ad n))]) (stF := fun ad => [.ref (ad n)]) f dX3_init_22 ac_int rfl (by decide) (by decide) (fun _ => rfl) (fun _ h => by cases h) (fun _ => rfl) (by decide) (by decide) (by decide) (by decide) (by decide) (zpl hn rfl) (by rw [List.append_assoc]; rfl) (fun a h => ⟨by simp only [h n (by omega)], by simp only [h n (by omega)]⟩) (fun ad3 ag3 => ?_)
  refine V_putFp (Z1 := (Zp ++ [(3, 0, [some (n + 1), some (n + 2), some (n + 3), none, none, none, none, none]), (11, 16, []), (11, 16, []), (11, 4, [])])) (n := (n + 4)) f dX3_init_24 lf_3_18 lp_3_2 rfl hnm rfl rfl rfl rfl (zpl hn rfl) (by omega) (zpa (k := 0) hn rfl) (Nat.le_of_ble_eq_true rfl) (zps (j := 0) hn rfl) ?_
  refine V_aload_n f dX3_init_27 0 rfl ?_
  refine V_iconst (v := 4) f dX3_init_28 (by decide) ?_
  refine V_newaF (t0 := 1) (ci := 11) (ty := .int) (N := 4) (n := (n + 4)) (Z1 := (Zp ++ [(3, 0, [some (n + 1), some (n + 2), some (n + 3), none, none, none, none, none]), (11, 16, []), (11, 16, []), (11, 4, []), (11, 4, [])])) (lvF := fun ad => [(0, .ref (ad n))]) (stF := fun ad => [.ref (ad n)]) f dX3_init_29 ac_int rfl (by decide) (by decide) (fun _ => rfl) (fun _ h => by cases h) (fun _ => rfl) (by decide) (by decide) (by decide) (by decide) (by decide) (zpl hn rfl) (by rw [List.append_assoc]; rfl) (fun a h => ⟨by simp only [h n (by omega)], by simp only [h n (by omega)]⟩) (fun ad4 ag4 => ?_)
  refine V_putFp (Z1 := (Zp ++ [(3, 0, [some (n + 1), some (n + 2), some (n + 3), some (n + 4), none, none, none, none]), (11, 16, []), (11, 16, []), (11, 4, []), (11, 4, [])])) (n := (n + 5)) f dX3_init_31 lf_3_21 lp_3_3 rfl hnm rfl rfl rfl rfl (zpl hn rfl) (by omega) (zpa (k := 0) hn rfl) (Nat.le_of_ble_eq_true rfl) (zps (j := 0) hn rfl) ?_
  refine V_aload_n f dX3_init_34 0 rfl ?_
  refine V_iconst (v := 4) f dX3_init_35 (by decide) ?_
  refine V_newaF (t0 := 1) (ci := 11) (ty := .int) (N := 4) (n := (n + 5)) (Z1 := (Zp ++ [(3, 0, [some (n + 1), some (n + 2), some (n + 3), some (n + 4), none, none, none, none]), (11, 16, []), (11, 16, []), (11, 4, []), (11, 4, []), (11, 4, [])])) (lvF := fun ad => [(0, .ref (ad n))]) (stF := fun ad => [.ref (ad n)]) f dX3_init_36 ac_int rfl (by decide) (by decide) (fun _ => rfl) (fun _ h => by cases h) (fun _ => rfl) (by decide) (by decide) (by decide) (by decide) (by decide) (zpl hn rfl) (by rw [List.append_assoc]; rfl) (fun a h => ⟨by simp only [h n (by omega)], by simp only [h n (by omega)]⟩) (fun ad5 ag5 => ?_)
  refine V_putFp (Z1 := (Zp ++ [(3, 0, [some (n + 1), some (n + 2), some (n + 3), some (n + 4), some (n + 5), none, none, none]), (11, 16, []), (11, 16, []), (11, 4, []), (11, 4, []), (11, 4, [])])) (n := (n + 6)) f dX3_init_38 lf_3_24 lp_3_4 rfl hnm rfl rfl rfl rfl (zpl hn rfl) (by omega) (zpa (k := 0) hn rfl) (Nat.le_of_ble_eq_true rfl) (zps (j := 0) hn rfl) ?_
  refine V_aload_n f dX3_init_41 0 rfl ?_
  refine V_iconst (v := 1) f dX3_init_42 (by decide) ?_
  refine V_putI f dX3_init_43 lf_3_27 lp_3_5 rfl rfl rfl rfl (zpa (k := 0) hn rfl) ?_
  refine V_aload_n f dX3_init_46 0 rfl ?_
  refine V_iconst (v := 0) f dX3_init_47 (by decide) ?_
  refine V_putI f dX3_init_48 lf_3_31 lp_3_6 rfl rfl rfl rfl (zpa (k := 0) hn rfl) ?_
  refine V_aload_n f dX3_init_51 0 rfl ?_
  refine V_iconst (v := 0) f dX3_init_52 (by decide) ?_
  refine V_putI f dX3_init_53 lf_3_34 lp_3_7 rfl rfl rfl rfl (zpa (k := 0) hn rfl) ?_
  exact V_vret f q dX3_init_56 (by decide) (by decide) ⟨rfl, (fun i hi => by rw [zpl (m := 1) hn rfl] at hi; exact (ag5 i (by omega)).trans ((ag4 i (by omega)).trans ((ag3 i (by omega)).trans ((ag2 i (by omega)).trans ((ag1 i (by omega)).trans (rfl)))))), rfl, ⟨by simp [up2, va_up], by simp [up2, va_up]⟩, fun j hj => by have e0 : ¬ j = n := (by omega); have e1 : ¬ j = (n + 1) := (by omega); have e2 : ¬ j = (n + 2) := (by omega); have e3 : ¬ j = (n + 3) := (by omega); have e4 : ¬ j = (n + 4) := (by omega); have e5 : ¬ j = (n + 5) := (by omega); simp [up2, va_up, e0, e1, e2, e3, e4, e5]⟩
set_option maxHeartbeats 4000000 in
set_option maxRecDepth 100000 in
theorem n_X2_init (l : Launch) (D : va_G) (cy : Nat → ClassId) (X : va_W) (ad : Nat → Nat) (Zp : ZT) (M : MT) (n : Nat) (t : Nat) (hn : Zp.length = n) (ht : t < n) : CtN l yX2_init cX2_init 2 { frames := 2, cells := 4, slots := 1506, locals := 33 } D cy X ad (Zp ++ [(2, 0, List.replicate 2 none)]) M [.ref (ad n), .ref (ad t)] (Zp ++ [(2, 0, [some (n + 1), none]), (7, 0, [some t, none, some (n + 2), some (n + 3), some (n + 4), none]), (11, 500, []), (11, 500, []), (11, 500, [])]) (fun M1 => M1 (n + 1) 1 = 0 ∧ ∀ j, j < n → M1 j = M j) := by
  refine Ctr.of (by decide +kernel) (Nat.le_of_ble_eq_true rfl) ?_
  intro K f q hnm hl0 hD0 hy0 hX0
  show V K ad 0 0 (Zp ++ [(2, 0, [none, none])]) M 0 [(0, .ref (ad n)), (1, .ref (ad t))] []
  refine V_aload_n f dX2_init_0 0 rfl ?_
  refine V_objInit f dX2_init_1 ml_X2_3 oi_ins oi_code (by decide) (Nat.le_of_ble_eq_true rfl) ?_
  refine V_aload_n f dX2_init_4 0 rfl ?_
  refine V_iconst (v := 0) f dX2_init_5 (by decide) ?_
  refine V_putI f dX2_init_6 lf_2_9 lp_2_1 rfl rfl rfl rfl (zpa (k := 0) hn rfl) ?_
  refine V_aload_n f dX2_init_9 0 rfl ?_
  refine V_newF (ci := 7) (n := (n + 1)) (Z1 := (Zp ++ [(2, 0, [none, none]), (7, 0, [none, none, none, none, none, none])])) (lvF := fun ad => [(0, .ref (ad n)), (1, .ref (ad t))]) (stF := fun ad => [.ref (ad n)]) f dX2_init_10 (by decide) rfl inG7 tyX7 tyX7_ok ck_X2_15 ist7 ini7 (by decide) (by decide) (by decide) (zpl hn rfl) (by rw [List.append_assoc]; rfl) (fun a h => ⟨by simp only [h n (by omega), h t (by omega)], by simp only [h n (by omega)]⟩) (fun ad1 ag1 => ?_)
  refine V_dup f dX2_init_13 rfl ?_
  refine V_aload_n f dX2_init_14 1 rfl ?_
  refine V_cI (AsF := fun ad => [.ref (ad t)]) (i := (n + 1)) (n := (n + 2)) (Z1 := (Zp ++ [(2, 0, [none, none]), (7, 0, [some t, none, some (n + 2), some (n + 3), some (n + 4), none]), (11, 500, []), (11, 500, []), (11, 500, [])])) (lvF := fun ad => [(0, .ref (ad n)), (1, .ref (ad t))]) (stF := fun ad => [.ref (ad (n + 1)), .ref (ad n)]) f dX2_init_15 lk_X2_17 ml_X2_17 ins_X7_init rfl (by have h9 := n_X7_init (kl K) (kD K) (ky K) (kX K) ad1 (Zp ++ [(2, 0, [none, none])]) (va_up (up2 M n 1 0) (n + 1) (fun _ => 0)) (n + 1) t (zpl hn rfl) (by omega); rw [List.append_assoc, List.append_assoc] at h9; exact h9) rfl rfl (Nat.le_of_ble_eq_true rfl) ⟨by decide, by decide⟩ ⟨by decide, by decide⟩ (zpl hn rfl) (fun a h => ⟨by simp only [h n (by omega), h t (by omega)], by simp only [h (n + 1) (by omega), h n (by omega)]⟩) (fun ad2 M2 ag2 hR2 => ?_)
  refine V_putFp (Z1 := (Zp ++ [(2, 0, [some (n + 1), none]), (7, 0, [some t, none, some (n + 2), some (n + 3), some (n + 4), none]), (11, 500, []), (11, 500, []), (11, 500, [])])) (n := (n + 5)) f dX2_init_18 lf_2_20 lp_2_0 rfl hnm rfl rfl rfl rfl (zpl hn rfl) (by omega) (zpa (k := 0) hn rfl) (Nat.le_of_ble_eq_true rfl) (zps (j := 0) hn rfl) ?_
  exact V_vret f q dX2_init_21 (by decide) (by decide) ⟨rfl, (fun i hi => by rw [zpl (m := 1) hn rfl] at hi; exact (ag2 i (by omega)).trans ((ag1 i (by omega)).trans (rfl))), rfl, hR2.1, fun j hj => by rw [show M2 j = _ from hR2.2 j (by omega)]; have e0 : ¬ j = n := (by omega); have e1 : ¬ j = n + 1 := (by omega); simp [up2, va_up, e0, e1]⟩

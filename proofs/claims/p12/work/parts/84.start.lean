theorem lwG {w : Cond} (h : w ∈ tbG) : w ∈ lw_tbl := (List.mem_filter.mp h).1
theorem arrP {args : Array Value} {s : State} {ty : FieldType} (h : (Cond.arrayClass ty).before args s = true) (hno : ∀ C, ty ≠ .object C) : ∃ cA : ClassId, ArrOfT s cA ty ∧ va_RA s cA ty := by
  obtain ⟨cA, kA, comp, h1, h2, h3⟩ := Cond.arrayClass_spec h
  refine ⟨cA, fun n z => ⟨fun k h => (by cases h), kA, h2, comp, h3⟩, ?_⟩
  cases ty <;> first | exact h1 | exact absurd rfl (hno _)
theorem arrO {args : Array Value} {s : State} {C : String} (h : (Cond.arrayOver (.object C)).before args s = true) : ∃ cA : ClassId, ArrOfT s cA (.object C) ∧ va_RA s cA (.object C) := by
  obtain ⟨comp, cA, kA, h1, -, h2, h3, h4⟩ := Cond.arrayOver_spec h
  exact ⟨cA, fun n z => ⟨fun k h => (by cases h), kA, h2, comp, h3⟩, kA, comp, h2, h3, h1, h4⟩
theorem nest_in : ∀ q ∈ nestL, Cond.methodLinkNest q.1 q.2.1 q.2.2.1 q.2.2.2 ∈ lw_tbl := by decide +kernel
theorem over_in : ∀ C ∈ ["PeatBog$Bay", "PeatBog$Law", "PeatBog$Stack"], Cond.arrayOver (.object C) ∈ lw_tbl := by decide +kernel
/-- what the tables say at the law's entry -/
theorem kk_start {args : Array Value} {s : State} (hts : ∀ w ∈ lw_tbl, w.before args s = true) : ∃ (D : va_G) (cy : Nat → ClassId), KK D cy s := by
  obtain ⟨c0, i0, hK0⟩ := u_known (C := RX0) (T := TX0) (N := 7) (n := 7) hts (fun w h => lwG (inG0 w h)) (hts (.instantiable RX0 7) (lwG ist0))
  obtain ⟨c1, i1, hK1⟩ := u_known (C := RX1) (T := TX1) (N := 15) (n := 15) hts (fun w h => lwG (inG1 w h)) (hts (.instantiable RX1 15) (lwG ist1))
  obtain ⟨c2, i2, hK2⟩ := u_known (C := RX2) (T := TX2) (N := 2) (n := 2) hts (fun w h => lwG (inG2 w h)) (hts (.instantiable RX2 2) (lwG ist2))
  obtain ⟨c3, i3, hK3⟩ := u_known (C := RX3) (T := TX3) (N := 8) (n := 8) hts (fun w h => lwG (inG3 w h)) (hts (.instantiable RX3 8) (lwG ist3))
  obtain ⟨c4, i4, hK4⟩ := u_known (C := RX4) (T := TX4) (N := 5) (n := 5) hts (fun w h => lwG (inG4 w h)) (hts (.instantiable RX4 5) (lwG ist4))
  obtain ⟨c5, i5, hK5⟩ := u_known (C := RX5) (T := TX5) (N := 9) (n := 9) hts (fun w h => lwG (inG5 w h)) (hts (.instantiable RX5 9) (lwG ist5))
  obtain ⟨c6, i6, hK6⟩ := u_known (C := RX6) (T := TX6) (N := 2) (n := 2) hts (fun w h => lwG (inG6 w h)) (hts (.instantiable RX6 2) (lwG ist6))
  obtain ⟨c7, i7, hK7⟩ := u_known (C := RX7) (T := TX7) (N := 6) (n := 6) hts (fun w h => lwG (inG7 w h)) (hts (.instantiable RX7 6) (lwG ist7))
  obtain ⟨c8, i8, hK8⟩ := u_known (C := RX8) (T := TX8) (N := 15) (n := 15) hts (fun w h => lwG (inG8 w h)) (hts (.instantiable RX8 15) (lwG ist8))
  obtain ⟨c9, i9, hK9⟩ := u_known (C := RX9) (T := TX9) (N := 48) (n := 48) hts (fun w h => lwG (inG9 w h)) (hts (.instantiable RX9 48) (lwG ist9))
  obtain ⟨cB, gB⟩ := arrP (hts (.arrayClass .byte) (lwG ac_byte)) (fun _ h => by cases h)
  obtain ⟨cI, gI⟩ := arrP (hts (.arrayClass .int) (lwG ac_int)) (fun _ h => by cases h)
  obtain ⟨cZ, gZ⟩ := arrP (hts (.arrayClass .boolean) (lwG ac_boolean)) (fun _ h => by cases h)
  obtain ⟨cO1, gO1⟩ := arrO (hts (.arrayOver (.object "PeatBog$Bay")) (over_in _ (by decide)))
  obtain ⟨cO2, gO2⟩ := arrO (hts (.arrayOver (.object "PeatBog$Law")) (over_in _ (by decide)))
  obtain ⟨cO3, gO3⟩ := arrO (hts (.arrayOver (.object "PeatBog$Stack")) (over_in _ (by decide)))
  refine ⟨(fun k => if k = 0 then c0 else if k = 1 then c1 else if k = 2 then c2 else if k = 3 then c3 else if k = 4 then c4 else if k = 5 then c5 else if k = 6 then c6 else if k = 7 then c7 else if k = 8 then c8 else c9, fun k => if k = 0 then i0 else if k = 1 then i1 else if k = 2 then i2 else if k = 3 then i3 else if k = 4 then i4 else if k = 5 then i5 else if k = 6 then i6 else if k = 7 then i7 else if k = 8 then i8 else i9), fun k => if k = 10 then cB else if k = 11 then cI else if k = 12 then cZ else if k = 13 then cO1 else if k = 14 then cO2 else cO3, ⟨?_, ?_⟩, fun C hC => va_AO.of (hts _ (over_in C hC)), fun q hq => va_Nw.of rfl (hts _ (nest_in q hq))⟩
  · intro k q hq
    match k, hq with
    | 0, hq => cases hq; exact hK0
    | 1, hq => cases hq; exact hK1
    | 2, hq => cases hq; exact hK2
    | 3, hq => cases hq; exact hK3
    | 4, hq => cases hq; exact hK4
    | 5, hq => cases hq; exact hK5
    | 6, hq => cases hq; exact hK6
    | 7, hq => cases hq; exact hK7
    | 8, hq => cases hq; exact hK8
    | 9, hq => cases hq; exact hK9
    | k + 10, hq => simp [vwCl] at hq
  · intro k q hq
    match k, hq with
    | 0, hq => cases hq; exact gB
    | 1, hq => cases hq; exact gI
    | 2, hq => cases hq; exact gZ
    | 3, hq => cases hq; exact gO1
    | 4, hq => cases hq; exact gO2
    | 5, hq => cases hq; exact gO3
    | k + 6, hq => simp [tyL] at hq
theorem lw_in {L : Nat} {i : Int32} (hL : L ≤ 3072) (h0 : 0 ≤ i.toInt) (h : ¬ Int32.ofNat L - 6 < i) : i.toInt + 6 ≤ (L : Int) := by
  have e6 : (6 : Int32).toInt = 6 := by decide
  have eL : (Int32.ofNat L).toInt = (L : Int) := Int32.toInt_ofNat_of_lt (by omega)
  rw [Int32.lt_iff_toInt_lt, Int32.toInt_sub, eL, e6, Int.bmod_eq_of_le (by omega) (by omega)] at h
  omega
theorem lw_ix {L : Nat} {i : Int32} (hL : L ≤ 3072) (h0 : 0 ≤ i.toInt) (h : i.toInt + 6 ≤ (L : Int)) (j : Int32) (j0 : 0 ≤ j.toInt) (j5 : j.toInt ≤ 5) : vp_in (i + j) L := by
  have e : (i + j).toInt = i.toInt + j.toInt := by rw [Int32.toInt_add, Int.bmod_eq_of_le (by omega) (by omega)]
  rw [vp_in_iff]; omega
theorem lw_i6 {i : Int32} (h0 : 0 ≤ i.toInt) (h : i.toInt ≤ 3072) : (i + 6).toInt = i.toInt + 6 := by
  have e6 : (6 : Int32).toInt = 6 := by decide
  rw [Int32.toInt_add, e6, Int.bmod_eq_of_le (by omega) (by omega)]
set_option maxHeartbeats 4000000 in
set_option maxRecDepth 100000 in
theorem law_loop {p : Program} {l : Launch} {e : Env} {s : State} {m : MethodId} {b : Nat} {below : List Frame} {meth : Method} {c : Code} {D : va_G} {cy : Nat → ClassId} (f : ∀ X, Fx (kM p l e s m b below meth c D cy X) cL_law RL 4 room_1) (hr : meth.sig.returnType = ret) {L : Nat} (hL : L ≤ 3072) {xs : Nat → Int32} (hX : va_X b L xs s s.heap) (hbl : b < s.heap.size) (aB aM : Nat → Nat) {n1 n2 : Nat} (h1 : n1 ≤ 600000) (h2 : n2 ≤ 7302250) {cs cv : Nat → Nat} {z : Value} (hw : SW cs cv z (fun q : Nat => s.heap.size ≤ q) s) : ∀ (n cn : Nat) (i : Int32) (MB MM : MT), cn + n = 600 → i.toInt = 6 * (cn : Int) → Rl cn MB MM → V (kM p l e s m b below meth c D cy ([] ++ wl cy aB ZB MB)) aM n1 n2 ZM MM 18 [(3, .int i), (2, .ref (aM 0)), (1, .ref (aB 0)), (0, .ref b)] [] := by
  intro n
  induction n using Nat.strongRecOn with
  | ind n ih =>
    intro cn i MB MM hn hi hR
    refine V_iload_n (f _) dL_law_18 0 rfl ?_
    refine V_aload_n (f _) dL_law_19 3 rfl ?_
    refine V_slen (f _) hX hbl dL_law_20 ?_
    refine V_bipush (v := 6) (f _) dL_law_21 (by decide) ?_
    refine V_isub (f _) dL_law_23 ?_
    refine V_icmp_gt (tgt := 714) (f _) dL_law_24 (by decide) (fun _ => ?_) (fun h => ?_)
    · refine V_iconst (v := 1) (f _) dL_law_714 (by decide) ?_
      exact V_lret1 (f _) hr h1 h2 dL_law_715
    · have hin := lw_in hL (by omega) h
      have hix := lw_ix hL (by omega) hin
      have hcn : cn ≤ 511 := by omega
      have fin : ∀ B1 M1 : MT, Rl (cn + 1) B1 M1 → V (kM p l e s m b below meth c D cy ([] ++ wl cy aB ZB B1)) aM n1 n2 ZM M1 708 [(3, .int i), (2, .ref (aM 0)), (1, .ref (aB 0)), (0, .ref b)] [] := by
        intro B1 M1 hR1
        refine V_iinc (v := i + 6) (f _) dL_law_708 0 rfl rfl (by decide) rfl ?_
        refine V_goto (tgt := 18) (f _) dL_law_711 (by decide) ?_
        exact ih (n - 1) (by omega) (cn + 1) (i + 6) B1 M1 (by omega) (by have := lw_i6 (i := i) (by omega) (by omega); omega) hR1
      refine V_aload_n (f _) dL_law_27 3 rfl ?_
      refine V_iload_n (f _) dL_law_28 0 rfl ?_
      refine V_sld (f _) hX hbl (i := i) (by rw [vp_in_iff]; omega) dL_law_29 ?_
      refine V_bipush (v := 31) (f _) dL_law_30 (by decide) ?_
      refine V_iand (f _) dL_law_32 ?_
      generalize xs (Int32.toNatClampNeg i) &&& 31 = x
      rcases Decidable.em (x = 0) with e0 | e0
      · refine V_tableIn (off := 95) (tgt := 128) (f _) dL_law_33 (by rw [e0]; decide) (by rw [e0]; decide) (by rw [e0]; decide) (by decide) ?_
        exact lwc_0 f hX hbl aB aM MB MM h1 h2 hw hix hR hcn fin
      rcases Decidable.em (x = 1) with e1 | e1
      · refine V_tableIn (off := 128) (tgt := 161) (f _) dL_law_33 (by rw [e1]; decide) (by rw [e1]; decide) (by rw [e1]; decide) (by decide) ?_
        exact lwc_1 f hX hbl aB aM MB MM h1 h2 hw hix hR hcn fin
      rcases Decidable.em (x = 2) with e2 | e2
      · refine V_tableIn (off := 161) (tgt := 194) (f _) dL_law_33 (by rw [e2]; decide) (by rw [e2]; decide) (by rw [e2]; decide) (by decide) ?_
        exact lwc_2 f hX hbl aB aM MB MM h1 h2 hw hix hR hcn fin
      rcases Decidable.em (x = 3) with e3 | e3
      · refine V_tableIn (off := 184) (tgt := 217) (f _) dL_law_33 (by rw [e3]; decide) (by rw [e3]; decide) (by rw [e3]; decide) (by decide) ?_
        exact lwc_3 f hX hbl aB aM MB MM h1 h2 hw hix hR hcn fin
      rcases Decidable.em (x = 4) with e4 | e4
      · refine V_tableIn (off := 217) (tgt := 250) (f _) dL_law_33 (by rw [e4]; decide) (by rw [e4]; decide) (by rw [e4]; decide) (by decide) ?_
        exact lwc_4 f hX hbl aB aM MB MM h1 h2 hw hix hR hcn fin
      rcases Decidable.em (x = 5) with e5 | e5
      · refine V_tableIn (off := 230) (tgt := 263) (f _) dL_law_33 (by rw [e5]; decide) (by rw [e5]; decide) (by rw [e5]; decide) (by decide) ?_
        exact lwc_5 f hX hbl aB aM MB MM h1 h2 hw hix hR hcn fin
      rcases Decidable.em (x = 6) with e6 | e6
      · refine V_tableIn (off := 253) (tgt := 286) (f _) dL_law_33 (by rw [e6]; decide) (by rw [e6]; decide) (by rw [e6]; decide) (by decide) ?_
        exact lwc_6 f hX hbl aB aM MB MM h1 h2 hw hix hR hcn fin
      rcases Decidable.em (x = 7) with e7 | e7
      · refine V_tableIn (off := 286) (tgt := 319) (f _) dL_law_33 (by rw [e7]; decide) (by rw [e7]; decide) (by rw [e7]; decide) (by decide) ?_
        exact lwc_7 f hX hbl aB aM MB MM h1 h2 hw hix hR hcn fin
      rcases Decidable.em (x = 8) with e8 | e8
      · refine V_tableIn (off := 309) (tgt := 342) (f _) dL_law_33 (by rw [e8]; decide) (by rw [e8]; decide) (by rw [e8]; decide) (by decide) ?_
        exact lwc_8 f hX hbl aB aM MB MM h1 h2 hw hix hR hcn fin
      rcases Decidable.em (x = 9) with e9 | e9
      · refine V_tableIn (off := 332) (tgt := 365) (f _) dL_law_33 (by rw [e9]; decide) (by rw [e9]; decide) (by rw [e9]; decide) (by decide) ?_
        exact lwc_9 f hX hbl aB aM MB MM h1 h2 hw hix hR hcn fin
      rcases Decidable.em (x = 10) with e10 | e10
      · refine V_tableIn (off := 365) (tgt := 398) (f _) dL_law_33 (by rw [e10]; decide) (by rw [e10]; decide) (by rw [e10]; decide) (by decide) ?_
        exact lwc_10 f hX hbl aB aM MB MM h1 h2 hw hix hR hcn fin
      rcases Decidable.em (x = 11) with e11 | e11
      · refine V_tableIn (off := 408) (tgt := 441) (f _) dL_law_33 (by rw [e11]; decide) (by rw [e11]; decide) (by rw [e11]; decide) (by decide) ?_
        exact lwc_11 f hX hbl aB aM MB MM h1 h2 hw hix hR hcn fin
      rcases Decidable.em (x = 12) with e12 | e12
      · refine V_tableIn (off := 471) (tgt := 504) (f _) dL_law_33 (by rw [e12]; decide) (by rw [e12]; decide) (by rw [e12]; decide) (by decide) ?_
        exact lwc_12 f hX hbl aB aM MB MM h1 h2 hw hix hR hcn fin
      rcases Decidable.em (x = 13) with e13 | e13
      · refine V_tableIn (off := 494) (tgt := 527) (f _) dL_law_33 (by rw [e13]; decide) (by rw [e13]; decide) (by rw [e13]; decide) (by decide) ?_
        exact lwc_13 f hX hbl aB aM MB MM h1 h2 hw hix hR hcn fin
      rcases Decidable.em (x = 14) with e14 | e14
      · refine V_tableIn (off := 507) (tgt := 540) (f _) dL_law_33 (by rw [e14]; decide) (by rw [e14]; decide) (by rw [e14]; decide) (by decide) ?_
        exact lwc_14 f hX hbl aB aM MB MM h1 h2 hw hix hR hcn fin
      rcases Decidable.em (x = 15) with e15 | e15
      · refine V_tableIn (off := 540) (tgt := 573) (f _) dL_law_33 (by rw [e15]; decide) (by rw [e15]; decide) (by rw [e15]; decide) (by decide) ?_
        exact lwc_15 f hX hbl aB aM MB MM h1 h2 hw hix hR hcn fin
      rcases Decidable.em (x = 16) with e16 | e16
      · refine V_tableIn (off := 573) (tgt := 606) (f _) dL_law_33 (by rw [e16]; decide) (by rw [e16]; decide) (by rw [e16]; decide) (by decide) ?_
        exact lwc_16 f hX hbl aB aM MB MM h1 h2 hw hix hR hcn fin
      rcases Decidable.em (x = 17) with e17 | e17
      · refine V_tableIn (off := 606) (tgt := 639) (f _) dL_law_33 (by rw [e17]; decide) (by rw [e17]; decide) (by rw [e17]; decide) (by decide) ?_
        exact lwc_17 f hX hbl aB aM MB MM h1 h2 hw hix hR hcn fin
      rcases Decidable.em (x = 18) with e18 | e18
      · refine V_tableIn (off := 639) (tgt := 672) (f _) dL_law_33 (by rw [e18]; decide) (by rw [e18]; decide) (by rw [e18]; decide) (by decide) ?_
        exact lwc_18 f hX hbl aB aM MB MM h1 h2 hw hix hR hcn fin
      rcases Decidable.em (x = 19) with e19 | e19
      · refine V_tableIn (off := 652) (tgt := 685) (f _) dL_law_33 (by rw [e19]; decide) (by rw [e19]; decide) (by rw [e19]; decide) (by decide) ?_
        exact lwc_19 f hX hbl aB aM MB MM h1 h2 hw hix hR hcn fin
      refine V_tableOut (tgt := 708) (f _) dL_law_33 (sw_out 0 19 20 [0, 1, 2, 3, 4, 5, 6, 7, 8, 9, 10, 11, 12, 13, 14, 15, 16, 17, 18, 19] (by decide) (by decide) (List.forall_mem_cons.mpr ⟨e0, (List.forall_mem_cons.mpr ⟨e1, (List.forall_mem_cons.mpr ⟨e2, (List.forall_mem_cons.mpr ⟨e3, (List.forall_mem_cons.mpr ⟨e4, (List.forall_mem_cons.mpr ⟨e5, (List.forall_mem_cons.mpr ⟨e6, (List.forall_mem_cons.mpr ⟨e7, (List.forall_mem_cons.mpr ⟨e8, (List.forall_mem_cons.mpr ⟨e9, (List.forall_mem_cons.mpr ⟨e10, (List.forall_mem_cons.mpr ⟨e11, (List.forall_mem_cons.mpr ⟨e12, (List.forall_mem_cons.mpr ⟨e13, (List.forall_mem_cons.mpr ⟨e14, (List.forall_mem_cons.mpr ⟨e15, (List.forall_mem_cons.mpr ⟨e16, (List.forall_mem_cons.mpr ⟨e17, (List.forall_mem_cons.mpr ⟨e18, (List.forall_mem_cons.mpr ⟨e19, (fun _ h => absurd h List.not_mem_nil)⟩)⟩)⟩)⟩)⟩)⟩)⟩)⟩)⟩)⟩)⟩)⟩)⟩)⟩)⟩)⟩)⟩)⟩)⟩)⟩)) (by decide) ?_
      exact fin _ _ (Rl_q hR (Kp_refl hR.1) (Km_up1 (Km_refl hR.2.1.1 hR.2.1.2)))
set_option maxHeartbeats 4000000 in
set_option maxRecDepth 100000 in
/-- YOUR PART: from the entry, for every script of at most 3072 ints, the law comes to its end with true -/
theorem whole_start {p : Program} {e : Env} {s : State} {m : MethodId} {below : List Frame} {meth : Method} {c : Code} (l : Launch) {b L : Nat} {xs : Nat → Int32} (hL : L ≤ 3072) (C0 : lw_At p s m meth c b L xs) : W p l e room_1 s m #[Value.ref b] below meth c s.heap [] 0 0 (lw_Z below #[Value.ref b] s) (entryFrame m ([Value.ref b] : List Value).toArray 4) := by
  obtain ⟨hx, hb, hr, hml, hown, hts, hX, hbl, hlocks, hgv⟩ := id C0
  obtain ⟨D, cy, hKK⟩ := kk_start hts
  obtain ⟨cs, cv, z, hw⟩ := sw_start hts hgv
  have f : ∀ X, Fx (kM p l e s m b below meth c D cy X) cL_law RL 4 room_1 := fun X => ⟨hx, hb, hml, rfl, hown, fun w h => hts w (lwG h), hKK, fun q h => h, rfl, hlocks⟩
  have key : V (kM p l e s m b below meth c D cy []) (fun _ => 0) 0 0 [] (fun _ _ => 0) 0 [(0, .ref b)] [] := by
    refine V_newF (ci := 8) (n := 0) (Z1 := [(8, 0, List.replicate 15 none)]) (lvF := fun _ => [(0, .ref b)]) (stF := fun _ => []) (f _) dL_law_0 (by decide) rfl inG8 tyX8 tyX8_ok ck_L_7 ist8 ini8 (by decide) (by decide) (by decide) rfl rfl (fun _ _ => ⟨rfl, rfl⟩) (fun a1 g1 => ?_)
    refine V_dup (f _) dL_law_3 rfl ?_
    refine V_cI (AsF := fun _ => []) (i := 0) (n := 1) (Z1 := ZB) (lvF := fun _ => [(0, .ref b)]) (stF := fun ad => [.ref (ad 0)]) (f _) dL_law_4 lk_L_9 ml_L_9 ins_X8_init rfl (n_X8_init _ _ _ _ a1 _) rfl rfl (Nat.le_of_ble_eq_true rfl) ⟨by decide, by decide⟩ ⟨by decide, by decide⟩ rfl (fun a h => ⟨rfl, by simp only [h 0 (by decide)]⟩) (fun aB MB gB hB => ?_)
    refine V_astore_n (f _) dL_law_7 rfl (by decide) rfl ?_
    refine V.split (ad2 := fun _ => 0) (M2 := fun _ _ => 0) ?_
    refine V_newF (ci := 9) (n := 0) (Z1 := [(9, 0, List.replicate 48 none)]) (lvF := fun _ => [(1, .ref (aB 0)), (0, .ref b)]) (stF := fun _ => []) (f _) dL_law_8 (by decide) rfl inG9 tyX9 tyX9_ok ck_L_10 ist9 ini9 (by decide) (by decide) (by decide) rfl rfl (fun _ _ => ⟨rfl, rfl⟩) (fun a2 g2 => ?_)
    refine V_dup (f _) dL_law_11 rfl ?_
    refine V_cI (AsF := fun _ => []) (i := 0) (n := 1) (Z1 := ZM) (lvF := fun _ => [(1, .ref (aB 0)), (0, .ref b)]) (stF := fun ad => [.ref (ad 0)]) (f _) dL_law_12 lk_L_12 ml_L_12 ins_X9_init rfl (n_X9_init _ _ _ _ a2 _ (by simp [va_up])) rfl rfl (Nat.le_of_ble_eq_true rfl) ⟨by decide, by decide⟩ ⟨by decide, by decide⟩ rfl (fun a h => ⟨rfl, by simp only [h 0 (by decide)]⟩) (fun aM MM gM hM => ?_)
    refine V_astore_n (f _) dL_law_15 rfl (by decide) rfl ?_
    refine V_iconst (v := 0) (f _) dL_law_16 (by decide) ?_
    refine V_istore_n (f _) dL_law_17 rfl (by decide) rfl ?_
    exact law_loop f hr hL hX hbl aB aM (by decide) (by decide) hw 600 0 0 MB MM rfl (by decide) (R_start hB.1 hB.2.2 hM.1 hM.2)
  have hP0 : va_P D vwCl ([] : va_W) s.heap := fun k q h => by simp at h
  have hD0 : va_D (fun q : Nat => s.heap.size ≤ q) ([] : va_W) := ⟨fun i j p q h => by simp at h, fun k q h => by simp at h⟩
  have hl := lv_entry ([.ref b]) (n := 4) (Nat.le_of_ble_eq_true rfl)
  rw [lg_entry_eq]
  have h : W p l e room_1 s m #[Value.ref b] below meth c s.heap [] 0 0 (lw_Z below #[Value.ref b] s) (F0 m 0 _ []) := key s.heap [] _ (fun z hz => absurd hz List.not_mem_nil) hP0 hD0 va_S.rf hl
  exact h

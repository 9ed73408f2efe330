theorem div10 {x : Int32} (h : 0 ≤ x.toInt) : (x / 10).toInt = x.toInt / 10 := by
  have e : (10 : Int32).toInt = 10 := by decide
  rw [Int32.toInt_div_of_ne_right x 10 (by decide), e]
  exact Int.tdiv_eq_ediv_of_nonneg h
theorem burn_w {x : Int32} {wb : Int} (h : ¬ x ≤ 0) (hw : x.toInt ≤ wb) (hb : wb ≤ 102400) : 0 ≤ (x - (if 1 < (x / 10) then (x / 10) else 1)).toInt ∧ (x - (if 1 < (x / 10) then (x / 10) else 1)).toInt ≤ wb := by
  have e0 : (0 : Int32).toInt = 0 := by decide
  have e1 : (1 : Int32).toInt = 1 := by decide
  rw [Int32.le_iff_toInt_le] at h
  have hd := div10 (x := x) (by omega)
  by_cases q : 1 < (x / 10)
  · rw [if_pos q]
    rw [Int32.lt_iff_toInt_lt] at q
    rw [Int32.toInt_sub, Int.bmod_eq_of_le (by omega) (by omega)]
    omega
  · rw [if_neg q, Int32.toInt_sub, Int.bmod_eq_of_le (by omega) (by omega)]
    omega
theorem Km_bw {wb sb : Int} {M0 M : MT} (h : Km wb sb M0 M) (hb : wb ≤ 102400) {k : Nat} (hk : k < 10) (hp : ¬ M 8 k ≤ 0) : Km wb sb M0 (up2 M 8 k ((M 8 k) - (if 1 < ((M 8 k) / 10) then ((M 8 k) / 10) else 1))) := ⟨Kf_up h.1 (by decide) _ _, InvW_8 h.2 (Int.le_refl _) (burn_w hp (h.2.2.2.1 k hk).2 hb)⟩
set_option maxHeartbeats 4000000 in
theorem Km_dries {wb sb : Int} {M0 M : MT} (h : Km wb sb M0 M) (a : Int32) (b : Int32) (e : Int32) (g : Int32) : Km wb sb M0 (s_X9_dries M a b e g) := by
  unfold s_X9_dries
  by_cases q1 : (M 2 (Int32.toNatClampNeg a)) = 0
  · rw [if_pos q1]
    exact (Km_nr h (by decide) _ _)
  · rw [if_neg q1]
    by_cases q2 : (M 2 (Int32.toNatClampNeg a)) = 2
    · rw [if_pos q2]
      exact (Km_nr (Km_nr (Km_nr h (by decide) _ _) (by decide) _ _) (by decide) _ _)
    · rw [if_neg q2]
      exact (Km_nr (Km_nr (Km_nr h (by decide) _ _) (by decide) _ _) (by decide) _ _)
set_option maxHeartbeats 4000000 in
theorem Km_heats {wb sb : Int} {M0 M : MT} (h : Km wb sb M0 M) (a : Int32) (b : Int32) (hb : wb ≤ 102400) (ha : Int32.toNatClampNeg a < 10) (hp : ¬ M 8 (Int32.toNatClampNeg a) ≤ 0) : Km wb sb M0 (s_X9_heats M a b) := by
  unfold s_X9_heats
  by_cases q1 : (s_X9_burns M a) = 0
  · rw [if_pos q1]
    by_cases q2 : (M 9 (Int32.toNatClampNeg a)) ≤ 500
    · rw [if_pos q2]
      by_cases q3 : b ≤ 20
      · rw [if_pos q3]
        by_cases q4 : (if 10 < (if ((M 10 (Int32.toNatClampNeg a)) + (((1 + ((M 8 (Int32.toNatClampNeg a)) / 500)) + 0) - 0)) < 100 then ((M 10 (Int32.toNatClampNeg a)) + (((1 + ((M 8 (Int32.toNatClampNeg a)) / 500)) + 0) - 0)) else 100) then (if ((M 10 (Int32.toNatClampNeg a)) + (((1 + ((M 8 (Int32.toNatClampNeg a)) / 500)) + 0) - 0)) < 100 then ((M 10 (Int32.toNatClampNeg a)) + (((1 + ((M 8 (Int32.toNatClampNeg a)) / 500)) + 0) - 0)) else 100) else 10) = 100
        · rw [if_pos q4]
          exact (Km_nr (Km_nr h (by decide) _ _) (by decide) _ _)
        · rw [if_neg q4]
          exact (Km_nr h (by decide) _ _)
      · rw [if_neg q3]
        by_cases q5 : (if 10 < (if ((M 10 (Int32.toNatClampNeg a)) + (((1 + ((M 8 (Int32.toNatClampNeg a)) / 500)) + 0) - 3)) < 100 then ((M 10 (Int32.toNatClampNeg a)) + (((1 + ((M 8 (Int32.toNatClampNeg a)) / 500)) + 0) - 3)) else 100) then (if ((M 10 (Int32.toNatClampNeg a)) + (((1 + ((M 8 (Int32.toNatClampNeg a)) / 500)) + 0) - 3)) < 100 then ((M 10 (Int32.toNatClampNeg a)) + (((1 + ((M 8 (Int32.toNatClampNeg a)) / 500)) + 0) - 3)) else 100) else 10) = 100
        · rw [if_pos q5]
          exact (Km_nr (Km_nr h (by decide) _ _) (by decide) _ _)
        · rw [if_neg q5]
          exact (Km_nr h (by decide) _ _)
    · rw [if_neg q2]
      by_cases q6 : b ≤ 20
      · rw [if_pos q6]
        by_cases q7 : (if 10 < (if ((M 10 (Int32.toNatClampNeg a)) + (((1 + ((M 8 (Int32.toNatClampNeg a)) / 500)) + 2) - 0)) < 100 then ((M 10 (Int32.toNatClampNeg a)) + (((1 + ((M 8 (Int32.toNatClampNeg a)) / 500)) + 2) - 0)) else 100) then (if ((M 10 (Int32.toNatClampNeg a)) + (((1 + ((M 8 (Int32.toNatClampNeg a)) / 500)) + 2) - 0)) < 100 then ((M 10 (Int32.toNatClampNeg a)) + (((1 + ((M 8 (Int32.toNatClampNeg a)) / 500)) + 2) - 0)) else 100) else 10) = 100
        · rw [if_pos q7]
          exact (Km_nr (Km_nr h (by decide) _ _) (by decide) _ _)
        · rw [if_neg q7]
          exact (Km_nr h (by decide) _ _)
      · rw [if_neg q6]
        by_cases q8 : (if 10 < (if ((M 10 (Int32.toNatClampNeg a)) + (((1 + ((M 8 (Int32.toNatClampNeg a)) / 500)) + 2) - 3)) < 100 then ((M 10 (Int32.toNatClampNeg a)) + (((1 + ((M 8 (Int32.toNatClampNeg a)) / 500)) + 2) - 3)) else 100) then (if ((M 10 (Int32.toNatClampNeg a)) + (((1 + ((M 8 (Int32.toNatClampNeg a)) / 500)) + 2) - 3)) < 100 then ((M 10 (Int32.toNatClampNeg a)) + (((1 + ((M 8 (Int32.toNatClampNeg a)) / 500)) + 2) - 3)) else 100) else 10) = 100
        · rw [if_pos q8]
          exact (Km_nr (Km_nr h (by decide) _ _) (by decide) _ _)
        · rw [if_neg q8]
          exact (Km_nr h (by decide) _ _)
  · rw [if_neg q1]
    exact (Km_0 (Km_bw h hb ha hp) (by decide) (by decide) _)
def DM (wb sb : Int) (M : MT) (a b e : Int32) (v : Option Value) (M1 : MT) : Prop := InvS M1 ∧ InvW wb (sb + 1024000) M1 ∧ M1 0 9 = M 0 9 ∧ M1 0 1 = M 0 1 ∧ (M1 0 31 = M 0 31 ∧ M1 0 30 = M 0 30 ∧ M1 0 27 = M 0 27 ∧ ∀ i, eP i → M1 i = M i) ∧ ((v = some (.int (-1)) ∧ M1 0 0 = M 0 0 ∧ ((s_X9_isIn M a 0 10) = 0 ∨ (s_X9_isIn M b 0 10) = 0 ∨ (s_X9_isIn M e 0 50) = 0 ∨ (M 0 0) = 1000)) ∨ (v = some (.int ((M 0 0) + 1)) ∧ M1 0 0 = (M 0 0) + 1 ∧ ¬ (s_X9_isIn M a 0 10) = 0 ∧ ¬ (s_X9_isIn M b 0 10) = 0 ∧ ¬ (s_X9_isIn M e 0 50) = 0 ∧ ¬ (M 0 0) = 1000))
theorem InvW_mono {wb sb sb' : Int} {M : MT} (h : InvW wb sb M) (hs : sb ≤ sb') : InvW wb sb' M := ⟨h.1, by have := h.2.1; omega, h.2.2⟩
theorem mday_end {wb sb : Int} {M M1 : MT} {a b e x : Int32} (h : Km wb (sb + 102400 * x.toInt) (up2 M 0 0 ((M 0 0) + 1)) M1) (hx : x.toInt ≤ 10) (w1 : ¬ (s_X9_isIn M a 0 10) = 0) (w2 : ¬ (s_X9_isIn M b 0 10) = 0) (w3 : ¬ (s_X9_isIn M e 0 50) = 0) (w4 : ¬ (M 0 0) = 1000) : DM wb sb M a b e (some (.int (M1 0 0))) M1 := by
  obtain ⟨⟨k1, k2, k3, k4, k5, k6, k7, k8⟩, hW⟩ := h
  rw [up_s] at k3
  exact ⟨k1, InvW_mono hW (by omega), by rw [k2]; exact up_k (by decide) rfl, by rw [k4]; exact up_k (by decide) rfl, ⟨by rw [k5]; exact up_k (by decide) rfl, by rw [k6]; exact up_k (by decide) rfl, by rw [k7]; exact up_k (by decide) rfl, fun i hi => (k8 i hi).trans (upo (by unfold eP at hi; omega))⟩, Or.inr ⟨by rw [k3], k3, w1, w2, w3, w4⟩⟩
theorem min_sub {x y : Int32} {A : Int} (hx : 0 ≤ x.toInt ∧ x.toInt ≤ 1000) (hy : 0 ≤ y.toInt ∧ y.toInt ≤ A) : (0 ≤ (y - (if y < x then y else x)).toInt ∧ (y - (if y < x then y else x)).toInt ≤ A) ∧ 0 ≤ (x - (if y < x then y else x)).toInt ∧ (x - (if y < x then y else x)).toInt ≤ 1000 := by
  have hb := Int32.toInt_lt y
  by_cases q : y < x
  · rw [if_pos q]
    rw [Int32.lt_iff_toInt_lt] at q
    rw [Int32.toInt_sub, Int32.toInt_sub, Int.bmod_eq_of_le (by omega) (by omega), Int.bmod_eq_of_le (by omega) (by omega)]
    omega
  · rw [if_neg q]
    rw [Int32.lt_iff_toInt_lt] at q
    rw [Int32.toInt_sub, Int32.toInt_sub, Int.bmod_eq_of_le (by omega) (by omega), Int.bmod_eq_of_le (by omega) (by omega)]
    omega
theorem Km_04 {wb sb sb' : Int} {M M1 : MT} (h : Km wb sb M M1) {v : Int32} (hv : 0 ≤ v.toInt ∧ v.toInt ≤ sb') : Km wb sb' M (up2 M1 0 4 v) := ⟨Kf_0 h.1 (by decide) v, InvW_4 h.2 hv⟩
theorem Km_8 {wb sb : Int} {M M1 : MT} (h : Km wb sb M M1) {k : Nat} {v : Int32} (hv : 0 ≤ v.toInt ∧ v.toInt ≤ wb) : Km wb sb M (up2 M1 8 k v) := ⟨Kf_up h.1 (by decide) _ _, InvW_8 h.2 (Int.le_refl _) hv⟩
theorem Km_80 {wb sb : Int} {M M1 : MT} (h : Km wb sb M M1) (hw : 0 ≤ wb) {k : Nat} : Km wb sb M (up2 M1 8 k 0) := Km_8 h (by have e0 : (0 : Int32).toInt = 0 := (by decide); rw [e0]; exact ⟨Int.le_refl 0, hw⟩)
theorem Km_day {wb sb : Int} {M M1 : MT} (h : Km wb sb M M1) (x y z : Int32) : Km wb sb (up2 M 0 0 ((M 0 0) + 1)) (up2 (up2 (up2 (up2 M1 0 5 x) 0 6 y) 0 7 z) 0 0 ((M1 0 0) + 1)) := by
  have h3 := Km_0 (Km_0 (Km_0 h (k := 5) (by decide) (by decide) x) (k := 6) (by decide) (by decide) y) (k := 7) (by decide) (by decide) z
  obtain ⟨⟨k1, k2, k3, k4, k5, k6, k7, k8⟩, hW⟩ := h3
  refine ⟨⟨InvS_0 k1 (by decide) _, ?_, ?_, ?_, ?_, ?_, ?_, fun i hi => ?_⟩, InvW_0 hW (by decide) _⟩
  · rw [up_k (by decide) rfl, up_k (by decide) rfl]; exact k2
  · rw [up_s, up_s, h.1.2.2.1]
  · rw [up_k (show (1 : Nat) ≠ 0 by decide) rfl, up_k (show (1 : Nat) ≠ 0 by decide) rfl]; exact k4
  · rw [up_k (show (31 : Nat) ≠ 0 by decide) rfl, up_k (show (31 : Nat) ≠ 0 by decide) rfl]; exact k5
  · rw [up_k (show (30 : Nat) ≠ 0 by decide) rfl, up_k (show (30 : Nat) ≠ 0 by decide) rfl]; exact k6
  · rw [up_k (show (27 : Nat) ≠ 0 by decide) rfl, up_k (show (27 : Nat) ≠ 0 by decide) rfl]; exact k7
  · exact (upo (show ¬ i = 0 by unfold eP at hi; omega)).trans ((k8 i hi).trans (upo (show ¬ i = 0 by unfold eP at hi; omega)).symm)
theorem send_b {wb sb : Int} {M M1 : MT} {k : Nat} (h : Km wb sb M M1) (hk : k < 10) (hwb : wb ≤ 102400) (hsb : sb ≤ 700000000) : 0 ≤ ((M1 0 4) + (M1 8 k)).toInt ∧ ((M1 0 4) + (M1 8 k)).toInt ≤ sb + 102400 := by
  have h1 := h.2.2.1
  have h2 := h.2.2.2.1 k hk
  rw [Int32.toInt_add, Int.bmod_eq_of_le (by omega) (by omega)]
  omega
theorem Km_wid {wb sb sb' : Int} {M M1 : MT} (h : Km wb sb M M1) (hs : sb ≤ sb') : Km wb sb' M M1 := ⟨h.1, InvW_mono h.2 hs⟩
set_option maxHeartbeats 4000000 in
set_option maxRecDepth 100000 in
theorem c3_X9_day (l : Launch) (D : va_G) (cy : Nat → ClassId) (X : va_W) (ad : Nat → Nat) (M : MT) (a : Int32) (b : Int32) (e : Int32) (wb sb : Int) (hS : InvS M) (hW : InvW wb sb M) (hwb : 0 ≤ wb ∧ wb ≤ 102400) (hsb : 0 ≤ sb ∧ sb ≤ 600000000) : CtP l yX9_day cX9_day 8 (some .int) (rK 2) D cy X ad ZM M [.ref (ad 0), .int a, .int b, .int e] (DM wb sb M a b e) := by
  refine Ctr.of (by decide +kernel) (Nat.le_of_ble_eq_true rfl) ?_
  intro K f q hnm hl0 hD0 hy0 hX0
  show V K ad 0 0 ZM M 0 [(0, .ref (ad 0)), (1, .int a), (2, .int b), (3, .int e)] []
  have loop4 : ¬ (s_X9_isIn M a 0 10) = 0 → ¬ (s_X9_isIn M b 0 10) = 0 → ¬ (s_X9_isIn M e 0 50) = 0 → ¬ (M 0 0) = 1000 → ∀ (n : Nat) (x t4 t5 : Int32) (M1 : MT), 0 ≤ x.toInt → x.toInt + (n : Nat) = 1000 → x.toInt ≤ 10 → Km wb (sb + 102400 * x.toInt) (up2 M 0 0 ((M 0 0) + 1)) M1 → V K ad 0 0 ZM M1 246 [(6, .int x), (4, .int t4), (5, .int t5), (0, .ref (ad 0)), (1, .int a), (2, .int b), (3, .int e)] [] := by
    intro w1 w2 w3 w4 n
    induction n using Nat.strongRecOn with
    | ind n ih =>
      intro x t4 t5 M1 x0 hx hx10 hK1
      refine V_iload f dX9_day_246 0 rfl ?_
      refine V_aload_n f dX9_day_248 3 rfl ?_
      refine V_getE (x := M1 0 9) f dX9_day_249 lf_9_113 rfl zm_0 rfl ?_
      refine V_icmp_ge (tgt := 384) f dX9_day_252 (by decide) (fun c5 => ?_) (fun c5 => ?_)
      · refine V_aload_n f dX9_day_384 3 rfl ?_
        refine V_getE (x := M1 0 0) f dX9_day_385 lf_9_194 rfl zm_0 rfl ?_
        exact V_iret f q dX9_day_388 rfl (Nat.zero_le _) (Nat.zero_le _) ⟨rfl, rfl, mday_end hK1 hx10 w1 w2 w3 w4⟩
      · refine V_aload_n f dX9_day_255 3 rfl ?_
        refine V_getE (x := M1 0 0) f dX9_day_256 lf_9_194 rfl zm_0 rfl ?_
        refine V_bipush (v := 7) f dX9_day_259 (by decide) ?_
        refine V_irem f dX9_day_261 (by decide) ?_
        refine V_if_ne (tgt := 384) f dX9_day_262 (by decide) (fun c6 => ?_) (fun c6 => ?_)
        · refine V_aload_n f dX9_day_384 3 rfl ?_
          refine V_getE (x := M1 0 0) f dX9_day_385 lf_9_194 rfl zm_0 rfl ?_
          exact V_iret f q dX9_day_388 rfl (Nat.zero_le _) (Nat.zero_le _) ⟨rfl, rfl, mday_end hK1 hx10 w1 w2 w3 w4⟩
        · refine V_aload_n f dX9_day_265 3 rfl ?_
          refine V_getR f dX9_day_266 lf_9_31 rfl zm_0 rfl ?_
          refine V_iload f dX9_day_269 0 rfl ?_
          refine V_ialdE (x := M1 8 (Int32.toNatClampNeg x)) f dX9_day_271 zm_8 (vinN x0 c5 hK1.1.1.1.2) rfl ?_
          refine V_if_eq (tgt := 378) f dX9_day_272 (by decide) (fun c7 => ?_) (fun c7 => ?_)
          · refine V_iinc (v := x + 1) f dX9_day_378 0 rfl rfl (by decide) rfl ?_
            refine V_goto (tgt := 246) f dX9_day_381 (by decide) ?_
            obtain ⟨k9, e9, y0, y1⟩ := lo_inc x0 hx c5 (by have := hK1.1.1.1.2; omega)
            have hlt := vlt (vinN x0 c5 hK1.1.1.1.2)
            have hx9 : x.toInt < 10 := by have q9 : vp_in x 10 := (vinN x0 c5 hK1.1.1.1.2); rw [vp_in_iff] at q9; omega
            exact ih k9 (by omega) (x + 1) _ _ _ y0 y1 (by omega) (Km_wid hK1 (by omega))
          · refine V_aload_n f dX9_day_275 3 rfl ?_
            refine V_iload f dX9_day_276 0 rfl ?_
            refine V_cVi (As := [.int x]) (rest := []) f dX9_day_278 lk_X9_234 ml_X9_234 ins_X9_burns sel_X9_burns zm_0 (by decide) rfl (c_X9_burns (kl K) (kD K) (ky K) (kX K) ad M1 x (vinN x0 c5 hK1.1.1.1.2)) rfl (Nat.le_of_ble_eq_true rfl) rfl ⟨by decide, by decide⟩ ⟨Nat.zero_le _, Nat.zero_le _⟩ rfl rfl ?_
            refine V_if_eq (tgt := 287) f dX9_day_281 (by decide) (fun c8 => ?_) (fun c8 => ?_)
            · refine V_aload_n f dX9_day_287 3 rfl ?_
              refine V_iload f dX9_day_288 0 rfl ?_
              refine V_aload_n f dX9_day_290 3 rfl ?_
              refine V_getE (x := M1 0 0) f dX9_day_291 lf_9_194 rfl zm_0 rfl ?_
              refine V_cVp (As := [.int x, .int (M1 0 0)]) (rest := []) f dX9_day_294 lk_X9_269 ml_X9_269 ins_X9_act sel_X9_act zm_0 (by decide) rfl (c3_X9_act _ _ _ _ ad M1 x (M1 0 0) hK1.1.1 (vinN x0 c5 hK1.1.1.1.2)) rfl (Nat.le_of_ble_eq_true rfl) rfl ⟨by decide, by decide⟩ ⟨Nat.zero_le _, Nat.zero_le _⟩ rfl rfl (fun v9 Mx9 hp9 => ?_)
              obtain ⟨⟨r9, rfl⟩, e9⟩ := hp9
              rw [e9]
              show V K ad 0 0 ZM M1 297 [(6, .int x), (4, .int t4), (5, .int t5), (0, .ref (ad 0)), (1, .int a), (2, .int b), (3, .int e)] [.int r9]
              refine V_istore f dX9_day_297 (by decide) rfl ?_
              refine V_iload f dX9_day_299 0 rfl ?_
              refine V_iconst (v := 3) f dX9_day_301 (by decide) ?_
              refine V_icmp_ne (tgt := 337) f dX9_day_302 (by decide) (fun c10 => ?_) (fun c10 => ?_)
              · refine V_iload f dX9_day_337 0 rfl ?_
                refine V_iconst (v := 4) f dX9_day_339 (by decide) ?_
                refine V_icmp_eq (tgt := 346) f dX9_day_340 (by decide) (fun c11 => ?_) (fun c11 => ?_)
                · refine V_aload_n f dX9_day_346 4 rfl ?_
                  refine V_dup f dX9_day_347 rfl ?_
                  refine V_getE (x := M1 0 4) f dX9_day_348 lf_9_257 rfl zm_0 rfl ?_
                  refine V_aload_n f dX9_day_351 4 rfl ?_
                  refine V_getR f dX9_day_352 lf_9_31 rfl zm_0 rfl ?_
                  refine V_iload f dX9_day_355 1 rfl ?_
                  refine V_ialdE (x := M1 8 (Int32.toNatClampNeg x)) f dX9_day_357 zm_8 (vinN x0 c5 hK1.1.1.1.2) rfl ?_
                  refine V_iadd f dX9_day_358 ?_
                  refine V_putI f dX9_day_359 lf_9_257 lp_9_4 rfl rfl rfl rfl zm_0 ?_
                  refine V_aload_n f dX9_day_362 4 rfl ?_
                  refine V_getR f dX9_day_363 lf_9_31 rfl zm_0 rfl ?_
                  refine V_iload f dX9_day_366 1 rfl ?_
                  refine V_iconst (v := 0) f dX9_day_368 (by decide) ?_
                  refine V_iast f dX9_day_369 zm_8 (vinN x0 c5 hK1.1.1.1.2) ?_
                  refine V_aload_n f dX9_day_370 4 rfl ?_
                  refine V_getR f dX9_day_371 lf_9_52 rfl zm_0 rfl ?_
                  refine V_iload f dX9_day_374 1 rfl ?_
                  refine V_iconst (v := 1) f dX9_day_376 (by decide) ?_
                  refine V_zast f dX9_day_377 zm_15 (vinN x0 c5 hK1.1.1.1.2) ?_
                  refine V_iinc (v := x + 1) f dX9_day_378 1 rfl rfl (by decide) rfl ?_
                  refine V_goto (tgt := 246) f dX9_day_381 (by decide) ?_
                  refine V.sub [0, 2, 3, 4, 5, 6, 7] rfl ?_
                  obtain ⟨k9, e9, y0, y1⟩ := lo_inc x0 hx c5 (by have := hK1.1.1.1.2; omega)
                  have hlt := vlt (vinN x0 c5 hK1.1.1.1.2)
                  have hx9 : x.toInt < 10 := by have q9 : vp_in x 10 := (vinN x0 c5 hK1.1.1.1.2); rw [vp_in_iff] at q9; omega
                  exact ih k9 (by omega) (x + 1) _ _ _ y0 y1 (by omega) (Km_wid (Km_nr (Km_80 (Km_04 hK1 (send_b hK1 hlt hwb.2 (by omega))) hwb.1) (by decide) _ _) (by omega))
                · refine V_goto (tgt := 378) f dX9_day_343 (by decide) ?_
                  refine V_iinc (v := x + 1) f dX9_day_378 1 rfl rfl (by decide) rfl ?_
                  refine V_goto (tgt := 246) f dX9_day_381 (by decide) ?_
                  refine V.sub [0, 2, 3, 4, 5, 6, 7] rfl ?_
                  obtain ⟨k9, e9, y0, y1⟩ := lo_inc x0 hx c5 (by have := hK1.1.1.1.2; omega)
                  have hlt := vlt (vinN x0 c5 hK1.1.1.1.2)
                  have hx9 : x.toInt < 10 := by have q9 : vp_in x 10 := (vinN x0 c5 hK1.1.1.1.2); rw [vp_in_iff] at q9; omega
                  exact ih k9 (by omega) (x + 1) _ _ _ y0 y1 (by omega) (Km_wid hK1 (by omega))
              · refine V_aload_n f dX9_day_305 4 rfl ?_
                refine V_getR f dX9_day_306 lf_9_37 rfl zm_0 rfl ?_
                refine V_iload f dX9_day_309 1 rfl ?_
                refine V_bipush (v := 10) f dX9_day_311 (by decide) ?_
                refine V_aload_n f dX9_day_313 4 rfl ?_
                refine V_getR f dX9_day_314 lf_9_37 rfl zm_0 rfl ?_
                refine V_iload f dX9_day_317 1 rfl ?_
                refine V_ialdE (x := M1 10 (Int32.toNatClampNeg x)) f dX9_day_319 zm_10 (vinN x0 c5 hK1.1.1.1.2) rfl ?_
                refine V_iconst (v := 2) f dX9_day_320 (by decide) ?_
                refine V_idiv f dX9_day_321 (by decide) ?_
                refine V_mmax f dX9_day_322 ml_X9_216 ma_max ma_ini mc_max (by decide) (Nat.le_of_ble_eq_true rfl) (Nat.zero_le _) (Nat.zero_le _) ?_
                refine V_iast f dX9_day_325 zm_10 (vinN x0 c5 hK1.1.1.1.2) ?_
                refine V_aload_n f dX9_day_326 4 rfl ?_
                refine V_getR f dX9_day_327 lf_9_49 rfl zm_0 rfl ?_
                refine V_iload f dX9_day_330 1 rfl ?_
                refine V_dup2 f dX9_day_332 rfl rfl ?_
                refine V_ialdE (x := M1 14 (Int32.toNatClampNeg x)) f dX9_day_333 zm_14 (vinN x0 c5 hK1.1.1.1.2) (up_c (by decide) rfl) ?_
                refine V_iconst (v := 1) f dX9_day_334 (by decide) ?_
                refine V_iadd f dX9_day_335 ?_
                refine V_iast f dX9_day_336 zm_14 (vinN x0 c5 hK1.1.1.1.2) ?_
                refine V_iload f dX9_day_337 0 rfl ?_
                refine V_iconst (v := 4) f dX9_day_339 (by decide) ?_
                refine V_icmp_eq (tgt := 346) f dX9_day_340 (by decide) (fun c12 => ?_) (fun c12 => ?_)
                · refine V_aload_n f dX9_day_346 4 rfl ?_
                  refine V_dup f dX9_day_347 rfl ?_
                  refine V_getE (x := M1 0 4) f dX9_day_348 lf_9_257 rfl zm_0 (up_c (by decide) (up_c (by decide) rfl)) ?_
                  refine V_aload_n f dX9_day_351 4 rfl ?_
                  refine V_getR f dX9_day_352 lf_9_31 rfl zm_0 rfl ?_
                  refine V_iload f dX9_day_355 1 rfl ?_
                  refine V_ialdE (x := M1 8 (Int32.toNatClampNeg x)) f dX9_day_357 zm_8 (vinN x0 c5 hK1.1.1.1.2) (up_c (by decide) (up_c (by decide) rfl)) ?_
                  refine V_iadd f dX9_day_358 ?_
                  refine V_putI f dX9_day_359 lf_9_257 lp_9_4 rfl rfl rfl rfl zm_0 ?_
                  refine V_aload_n f dX9_day_362 4 rfl ?_
                  refine V_getR f dX9_day_363 lf_9_31 rfl zm_0 rfl ?_
                  refine V_iload f dX9_day_366 1 rfl ?_
                  refine V_iconst (v := 0) f dX9_day_368 (by decide) ?_
                  refine V_iast f dX9_day_369 zm_8 (vinN x0 c5 hK1.1.1.1.2) ?_
                  refine V_aload_n f dX9_day_370 4 rfl ?_
                  refine V_getR f dX9_day_371 lf_9_52 rfl zm_0 rfl ?_
                  refine V_iload f dX9_day_374 1 rfl ?_
                  refine V_iconst (v := 1) f dX9_day_376 (by decide) ?_
                  refine V_zast f dX9_day_377 zm_15 (vinN x0 c5 hK1.1.1.1.2) ?_
                  refine V_iinc (v := x + 1) f dX9_day_378 1 rfl rfl (by decide) rfl ?_
                  refine V_goto (tgt := 246) f dX9_day_381 (by decide) ?_
                  refine V.sub [0, 2, 3, 4, 5, 6, 7] rfl ?_
                  obtain ⟨k9, e9, y0, y1⟩ := lo_inc x0 hx c5 (by have := hK1.1.1.1.2; omega)
                  have hlt := vlt (vinN x0 c5 hK1.1.1.1.2)
                  have hx9 : x.toInt < 10 := by have q9 : vp_in x 10 := (vinN x0 c5 hK1.1.1.1.2); rw [vp_in_iff] at q9; omega
                  exact ih k9 (by omega) (x + 1) _ _ _ y0 y1 (by omega) (Km_wid (Km_nr (Km_80 (Km_04 (Km_nr (Km_nr hK1 (by decide) _ _) (by decide) _ _) (send_b hK1 hlt hwb.2 (by omega))) hwb.1) (by decide) _ _) (by omega))
                · refine V_goto (tgt := 378) f dX9_day_343 (by decide) ?_
                  refine V_iinc (v := x + 1) f dX9_day_378 1 rfl rfl (by decide) rfl ?_
                  refine V_goto (tgt := 246) f dX9_day_381 (by decide) ?_
                  refine V.sub [0, 2, 3, 4, 5, 6, 7] rfl ?_
                  obtain ⟨k9, e9, y0, y1⟩ := lo_inc x0 hx c5 (by have := hK1.1.1.1.2; omega)
                  have hlt := vlt (vinN x0 c5 hK1.1.1.1.2)
                  have hx9 : x.toInt < 10 := by have q9 : vp_in x 10 := (vinN x0 c5 hK1.1.1.1.2); rw [vp_in_iff] at q9; omega
                  exact ih k9 (by omega) (x + 1) _ _ _ y0 y1 (by omega) (Km_wid (Km_nr (Km_nr hK1 (by decide) _ _) (by decide) _ _) (by omega))
            · refine V_goto (tgt := 378) f dX9_day_284 (by decide) ?_
              refine V_iinc (v := x + 1) f dX9_day_378 0 rfl rfl (by decide) rfl ?_
              refine V_goto (tgt := 246) f dX9_day_381 (by decide) ?_
              obtain ⟨k9, e9, y0, y1⟩ := lo_inc x0 hx c5 (by have := hK1.1.1.1.2; omega)
              have hlt := vlt (vinN x0 c5 hK1.1.1.1.2)
              have hx9 : x.toInt < 10 := by have q9 : vp_in x 10 := (vinN x0 c5 hK1.1.1.1.2); rw [vp_in_iff] at q9; omega
              exact ih k9 (by omega) (x + 1) _ _ _ y0 y1 (by omega) (Km_wid hK1 (by omega))
  have loop3 : ¬ (s_X9_isIn M a 0 10) = 0 → ¬ (s_X9_isIn M b 0 10) = 0 → ¬ (s_X9_isIn M e 0 50) = 0 → ¬ (M 0 0) = 1000 → ∀ (n : Nat) (x t4 t5 : Int32) (M1 : MT), 0 ≤ x.toInt → x.toInt + (n : Nat) = 1000 → (0 ≤ t4.toInt ∧ t4.toInt ≤ 1000) → Km wb sb M M1 → V K ad 0 0 ZM M1 140 [(6, .int x), (4, .int t4), (5, .int t5), (0, .ref (ad 0)), (1, .int a), (2, .int b), (3, .int e)] [] := by
    intro w1 w2 w3 w4 n
    induction n using Nat.strongRecOn with
    | ind n ih =>
      intro x t4 t5 M1 x0 hx ht hK1
      refine V_iload f dX9_day_140 0 rfl ?_
      refine V_aload_n f dX9_day_142 3 rfl ?_
      refine V_getE (x := M1 0 9) f dX9_day_143 lf_9_113 rfl zm_0 rfl ?_
      refine V_icmp_ge (tgt := 200) f dX9_day_146 (by decide) (fun c13 => ?_) (fun c13 => ?_)
      · refine V_aload_n f dX9_day_200 3 rfl ?_
        refine V_dup f dX9_day_201 rfl ?_
        refine V_getE (x := M1 0 5) f dX9_day_202 lf_9_260 rfl zm_0 rfl ?_
        refine V_aload_n f dX9_day_205 3 rfl ?_
        refine V_getE (x := M1 0 3) f dX9_day_206 lf_9_240 rfl zm_0 rfl ?_
        refine V_iload f dX9_day_209 1 rfl ?_
        refine V_isub f dX9_day_211 ?_
        refine V_iadd f dX9_day_212 ?_
        refine V_putI f dX9_day_213 lf_9_260 lp_9_5 rfl rfl rfl rfl zm_0 ?_
        refine V_aload_n f dX9_day_216 3 rfl ?_
        refine V_dup f dX9_day_217 rfl ?_
        refine V_getE (x := M1 0 6) f dX9_day_218 lf_9_263 rfl zm_0 (up_k (by decide) rfl) ?_
        refine V_iload f dX9_day_221 1 rfl ?_
        refine V_iadd f dX9_day_223 ?_
        refine V_putI f dX9_day_224 lf_9_263 lp_9_6 rfl rfl rfl rfl zm_0 ?_
        refine V_aload_n f dX9_day_227 3 rfl ?_
        refine V_iload f dX9_day_228 1 rfl ?_
        refine V_putI f dX9_day_230 lf_9_266 lp_9_7 rfl rfl rfl rfl zm_0 ?_
        refine V_aload_n f dX9_day_233 3 rfl ?_
        refine V_dup f dX9_day_234 rfl ?_
        refine V_getE (x := M1 0 0) f dX9_day_235 lf_9_194 rfl zm_0 (up_k (by decide) (up_k (by decide) (up_k (by decide) rfl))) ?_
        refine V_iconst (v := 1) f dX9_day_238 (by decide) ?_
        refine V_iadd f dX9_day_239 ?_
        refine V_putI f dX9_day_240 lf_9_194 lp_9_0 rfl rfl rfl rfl zm_0 ?_
        refine V_iconst (v := 0) f dX9_day_243 (by decide) ?_
        refine V_istore f dX9_day_244 (by decide) rfl ?_
        exact loop4 w1 w2 w3 w4 1000 0 _ _ _ (by decide) (by decide) (by decide) (Km_wid (Km_day hK1 _ _ _) (by have e0 : (0 : Int32).toInt = 0 := (by decide); omega))
      · refine V_aload_n f dX9_day_149 3 rfl ?_
        refine V_iload f dX9_day_150 0 rfl ?_
        refine V_cVi (As := [.int x]) (rest := []) f dX9_day_152 lk_X9_234 ml_X9_234 ins_X9_burns sel_X9_burns zm_0 (by decide) rfl (c_X9_burns (kl K) (kD K) (ky K) (kX K) ad M1 x (vinN x0 c13 hK1.1.1.1.2)) rfl (Nat.le_of_ble_eq_true rfl) rfl ⟨by decide, by decide⟩ ⟨Nat.zero_le _, Nat.zero_le _⟩ rfl rfl ?_
        refine V_if_eq (tgt := 161) f dX9_day_155 (by decide) (fun c14 => ?_) (fun c14 => ?_)
        · refine V_iload f dX9_day_161 1 rfl ?_
          refine V_aload_n f dX9_day_163 3 rfl ?_
          refine V_getR f dX9_day_164 lf_9_31 rfl zm_0 rfl ?_
          refine V_iload f dX9_day_167 0 rfl ?_
          refine V_ialdE (x := M1 8 (Int32.toNatClampNeg x)) f dX9_day_169 zm_8 (vinN x0 c13 hK1.1.1.1.2) rfl ?_
          refine V_mmin f dX9_day_170 ml_X9_243 ma_min ma_ini mc_min (by decide) (Nat.le_of_ble_eq_true rfl) (Nat.zero_le _) (Nat.zero_le _) ?_
          refine V_istore f dX9_day_173 (by decide) rfl ?_
          refine V_aload_n f dX9_day_175 3 rfl ?_
          refine V_getR f dX9_day_176 lf_9_31 rfl zm_0 rfl ?_
          refine V_iload f dX9_day_179 1 rfl ?_
          refine V_dup2 f dX9_day_181 rfl rfl ?_
          refine V_ialdE (x := M1 8 (Int32.toNatClampNeg x)) f dX9_day_182 zm_8 (vinN x0 c13 hK1.1.1.1.2) rfl ?_
          refine V_iload f dX9_day_183 0 rfl ?_
          refine V_isub f dX9_day_185 ?_
          refine V_iast f dX9_day_186 zm_8 (vinN x0 c13 hK1.1.1.1.2) ?_
          refine V_iload f dX9_day_187 2 rfl ?_
          refine V_iload f dX9_day_189 0 rfl ?_
          refine V_isub f dX9_day_191 ?_
          refine V_istore f dX9_day_192 (by decide) rfl ?_
          refine V_iinc (v := x + 1) f dX9_day_194 2 rfl rfl (by decide) rfl ?_
          refine V_goto (tgt := 140) f dX9_day_197 (by decide) ?_
          obtain ⟨k9, e9, y0, y1⟩ := lo_inc x0 hx c13 (by have := hK1.1.1.1.2; omega)
          have q9 := min_sub ht (hK1.2.2.2.1 _ (vlt (vinN x0 c13 hK1.1.1.1.2)))
          exact ih k9 (by omega) (x + 1) _ _ _ y0 y1 q9.2 (Km_8 hK1 q9.1)
        · refine V_goto (tgt := 194) f dX9_day_158 (by decide) ?_
          refine V_iinc (v := x + 1) f dX9_day_194 0 rfl rfl (by decide) rfl ?_
          refine V_goto (tgt := 140) f dX9_day_197 (by decide) ?_
          obtain ⟨k9, e9, y0, y1⟩ := lo_inc x0 hx c13 (by have := hK1.1.1.1.2; omega)
          exact ih k9 (by omega) (x + 1) _ _ _ y0 y1 ht hK1
  have loop2 : ¬ (s_X9_isIn M a 0 10) = 0 → ¬ (s_X9_isIn M b 0 10) = 0 → ¬ (s_X9_isIn M e 0 50) = 0 → ¬ (M 0 0) = 1000 → ∀ (n : Nat) (x : Int32) (M1 : MT), 0 ≤ x.toInt → x.toInt + (n : Nat) = 1000 → Km wb sb M M1 → V K ad 0 0 ZM M1 70 [(4, .int x), (0, .ref (ad 0)), (1, .int a), (2, .int b), (3, .int e)] [] := by
    intro w1 w2 w3 w4 n
    induction n using Nat.strongRecOn with
    | ind n ih =>
      intro x M1 x0 hx hK1
      refine V_iload f dX9_day_70 0 rfl ?_
      refine V_aload_n f dX9_day_72 1 rfl ?_
      refine V_getE (x := M1 0 9) f dX9_day_73 lf_9_113 rfl zm_0 rfl ?_
      refine V_icmp_ge (tgt := 102) f dX9_day_76 (by decide) (fun c15 => ?_) (fun c15 => ?_)
      · refine V_aload_n f dX9_day_102 1 rfl ?_
        refine V_getE (x := M1 0 3) f dX9_day_103 lf_9_240 rfl zm_0 rfl ?_
        refine V_istore f dX9_day_106 (by decide) rfl ?_
        refine V_iload f dX9_day_108 0 rfl ?_
        refine V_aload_n f dX9_day_110 1 rfl ?_
        refine V_getE (x := M1 0 4) f dX9_day_111 lf_9_257 rfl zm_0 rfl ?_
        refine V_mmin f dX9_day_114 ml_X9_243 ma_min ma_ini mc_min (by decide) (Nat.le_of_ble_eq_true rfl) (Nat.zero_le _) (Nat.zero_le _) ?_
        refine V_istore f dX9_day_117 (by decide) rfl ?_
        refine V_aload_n f dX9_day_119 2 rfl ?_
        refine V_dup f dX9_day_120 rfl ?_
        refine V_getE (x := M1 0 4) f dX9_day_121 lf_9_257 rfl zm_0 rfl ?_
        refine V_iload f dX9_day_124 0 rfl ?_
        refine V_isub f dX9_day_126 ?_
        refine V_putI f dX9_day_127 lf_9_257 lp_9_4 rfl rfl rfl rfl zm_0 ?_
        refine V_iload f dX9_day_130 1 rfl ?_
        refine V_iload f dX9_day_132 0 rfl ?_
        refine V_isub f dX9_day_134 ?_
        refine V_istore f dX9_day_135 (by decide) rfl ?_
        refine V_iconst (v := 0) f dX9_day_137 (by decide) ?_
        refine V_istore f dX9_day_138 (by decide) rfl ?_
        have q9 := min_sub hK1.2.1 hK1.2.2.1
        exact loop3 w1 w2 w3 w4 1000 0 _ _ _ (by decide) (by decide) q9.2 (Km_04 hK1 q9.1)
      · refine V_aload_n f dX9_day_79 1 rfl ?_
        refine V_getR f dX9_day_80 lf_9_31 rfl zm_0 rfl ?_
        refine V_iload f dX9_day_83 0 rfl ?_
        refine V_ialdE (x := M1 8 (Int32.toNatClampNeg x)) f dX9_day_85 zm_8 (vinN x0 c15 hK1.1.1.1.2) rfl ?_
        refine V_if_le (tgt := 96) f dX9_day_86 (by decide) (fun c16 => ?_) (fun c16 => ?_)
        · refine V_iinc (v := x + 1) f dX9_day_96 0 rfl rfl (by decide) rfl ?_
          refine V_goto (tgt := 70) f dX9_day_99 (by decide) ?_
          obtain ⟨k9, e9, y0, y1⟩ := lo_inc x0 hx c15 (by have := hK1.1.1.1.2; omega)
          exact ih k9 (by omega) (x + 1) _ y0 y1 hK1
        · refine V_aload_n f dX9_day_89 1 rfl ?_
          refine V_iload f dX9_day_90 0 rfl ?_
          refine V_iload_n f dX9_day_92 4 rfl ?_
          refine V_cVv (As := [.int x, .int e]) (rest := []) f dX9_day_93 lk_X9_253 ml_X9_253 ins_X9_heats sel_X9_heats zm_0 (by decide) rfl (c_X9_heats (kl K) (kD K) (ky K) (kX K) ad M1 x e (vinN x0 c15 hK1.1.1.1.2)) rfl (Nat.le_of_ble_eq_true rfl) rfl ⟨by decide, by decide⟩ ⟨Nat.zero_le _, Nat.zero_le _⟩ rfl rfl ?_
          refine V_iinc (v := x + 1) f dX9_day_96 0 rfl rfl (by decide) rfl ?_
          refine V_goto (tgt := 70) f dX9_day_99 (by decide) ?_
          obtain ⟨k9, e9, y0, y1⟩ := lo_inc x0 hx c15 (by have := hK1.1.1.1.2; omega)
          exact ih k9 (by omega) (x + 1) _ y0 y1 (Km_heats hK1 _ _ hwb.2 (vlt (vinN x0 c15 hK1.1.1.1.2)) c16)
  have loop1 : ¬ (s_X9_isIn M a 0 10) = 0 → ¬ (s_X9_isIn M b 0 10) = 0 → ¬ (s_X9_isIn M e 0 50) = 0 → ¬ (M 0 0) = 1000 → ∀ (q c : Nat) (x : Int32) (M1 : MT), c + q = 16 → x.toInt = c → Km wb sb M M1 → V K ad 0 0 ZM M1 45 [(4, .int x), (0, .ref (ad 0)), (1, .int a), (2, .int b), (3, .int e)] [] := by
    intro w1 w2 w3 w4 q9
    induction q9 with
    | zero =>
      intro c x M1 hb hx hK1
      obtain rfl : c = 16 := by omega
      refine V_iload f dX9_day_45 0 rfl ?_
      refine V_bipush (v := 16) f dX9_day_47 (by decide) ?_
      refine V_icmp_ge (tgt := 67) f dX9_day_49 (by decide) (fun _ => ?_) (fun h => absurd (lq_ge hx (y := 16) (n := 16) (by decide) rfl) h)
      refine V_iconst (v := 0) f dX9_day_67 (by decide) ?_
      refine V_istore f dX9_day_68 (by decide) rfl ?_
      exact loop2 w1 w2 w3 w4 1000 0 M1 (by decide) (by decide) hK1
    | succ q9 ih =>
      intro c x M1 hb hx hK1
      obtain ⟨hbl, hin, hnat, hx1⟩ := lq_lt hx hb (by decide)
      refine V_iload f dX9_day_45 0 rfl ?_
      refine V_bipush (v := 16) f dX9_day_47 (by decide) ?_
      refine V_icmp_ge (tgt := 67) f dX9_day_49 (by decide) (fun h => absurd h (lq_nge hx (y := 16) (by decide) hb)) (fun _ => ?_)
      refine V_aload_n f dX9_day_52 1 rfl ?_
      refine V_iload f dX9_day_53 0 rfl ?_
      refine V_iload_n f dX9_day_55 2 rfl ?_
      refine V_iload_n f dX9_day_56 3 rfl ?_
      refine V_iload_n f dX9_day_57 4 rfl ?_
      refine V_cVv (As := [.int x, .int a, .int b, .int e]) (rest := []) f dX9_day_58 lk_X9_249 ml_X9_249 ins_X9_dries sel_X9_dries zm_0 (by decide) rfl (c_X9_dries (kl K) (kD K) (ky K) (kX K) ad M1 x a b e hin) rfl (Nat.le_of_ble_eq_true rfl) rfl ⟨by decide, by decide⟩ ⟨Nat.zero_le _, Nat.zero_le _⟩ rfl rfl ?_
      refine V_iinc (v := x + 1) f dX9_day_61 0 rfl rfl (by decide) rfl ?_
      refine V_goto (tgt := 45) f dX9_day_64 (by decide) ?_
      exact ih (c + 1) (x + 1) _ (by omega) hx1 (Km_dries hK1 _ _ _ _)
  refine V_iload_n f dX9_day_0 1 rfl ?_
  refine V_iconst (v := 0) f dX9_day_1 (by decide) ?_
  refine V_bipush (v := 10) f dX9_day_2 (by decide) ?_
  refine V_cSi (As := [.int a, .int 0, .int 10]) (rest := []) f dX9_day_4 lk_X9_109 ml_X9_109 sta_X9_isIn (c_X9_isIn (kl K) (kD K) (ky K) (kX K) ad M a 0 10) rfl (Nat.le_of_ble_eq_true rfl) rfl ⟨by decide, by decide⟩ ⟨Nat.zero_le _, Nat.zero_le _⟩ rfl rfl ?_
  refine V_if_eq (tgt := 40) f dX9_day_7 (by decide) (fun c1 => ?_) (fun c1 => ?_)
  · refine V_iconst (v := (-1)) f dX9_day_40 (by decide) ?_
    exact V_iret f q dX9_day_41 rfl (Nat.zero_le _) (Nat.zero_le _) ⟨rfl, rfl, hS, InvW_mono hW (by omega), rfl, rfl, ⟨rfl, rfl, rfl, fun _ _ => rfl⟩, Or.inl ⟨rfl, rfl, Or.inl c1⟩⟩
  · refine V_iload_n f dX9_day_10 2 rfl ?_
    refine V_iconst (v := 0) f dX9_day_11 (by decide) ?_
    refine V_bipush (v := 10) f dX9_day_12 (by decide) ?_
    refine V_cSi (As := [.int b, .int 0, .int 10]) (rest := []) f dX9_day_14 lk_X9_109 ml_X9_109 sta_X9_isIn (c_X9_isIn (kl K) (kD K) (ky K) (kX K) ad M b 0 10) rfl (Nat.le_of_ble_eq_true rfl) rfl ⟨by decide, by decide⟩ ⟨Nat.zero_le _, Nat.zero_le _⟩ rfl rfl ?_
    refine V_if_eq (tgt := 40) f dX9_day_17 (by decide) (fun c2 => ?_) (fun c2 => ?_)
    · refine V_iconst (v := (-1)) f dX9_day_40 (by decide) ?_
      exact V_iret f q dX9_day_41 rfl (Nat.zero_le _) (Nat.zero_le _) ⟨rfl, rfl, hS, InvW_mono hW (by omega), rfl, rfl, ⟨rfl, rfl, rfl, fun _ _ => rfl⟩, Or.inl ⟨rfl, rfl, Or.inr (Or.inl c2)⟩⟩
    · refine V_iload_n f dX9_day_20 3 rfl ?_
      refine V_iconst (v := 0) f dX9_day_21 (by decide) ?_
      refine V_bipush (v := 50) f dX9_day_22 (by decide) ?_
      refine V_cSi (As := [.int e, .int 0, .int 50]) (rest := []) f dX9_day_24 lk_X9_109 ml_X9_109 sta_X9_isIn (c_X9_isIn (kl K) (kD K) (ky K) (kX K) ad M e 0 50) rfl (Nat.le_of_ble_eq_true rfl) rfl ⟨by decide, by decide⟩ ⟨Nat.zero_le _, Nat.zero_le _⟩ rfl rfl ?_
      refine V_if_eq (tgt := 40) f dX9_day_27 (by decide) (fun c3 => ?_) (fun c3 => ?_)
      · refine V_iconst (v := (-1)) f dX9_day_40 (by decide) ?_
        exact V_iret f q dX9_day_41 rfl (Nat.zero_le _) (Nat.zero_le _) ⟨rfl, rfl, hS, InvW_mono hW (by omega), rfl, rfl, ⟨rfl, rfl, rfl, fun _ _ => rfl⟩, Or.inl ⟨rfl, rfl, Or.inr (Or.inr (Or.inl c3))⟩⟩
      · refine V_aload_n f dX9_day_30 0 rfl ?_
        refine V_getE (x := M 0 0) f dX9_day_31 lf_9_194 rfl zm_0 rfl ?_
        refine V_sipush (v := 1000) f dX9_day_34 (by decide) ?_
        refine V_icmp_ne (tgt := 42) f dX9_day_37 (by decide) (fun c4 => ?_) (fun c4 => ?_)
        · refine V_iconst (v := 0) f dX9_day_42 (by decide) ?_
          refine V_istore f dX9_day_43 (by decide) rfl ?_
          exact loop1 c1 c2 c3 c4 16 0 0 M rfl (by decide) (Km_refl hS hW)
        · refine V_iconst (v := (-1)) f dX9_day_40 (by decide) ?_
          exact V_iret f q dX9_day_41 rfl (Nat.zero_le _) (Nat.zero_le _) ⟨rfl, rfl, hS, InvW_mono hW (by omega), rfl, rfl, ⟨rfl, rfl, rfl, fun _ _ => rfl⟩, Or.inl ⟨rfl, rfl, Or.inr (Or.inr (Or.inr c4))⟩⟩

/-! the tape, the laws: what holds between the class's ints and the reference's -/
def BYr (s : Int32) : Prop := -128 ≤ s.toInt ∧ s.toInt ≤ 127
theorem nar_r (x : Int32) : BYr (vp_nar .byte x) := by
  have h1 := Int8.le_toInt x.toInt8
  have h2 := Int8.toInt_lt x.toInt8
  have e : (vp_nar .byte x) = x.toInt8.toInt32 := rfl
  unfold BYr
  rw [e, Int8.toInt_toInt32]
  omega
def TpE (MB MM : MT) : Prop := MB 15 1 = MM 0 27 ∧ ∀ k : Nat, (k : Int) < (MM 0 27).toInt → MB 16 k = MM 16 k ∧ BYr (MM 16 k)
def ptB (M : MT) (v : Int32) : MT := up2 (up2 M 16 (Int32.toNatClampNeg (M 15 1)) v) 15 1 ((M 15 1) + 1)
def ptM (M : MT) (v : Int32) : MT := up2 (up2 M 16 (Int32.toNatClampNeg (M 0 27)) v) 0 27 ((M 0 27) + 1)
theorem TpE_p {MB MM : MT} {v : Int32} (h : TpE MB MM) (h0 : 0 ≤ (MM 0 27).toInt) (h5 : (MM 0 27).toInt < 500) (hv : BYr v) : TpE (ptB MB v) (ptM MM v) ∧ (ptM MM v 0 27).toInt = (MM 0 27).toInt + 1 := by
  have e1 : (1 : Int32).toInt = 1 := by decide
  have a1 := i32_add (x := MM 0 27) h0 (by omega) (k := 1) (by decide) (by decide)
  have en : ptM MM v 0 27 = (MM 0 27) + 1 := by unfold ptM; rw [up_s]
  refine ⟨⟨?_, fun k hk => ?_⟩, by rw [en]; omega⟩
  · rw [en]; unfold ptB; rw [up_s, h.1]
  · rw [en] at hk
    have hc : Int32.toNatClampNeg (MM 0 27) = (MM 0 27).toInt.toNat := rfl
    unfold ptB ptM
    rw [upo (show ¬ 16 = 15 by decide), upo (show ¬ 16 = 0 by decide), h.1]
    by_cases e : k = Int32.toNatClampNeg (MM 0 27)
    · rw [e, up_s, up_s]; exact ⟨rfl, hv⟩
    · rw [up_k e rfl, up_k e rfl]; exact h.2 k (by omega)
theorem addB_eq {M : MT} (a : Int32) (h : ¬ s_X6_holdsMore M 4 = 0) : s_X6_add M a = ptB (ptB (ptB (ptB M (vp_nar .byte ((a >>> (24 &&& 31)).toInt8.toInt32))) (vp_nar .byte ((a >>> (16 &&& 31)).toInt8.toInt32))) (vp_nar .byte ((a >>> (8 &&& 31)).toInt8.toInt32))) (vp_nar .byte ((a >>> (0 &&& 31)).toInt8.toInt32)) := by
  unfold s_X6_add
  rw [if_neg h]
  unfold ptB
  simp only [up_s]
theorem fourM_eq (M : MT) (a : Int32) : s_X9_four M a = ptM (ptM (ptM (ptM M (vp_nar .byte ((a >>> (24 &&& 31)).toInt8.toInt32))) (vp_nar .byte ((a >>> (16 &&& 31)).toInt8.toInt32))) (vp_nar .byte ((a >>> (8 &&& 31)).toInt8.toInt32))) (vp_nar .byte ((a >>> (0 &&& 31)).toInt8.toInt32)) := by
  unfold s_X9_four ptM
  simp only [up_s]
theorem TpE_4 {MB MM : MT} (a : Int32) (h : TpE MB MM) (h0 : 0 ≤ (MM 0 27).toInt) (h4 : (MM 0 27).toInt ≤ 496) : TpE (s_X6_add MB a) (s_X9_four MM a) ∧ (s_X9_four MM a 0 27).toInt = (MM 0 27).toInt + 4 := by
  have hm : ¬ s_X6_holdsMore MB 4 = 0 := hm4 (by rw [h.1]; exact h0) (by rw [h.1]; exact h4)
  rw [addB_eq a hm, fourM_eq]
  obtain ⟨g1, e1⟩ := TpE_p h h0 (by omega) (nar_r ((a >>> (24 &&& 31)).toInt8.toInt32))
  obtain ⟨g2, e2⟩ := TpE_p g1 (by omega) (by omega) (nar_r ((a >>> (16 &&& 31)).toInt8.toInt32))
  obtain ⟨g3, e3⟩ := TpE_p g2 (by omega) (by omega) (nar_r ((a >>> (8 &&& 31)).toInt8.toInt32))
  obtain ⟨g4, e4⟩ := TpE_p g3 (by omega) (by omega) (nar_r ((a >>> (0 &&& 31)).toInt8.toInt32))
  exact ⟨g4, by omega⟩
def NoL (MB : MT) : Prop := MB 4 0 = (-1) ∧ MB 4 2 = 550 ∧ MB 4 3 = 0 ∧ MB 4 4 = 0
def LEq (l : Nat) (MB MM : MT) : Prop := MB (54 + 10 * l) 0 = Int32.ofNat l ∧ MB (54 + 10 * l) 1 = MM 19 l ∧ ∃ c : Nat, c ≤ 16 ∧ (MM 18 l).toInt = (c : Int) ∧ cB MB (54 + 10 * l) = cMF MM l c
def LawR (MB MM : MT) : Prop := MB 0 9 = MM 0 31 ∧ MB 0 14 = MM 0 30 ∧ TpE MB MM ∧ NoL MB ∧ ∀ l, l < Int32.toNatClampNeg (MM 0 31) → LEq l MB MM
theorem LEq_c {l : Nat} {MB MM B1 M1 : MT} (h : LEq l MB MM) (hb : ∀ j, 54 + 10 * l ≤ j → j < 54 + 10 * l + 10 → B1 j = MB j) (h18 : M1 18 l = MM 18 l) (h19 : M1 19 l = MM 19 l) (hm : ∀ j k, 20 ≤ j → j ≤ 24 → 16 * l ≤ k → k < 16 * l + 16 → M1 j k = MM j k) : LEq l B1 M1 := by
  obtain ⟨h1, h2, c, hc, h3, h4⟩ := h
  have e := hb (54 + 10 * l) (by omega) (by omega)
  refine ⟨by rw [e]; exact h1, by rw [e, h19]; exact h2, c, hc, by rw [h18]; exact h3, ?_⟩
  rw [cB_eq (M := MB) (by rw [e]) (by rw [e]) (by rw [e]) (fun j a b => hb j (by omega) (by omega)), h4]
  exact (cMF_c c (fun j k a b x y => hm j k a b x (by omega))).symm
theorem LawR_q {MB MM B1 M1 : MT} (h : LawR MB MM) (b9 : B1 0 9 = MB 0 9) (b14 : B1 0 14 = MB 0 14) (hb : ∀ i, dP i → B1 i = MB i) (m31 : M1 0 31 = MM 0 31) (m30 : M1 0 30 = MM 0 30) (m27 : M1 0 27 = MM 0 27) (hm : ∀ i, eP i → M1 i = MM i) : LawR B1 M1 := by
  obtain ⟨h1, h2, h3, h4, h5⟩ := h
  have eb : ∀ j, 54 ≤ j → B1 j = MB j := fun j hj => hb j (Or.inr (Or.inr hj))
  have em : ∀ j, 16 ≤ j → j ≤ 28 → M1 j = MM j := fun j a b => hm j ⟨a, b⟩
  refine ⟨by rw [b9, m31]; exact h1, by rw [b14, m30]; exact h2, ⟨by rw [hb 15 (Or.inr (Or.inl (by omega))), m27]; exact h3.1, fun k hk => ?_⟩, ?_, fun l hl => ?_⟩
  · rw [m27] at hk
    rw [hb 16 (Or.inr (Or.inl (by omega))), em 16 (by decide) (by decide)]; exact h3.2 k hk
  · unfold NoL; rw [hb 4 (Or.inl (by omega))]; exact h4
  · rw [m31] at hl
    exact LEq_c (h5 l hl) (fun j a b => eb j (by omega)) (by rw [em 18 (by decide) (by decide)]) (by rw [em 19 (by decide) (by decide)]) (fun j k a b _ _ => by rw [em j (by omega) (by omega)])
theorem LawR_T {MB MM : MT} (hS : InvS MM) (h : LawR MB MM) : ∀ k : Nat, (k : Int) < (MM 0 27).toInt → BY (MM 16 k) (b8 MB k) := fun k hk => by
  have h27 := hS.2.2.1
  obtain ⟨e, r⟩ := h.2.2.1.2 k hk
  refine ⟨r, ?_⟩
  have e0 : (0 : Int32).toInt = 0 := by decide
  unfold b8 s_X6_at
  rw [if_neg (by rw [Int32.lt_iff_toInt_lt, ofN_toInt (by omega), e0]; omega), if_neg (by rw [Int32.le_iff_toInt_le, ofN_toInt (by omega), h.2.2.1.1]; omega), ofN_clamp (by omega), e]
theorem LB_int {M : MT} {a : Int32} {v : Option Value} {M1 : MT} (h : LB M a v M1) : ∃ r : Int32, v = some (.int r) := by
  rcases h with ⟨_, h, _⟩ | ⟨_, _, h, _⟩ | ⟨_, _, _, ⟨_, _, h, _⟩ | ⟨_, _, h, _⟩⟩ <;> exact ⟨_, h⟩
theorem LM_int {T : Nat → Int32} {M : MT} {a : Int32} {v : Option Value} {M1 : MT} (h : LM T M a v M1) : ∃ r : Int32, v = some (.int r) := by
  rcases h with ⟨_, h, _⟩ | ⟨_, _, h, _⟩ | ⟨_, _, _, ⟨_, _, h, _⟩ | ⟨_, _, h, _⟩⟩ <;> exact ⟨_, h⟩
theorem LB_KpL {M : MT} {a : Int32} {v : Option Value} {M1 : MT} (hI : InvB M) (h : LB M a v M1) : KpL M M1 := by
  rcases h with ⟨_, _, h⟩ | ⟨_, _, _, h⟩ | ⟨_, _, f, _⟩
  · rw [h]; exact ⟨hI, rfl, rfl, rfl⟩
  · rw [h]; exact ⟨hI, rfl, rfl, rfl⟩
  · exact ⟨f.1, f.2.1 8 (by decide) (by decide), f.2.1 10 (by decide) (by decide), f.2.1 11 (by decide) (by decide)⟩
theorem LM_KL {T : Nat → Int32} {M : MT} {a : Int32} {v : Option Value} {M1 : MT} (hS : InvS M) (h : LM T M a v M1) : KL M M1 := by
  rcases h with ⟨_, _, h⟩ | ⟨_, _, _, h⟩ | ⟨_, _, f, _⟩
  · rw [h]; exact KL_refl hS
  · rw [h]; exact KL_refl hS
  · exact f.1
theorem LawR_law {MB MM B1 M1 : MT} {a : Int32} {v1 v2 : Option Value} (hI : InvB MB) (hS : InvS MM) (h : LawR MB MM) (h10 : MB 0 10 = MM 0 0) (d1 : LB MB a v1 B1) (d2 : LM (b8 MB) MM a v2 M1) : LawR B1 M1 ∧ v1 = v2 := by
  obtain ⟨h1, h2, h3, h4, h5⟩ := id h
  have ew : s_X9_isIn MM a 0 (MM 0 27) = s_X8_within MB a 0 (MB 15 1) := by rw [h3.1, isIn_eq MM MB]
  have r31 := hS.2.1
  have e8 : (8 : Int32).toInt = 8 := by decide
  have e1 : (1 : Int32).toInt = 1 := by decide
  have w8 : (MB 0 9) < 8 ↔ ¬ (MM 0 31) = 8 := by
    rw [h1, Int32.lt_iff_toInt_lt, e8, ← Int32.toInt_inj, e8]; omega
  unfold LM at d2
  rw [ew] at d2
  rcases d1 with ⟨a1, a2, a3⟩ | ⟨a1, a2, a3, a4⟩ | ⟨a1, a2, f, a3⟩
  · rcases d2 with ⟨b1, b2, b3⟩ | ⟨b1, b2, b3, b4⟩ | ⟨b1, b2, g, b3⟩
    · rw [a3, b3, a2, b2]; exact ⟨h, rfl⟩
    · exact absurd a1 b1
    · exact absurd a1 b1
  · rcases d2 with ⟨b1, b2, b3⟩ | ⟨b1, b2, b3, b4⟩ | ⟨b1, b2, g, b3⟩
    · exact absurd b1 a1
    · rw [a4, b4, a3, b3]; exact ⟨h, rfl⟩
    · exact absurd (w8.mpr b2) a2
  · rcases d2 with ⟨b1, b2, b3⟩ | ⟨b1, b2, b3, b4⟩ | ⟨b1, b2, g, b3⟩
    · exact absurd b1 a1
    · exact absurd b2 (w8.mp a2)
    · have ek : Int32.toNatClampNeg (MB 0 9) = Int32.toNatClampNeg (MM 0 31) := by rw [h1]
      obtain ⟨f1, f2, f3, f4, f5, f6⟩ := f
      obtain ⟨g1, g2, g3, g4, g5⟩ := g
      rw [ek] at f6
      have tp : TpE B1 M1 := ⟨by rw [f3, g2], fun k hk => by rw [g2, show (0 : Int32).toInt = 0 by decide] at hk; omega⟩
      have nl : NoL B1 := by unfold NoL; rw [f5 4 (by decide) (by decide)]; exact h4
      have l8 : Int32.toNatClampNeg (MM 0 31) < 8 := by
        have := (w8.mp a2)
        rw [← Int32.toInt_inj, e8] at this
        show (MM 0 31).toInt.toNat < 8
        omega
      have old : ∀ l, l < Int32.toNatClampNeg (MM 0 31) → LEq l B1 M1 := fun l hl => LEq_c (h5 l hl) (fun j x y => f6 l (by omega) (by omega) j x y) (g4 l (by omega)).1 (g4 l (by omega)).2 (fun j k x y z t => g5 j k x y (by omega))
      rcases a3 with ⟨q, p1, p2, p3, p4⟩ | ⟨q, p1, p2, p3, p4, p5, p6, p7⟩
      · rcases b3 with ⟨q', q1, q2, q3, q4⟩ | ⟨q', q1, q2, q3, q4, q5, q6⟩
        · rw [p1] at q1
          cases q1
          exact ⟨⟨by rw [p4, q4]; exact h1, by rw [p3, q3], tp, nl, fun l hl => old l (by rw [q4] at hl; exact hl)⟩, by rw [p2, q2]⟩
        · rw [p1] at q1; cases q1
      · rcases b3 with ⟨q', q1, q2, q3, q4⟩ | ⟨q', q1, q2, q3, q4, q5, c, hc, q6, q7⟩
        · rw [p1] at q1; cases q1
        · have n1 : Int32.toNatClampNeg ((MM 0 31) + 1) = Int32.toNatClampNeg (MM 0 31) + 1 := by
            have a9 := i32_add (x := MM 0 31) r31.1 (by omega) (k := 1) (by decide) (by decide)
            show ((MM 0 31) + 1).toInt.toNat = (MM 0 31).toInt.toNat + 1
            omega
          refine ⟨⟨by rw [p4, q4, h1], by rw [p3, q3], tp, nl, fun l hl => ?_⟩, by rw [p2, q2, h1]⟩
          rw [q4, n1] at hl
          by_cases e : l = Int32.toNatClampNeg (MM 0 31)
          · rw [ek] at p5 p6 p7
            rw [e]
            refine ⟨?_, by rw [p6, q5]; exact h10, c, hc, q6, by rw [p7, q7]⟩
            rw [p5, h1]
            exact of_toInt (show (MM 0 31).toInt = ((MM 0 31).toInt.toNat : Int) by omega) (by show (MM 0 31).toInt.toNat < 2 ^ 31; omega)
          · exact old l (by omega)
theorem holds_i {MB MM : MT} (hS : InvS MM) (h : MB 15 1 = MM 0 27) : (s_X6_holdsMore MB 20 = 0) ↔ ¬ ((MM 0 27) + 20) ≤ 500 := by
  unfold s_X6_holdsMore
  rw [h]
  by_cases q : 500 < ((MM 0 27) + 20)
  · rw [if_pos q]; exact ⟨fun _ g => absurd q (Int32.not_lt.mpr g), fun _ => rfl⟩
  · rw [if_neg q]; exact ⟨fun g => absurd g (by decide), fun g => absurd (Int32.not_lt.mp q) g⟩
theorem fs_of {x : Int32 × MT} {r : Int32} {m : MT} (h : x = (r, m)) : x.1 = r := by rw [h]
theorem LawR_fd {MB MM B1 M1 : MT} (h : LawR MB MM) (t5 : TpE B1 M1) (fb : ∀ i, ¬ i = 15 → ¬ i = 16 → B1 i = MB i) (f0 : ∀ i, i ≠ 27 → M1 0 i = MM 0 i) (fm : ∀ i, ¬ i = 0 → ¬ i = 16 → M1 i = MM i) : LawR B1 M1 := by
  obtain ⟨h1, h2, h3, h4, h5⟩ := h
  refine ⟨by rw [fb 0 (by decide) (by decide), f0 31 (by decide)]; exact h1, by rw [fb 0 (by decide) (by decide), f0 30 (by decide)]; exact h2, t5, by unfold NoL; rw [fb 4 (by decide) (by decide)]; exact h4, fun l hl => ?_⟩
  rw [f0 31 (by decide)] at hl
  exact LEq_c (h5 l hl) (fun j x y => fb j (by omega) (by omega)) (by rw [fm 18 (by decide) (by decide)]) (by rw [fm 19 (by decide) (by decide)]) (fun j i x y _ _ => by rw [fm j (by omega) (by omega)])
theorem LawR_feed {MB MM : MT} (hS : InvS MM) (h : LawR MB MM) (a b e g k : Int32) : LawR (s3_X8_feed MB a b e g k).2 (s3_X9_feed MM a b e g k).2 ∧ (s3_X8_feed MB a b e g k).1 = (s3_X9_feed MM a b e g k).1 := by
  obtain ⟨h1, h2, h3, h4, h5⟩ := id h
  have r := hS.2.2.1
  have hh := holds_i (MB := MB) hS h3.1
  by_cases q : ((MM 0 27) + 20) ≤ 500
  · have q1 : ¬ s_X6_holdsMore MB 20 = 0 := fun g => hh.mp g q
    have hl := fm20_of hS q
    have l20 := hl.2
    have hB := feed_1 a b e g k q1
    have hM := mfeed_1 a b e g k q
    obtain ⟨t1, n1⟩ := TpE_4 a h3 r.1 (by omega)
    obtain ⟨t2, n2⟩ := TpE_4 b t1 (by omega) (by omega)
    obtain ⟨t3, n3⟩ := TpE_4 e t2 (by omega) (by omega)
    obtain ⟨t4, n4⟩ := TpE_4 g t3 (by omega) (by omega)
    obtain ⟨t5, n5⟩ := TpE_4 k t4 (by omega) (by omega)
    have fb : ∀ i, ¬ i = 15 → ¬ i = 16 → (s_X6_add (s_X6_add (s_X6_add (s_X6_add (s_X6_add MB a) b) e) g) k) i = MB i := fun i x y => by rw [add_fr _ _ x y, add_fr _ _ x y, add_fr _ _ x y, add_fr _ _ x y, add_fr _ _ x y]
    have f0 : ∀ i, i ≠ 27 → (s_X9_four (s_X9_four (s_X9_four (s_X9_four (s_X9_four MM a) b) e) g) k) 0 i = MM 0 i := fun i x => by rw [four_0 _ _ x, four_0 _ _ x, four_0 _ _ x, four_0 _ _ x, four_0 _ _ x]
    have fm : ∀ i, ¬ i = 0 → ¬ i = 16 → (s_X9_four (s_X9_four (s_X9_four (s_X9_four (s_X9_four MM a) b) e) g) k) i = MM i := fun i x y => by rw [four_fr _ _ x y, four_fr _ _ x y, four_fr _ _ x y, four_fr _ _ x y, four_fr _ _ x y]
    generalize (s_X6_add (s_X6_add (s_X6_add (s_X6_add (s_X6_add MB a) b) e) g) k) = B1 at hB t5 fb
    generalize (s_X9_four (s_X9_four (s_X9_four (s_X9_four (s_X9_four MM a) b) e) g) k) = M1 at hM t5 f0 fm
    rw [sn_of hB, sn_of hM, fs_of hB, fs_of hM]
    exact ⟨LawR_fd h t5 fb f0 fm, t5.1⟩
  · have hB := feed_0 a b e g k (hh.mpr q)
    have hM := mfeed_0 a b e g k q
    rw [sn_of hB, sn_of hM, fs_of hB, fs_of hM]
    exact ⟨h, rfl⟩
theorem LawR_0 {MB MM : MT} (hB : FrB MB) (hM : FrM MM) : LawR MB MM := by
  refine ⟨by rw [fr_0_9 hB, fm_31 hM], by rw [fr_0_14 hB, fm_30 hM], ⟨by rw [fr_15_1 hB, fm_27 hM], fun k hk => by rw [fm_27 hM, show (0 : Int32).toInt = 0 by decide] at hk; omega⟩, ⟨fr_4_0 hB, fr_4_2 hB, fr_4_3 hB, fr_4_4 hB⟩, fun l hl => ?_⟩
  rw [fm_31 hM, show Int32.toNatClampNeg 0 = 0 by decide] at hl
  exact absurd hl (Nat.not_lt_zero l)

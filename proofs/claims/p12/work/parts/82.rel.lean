/-! what holds between the class's ints and the reference's behind c calls -/
abbrev wB (c : Nat) : Int := 200 * (c : Int)
abbrev sB (c : Nat) : Int := 1024000 * (c : Int)
def Rl (c : Nat) (MB MM : MT) : Prop := InvB MB ∧ (InvS MM ∧ InvW (wB c) (sB c) MM) ∧ MB 0 8 = MM 0 9 ∧ MB 0 10 = MM 0 0 ∧ MB 0 11 = MM 0 1 ∧ (0 ≤ (MM 0 0).toInt ∧ (MM 0 0).toInt ≤ 1000)
theorem InvW_wid {wb wb' sb sb' : Int} {M : MT} (h : InvW wb sb M) (hw : wb ≤ wb') (hs : sb ≤ sb') : InvW wb' sb' M := ⟨h.1, by have := h.2.1; omega, fun s hq => by have := h.2.2.1 s hq; omega, h.2.2.2⟩
theorem wB_le (c : Nat) : wB c ≤ wB (c + 1) ∧ sB c ≤ sB (c + 1) ∧ wB c + 200 = wB (c + 1) ∧ sB c + 1024000 = sB (c + 1) := by unfold wB sB; omega
theorem Km_up1 {c : Nat} {M M1 : MT} (h : Km (wB c) (sB c) M M1) : Km (wB (c + 1)) (sB (c + 1)) M M1 := ⟨h.1, InvW_wid h.2 (wB_le c).1 (wB_le c).2.1⟩
theorem Km_g {c : Nat} {M M1 : MT} (h : Km (wB c + 200) (sB c) M M1) : Km (wB (c + 1)) (sB (c + 1)) M M1 := ⟨h.1, InvW_wid h.2 (Int.le_of_eq (wB_le c).2.2.1) (wB_le c).2.1⟩
theorem wB_b {c : Nat} (h : c ≤ 511) : (0 ≤ wB c ∧ wB c ≤ 102400) ∧ 0 ≤ sB c ∧ sB c ≤ 600000000 := by unfold wB sB; omega
theorem InvB_8 {M : MT} (h : InvB M) {v : Int32} (hv : 0 ≤ v.toInt ∧ v.toInt ≤ 10) : InvB (up2 M 0 8 v) := by
  obtain ⟨h1, h2, h3, h4, h5⟩ := h
  have e : ∀ j, ¬ j = 0 → up2 M 0 8 v j = M j := fun j hj => upo hj
  refine ⟨by rw [up_s]; exact hv, by rw [up_k (by decide) rfl]; exact h2, by rw [e 15 (by decide)]; exact h3, by rw [e 18 (by decide)]; exact h4, fun i hi => ?_⟩
  have hl := h5 i hi
  unfold LwOk at hl ⊢
  rcases hi with rfl | ⟨b, hb, rfl⟩
  · rw [e 4 (by decide), e (4 + 5) (by decide)]; exact hl
  · rw [e (54 + 10 * b) (by omega), e (54 + 10 * b + 5) (by omega)]; exact hl
theorem InvS_9 {M : MT} (h : InvS M) {v : Int32} (hv : 0 ≤ v.toInt ∧ v.toInt ≤ 10) : InvS (up2 M 0 9 v) := by
  obtain ⟨h1, h2, h3, h4, h5⟩ := h
  exact ⟨by rw [up_s]; exact hv, by rw [up_k (by decide) rfl]; exact h2, by rw [up_k (by decide) rfl]; exact h3, by rw [upo (by decide)]; exact h4, by rw [upo (by decide)]; exact h5⟩
theorem DP_int {M : MT} {a b e : Int32} {v : Option Value} {M1 : MT} (h : DP M a b e v M1) : ∃ r : Int32, v = some (.int r) := by
  rcases h.2.2.2.2 with h | h
  · exact ⟨_, h.1⟩
  · exact ⟨_, h.1⟩
theorem DM_int {wb sb : Int} {M : MT} {a b e : Int32} {v : Option Value} {M1 : MT} (h : DM wb sb M a b e v M1) : ∃ r : Int32, v = some (.int r) := by
  rcases h.2.2.2.2.2 with h | h
  · exact ⟨_, h.1⟩
  · exact ⟨_, h.1⟩
theorem Kp_eq {M M1 : MT} (h : InvB M) (e : M1 = M) : Kp dP M M1 := by rw [e]; exact Kp_refl h
theorem Km_eq {wb sb : Int} {M M1 : MT} (h : InvS M) (g : InvW wb sb M) (e : M1 = M) : Km wb sb M M1 := by rw [e]; exact Km_refl h g
theorem Rl_q {c : Nat} {MB MM B1 M1 : MT} (h : Rl c MB MM) (hb : Kp dP MB B1) (hm : Km (wB (c + 1)) (sB (c + 1)) MM M1) : Rl (c + 1) B1 M1 := by
  obtain ⟨hI, hSW, e8, e10, e11, ht⟩ := h
  obtain ⟨⟨k1, k2, k3, k4, -⟩, hW⟩ := hm
  exact ⟨hb.1, ⟨k1, hW⟩, by rw [hb.2.1, k2]; exact e8, by rw [hb.2.2.1, k3]; exact e10, by rw [hb.2.2.2.1, k4]; exact e11, by rw [k3]; exact ht⟩
theorem Rl_L {c : Nat} {MB MM B1 M1 : MT} (h : Rl c MB MM) (hb : KpL MB B1) (hm : KL MM M1) : Rl (c + 1) B1 M1 := by
  obtain ⟨hI, ⟨hS, hW⟩, e8, e10, e11, ht⟩ := h
  have e := hm.2.1
  exact ⟨hb.1, ⟨hm.1, InvW_wid (KL_W hm hW) (wB_le c).1 (wB_le c).2.1⟩, by rw [hb.2.1, e 9 (by decide)]; exact e8, by rw [hb.2.2.1, e 0 (by decide)]; exact e10, by rw [hb.2.2.2, e 1 (by decide)]; exact e11, by rw [e 0 (by decide)]; exact ht⟩
theorem R_stack {c : Nat} {MB MM : MT} (h : Rl c MB MM) : Rl (c + 1) (s3_X8_stack MB).2 (s3_X9_stack MM).2 ∧ (s3_X8_stack MB).1 = (s3_X9_stack MM).1 := by
  obtain ⟨hI, ⟨hS, hW⟩, e8, e10, e11, ht⟩ := id h
  have r := hI.1
  have et : (10 : Int32).toInt = 10 := by decide
  have e1 : (1 : Int32).toInt = 1 := by decide
  unfold s3_X8_stack s3_X9_stack
  by_cases q : (MB 0 8) < 10
  · have q2 : ¬ (MM 0 9) = 10 := fun e => by rw [e8, e] at q; exact absurd q (by decide)
    rw [if_pos q, if_neg q2]
    dsimp only
    rw [Int32.lt_iff_toInt_lt, et] at q
    have a1 := i32_add (x := MB 0 8) (by omega) (by omega) (k := 1) (by decide) (by decide)
    have k4 : Km (wB (c + 1)) (sB (c + 1)) MM (up2 (up2 (up2 (up2 MM 10 (Int32.toNatClampNeg (MM 0 9)) 10) 11 (Int32.toNatClampNeg (MM 0 9)) (-1)) 12 (Int32.toNatClampNeg (MM 0 9)) (MM 0 0)) 13 (Int32.toNatClampNeg (MM 0 9)) (-1)) := Km_nr (Km_nr (Km_nr (Km_nr (Km_up1 (Km_refl hS hW)) (by decide) _ _) (by decide) _ _) (by decide) _ _) (by decide) _ _
    have hb : Kp dP MB (up2 MB (44 + Int32.toNatClampNeg (MB 0 8)) 5 (MB 0 10)) := Kp_nr (Kp_refl hI) (nr44 (vlt (show vp_in (MB 0 8) 10 by rw [vp_in_iff]; omega))) _ _
    refine ⟨⟨InvB_8 hb.1 (by omega), ⟨InvS_9 k4.1.1 (by rw [← e8]; omega), InvW_0 k4.2 (by decide) _⟩, by rw [up_s, up_s, e8], ?_, ?_, ?_⟩, by rw [e8]⟩
    · rw [up_k (by decide) rfl, up_k (by decide) rfl, hb.2.2.1, k4.1.2.2.1]; exact e10
    · rw [up_k (by decide) rfl, up_k (by decide) rfl, hb.2.2.2.1, k4.1.2.2.2.1]; exact e11
    · rw [up_k (by decide) rfl, k4.1.2.2.1]; exact ht
  · have q2 : (MM 0 9) = 10 := Int32.toInt_inj.mp (by rw [Int32.lt_iff_toInt_lt, et] at q; rw [et, ← e8]; omega)
    rw [if_neg q, if_pos q2]
    exact ⟨Rl_q h (Kp_refl hI) (Km_up1 (Km_refl hS hW)), rfl⟩
theorem R_track {c : Nat} {MB MM : MT} (h : Rl c MB MM) (b : Int32) : Rl (c + 1) (s3_X8_track MB b).2 (s3_X9_track MM b).2 ∧ (s3_X8_track MB b).1 = (s3_X9_track MM b).1 := by
  obtain ⟨hI, ⟨hS, hW⟩, e8, e10, e11, ht⟩ := id h
  unfold s3_X8_track s3_X9_track
  rw [isBay_eq MM MB]
  by_cases q : (s_X8_isBay MB b) = 0
  · rw [if_pos q, if_pos q]
    exact ⟨Rl_q h (Kp_refl hI) (Km_up1 (Km_refl hS hW)), rfl⟩
  · rw [if_neg q, if_neg q, e11]
    dsimp only
    refine ⟨⟨InvB_0 (InvB_0 hI (by decide) _) (by decide) _, ⟨InvS_0 (InvS_0 hS (by decide) _) (by decide) _, InvW_wid (InvW_0 (InvW_0 hW (by decide) _) (by decide) _) (wB_le c).1 (wB_le c).2.1⟩, ?_, ?_, ?_, ?_⟩, rfl⟩
    · rw [up_k (by decide) rfl, up_k (by decide) rfl, up_k (by decide) rfl, up_k (by decide) rfl]; exact e8
    · rw [up_k (by decide) rfl, up_k (by decide) rfl, up_k (by decide) rfl, up_k (by decide) rfl]; exact e10
    · rw [up_k (by decide) rfl, up_s, up_k (by decide) rfl, up_s]
    · rw [up_k (by decide) rfl, up_k (by decide) rfl]; exact ht
theorem R_day {c : Nat} {MB MM B1 M1 : MT} {a b e : Int32} {v1 v2 : Option Value} (h : Rl c MB MM) (d1 : DP MB a b e v1 B1) (d2 : DM (wB c) (sB c) MM a b e v2 M1) : Rl (c + 1) B1 M1 ∧ v1 = v2 := by
  obtain ⟨hI, ⟨hS, hW⟩, e8, e10, e11, ht⟩ := h
  obtain ⟨p1, p2, p3, -, p5⟩ := d1
  obtain ⟨m1, m2, m3, m4, -, m6⟩ := d2
  have wl := wB_le c
  have ek : (1000 : Int32).toInt = 1000 := by decide
  have e1 : (1 : Int32).toInt = 1 := by decide
  have hw9 : InvW (wB (c + 1)) (sB (c + 1)) M1 := InvW_wid m2 wl.1 (Int.le_of_eq wl.2.2.2)
  rcases p5 with ⟨v, t, w⟩ | ⟨v, t, w1, w2, w3, w4⟩
  · rcases m6 with ⟨v', t', w'⟩ | ⟨v', t', w1', w2', w3', w4'⟩
    · exact ⟨⟨p1, ⟨m1, hw9⟩, by rw [p2, m3]; exact e8, by rw [t, t']; exact e10, by rw [p3, m4]; exact e11, by rw [t']; exact ht⟩, by rw [v, v']⟩
    · rcases w with w | w | w | w
      · exact absurd w w1'
      · exact absurd w w2'
      · exact absurd w w3'
      · rw [e10, Int32.lt_iff_toInt_lt, ek] at w
        exact absurd (Int32.toInt_inj.mp (by rw [ek]; omega)) w4'
  · rw [e10, Int32.lt_iff_toInt_lt, ek] at w4
    rcases m6 with ⟨v', t', w'⟩ | ⟨v', t', w1', w2', w3', w4'⟩
    · rcases w' with w | w | w | w
      · exact absurd w w1
      · exact absurd w w2
      · exact absurd w w3
      · rw [w, ek] at w4; omega
    · have a1 := i32_add (x := MM 0 0) (by omega) (by omega) (k := 1) (by decide) (by decide)
      exact ⟨⟨p1, ⟨m1, hw9⟩, by rw [p2, m3]; exact e8, by rw [t, t', e10], by rw [p3, m4]; exact e11, by rw [t']; omega⟩, by rw [v, v', e10]⟩
theorem Q_want (MB MM : MT) (a : Int32) : (s3_X8_want MB a).1 = (s3_X9_want MM a).1 := by
  unfold s3_X8_want s3_X9_want
  rw [isIn_eq MM MB]
  by_cases q : (s_X8_within MB a 0 1000) = 0
  · rw [if_pos q, if_pos q]
  · rw [if_neg q, if_neg q]
theorem Q_read {c : Nat} {MB MM : MT} (h : Rl c MB MM) (a e : Int32) : (s3_X8_read MB a e).1 = (s3_X9_read MM a e).1 := by
  have e8 := h.2.2.1
  have es : s_X9_isStack MM a = s_X8_isStack MB a := by unfold s_X9_isStack s_X8_isStack; rw [e8, isIn_eq MM MB]
  unfold s3_X8_read s3_X9_read
  rw [es, isIn_eq MM MB]
  by_cases q : (s_X8_isStack MB a) = 0
  · rw [if_pos q, if_pos q]
  · rw [if_neg q, if_neg q]
    by_cases q2 : (s_X8_within MB e 0 100) = 0
    · rw [if_pos q2, if_pos q2]
    · rw [if_neg q2, if_neg q2]
theorem R_start {MB MM : MT} (hB : FrB MB) (hQ : FrQ 8 MB) (hM : FrM MM) (hV : FmW MM) : Rl 0 MB MM := by
  have e0 : (0 : Int32).toInt = 0 := by decide
  have hl : ∀ i, LwZ MB i → LwOk MB i := fun i h => ⟨by rw [h.1]; decide, by rw [h.2.1]; decide, fun r _ => by rw [h.2.2]; show 0 ≤ (0 : Int32).toInt ∧ (0 : Int32).toInt ≤ 3; decide⟩
  refine ⟨⟨by rw [fr_0_8 hB]; decide, by rw [fr_0_9 hB]; decide, by rw [fr_15_1 hB]; decide, by rw [hQ.1.1]; decide, fun i hi => ?_⟩, ⟨⟨by rw [fm_9 hM]; decide, by rw [fm_31 hM]; decide, by rw [fm_27 hM]; decide, fun l _ => ?_, fun k _ => ?_⟩, by rw [fm_3 hM]; decide, by rw [fm_4 hM]; decide, fun s _ => ?_, fun b hb hn => absurd (fma_2 hM hb) hn⟩, by rw [fr_0_8 hB, fm_9 hM], by rw [fr_0_10 hB, fm_0 hM], by rw [fr_0_11 hB, fm_1 hM], by rw [fm_0 hM]; decide⟩
  · rcases hi with rfl | ⟨b, hb, rfl⟩
    · exact hl _ hQ.1.2
    · exact hl _ (hQ.2 b hb)
  · rw [hV.1]; show 0 ≤ (0 : Int32).toInt ∧ (0 : Int32).toInt ≤ 16; decide
  · rw [hV.2.1]; show 0 ≤ (0 : Int32).toInt ∧ (0 : Int32).toInt ≤ 3; decide
  · rw [hV.2.2]; show 0 ≤ (0 : Int32).toInt ∧ (0 : Int32).toInt ≤ wB 0; rw [e0]; decide
theorem Rl_feed {c : Nat} {MB MM : MT} (h : Rl c MB MM) (a b e g k : Int32) : Rl (c + 1) (s3_X8_feed MB a b e g k).2 (s3_X9_feed MM a b e g k).2 := Rl_L h (feed_KpL h.1 a b e g k) (mfeed_KL h.2.1.1 a b e g k)
theorem Rl_law {c : Nat} {MB MM B1 M1 : MT} (h : Rl c MB MM) (k1 : KpL MB B1) (k2 : KL MM M1) : Rl (c + 1) B1 M1 := Rl_L h k1 k2
theorem i_inj {a b : Int32} (h : some (Value.int a) = some (Value.int b)) : a = b := Value.int.inj (Option.some.inj h)

theorem zokB : zok ZB := by
  have h : (ZB.all fun z => z.2.2.all fun r => match r with | some j => decide (j < ZB.length) | none => true) = true := by decide +kernel
  intro z hz j hj
  have h1 := List.all_eq_true.mp (List.all_eq_true.mp h z hz) (some j) hj
  exact of_decide_eq_true h1
theorem zokM : zok ZM := by
  have h : (ZM.all fun z => z.2.2.all fun r => match r with | some j => decide (j < ZM.length) | none => true) = true := by decide +kernel
  intro z hz j hj
  have h1 := List.all_eq_true.mp (List.all_eq_true.mp h z hz) (some j) hj
  exact of_decide_eq_true h1
theorem q_depth (MB MM : MT) (a c : Int32) : (s1_X8_depth MB a c).1 = (s1_X9_depth MM a c).1 := by
  by_cases h1 : s_X8_isBay MB a = 0 <;> by_cases h2 : s_X8_within MB c 0 3000 = 0 <;> simp [s1_X8_depth, s1_X9_depth, isBay_eq MM MB, isIn_eq MM MB, h1, h2]
theorem q_mill (MB MM : MT) (a c : Int32) : (s1_X8_mill MB a c).1 = (s1_X9_mill MM a c).1 := by
  by_cases h1 : s_X8_isBay MB a = 0 <;> by_cases h2 : s_X8_within MB c 1 20 = 0 <;> by_cases h3 : 0 ≤ 1000 - c <;> simp [s1_X8_mill, s1_X9_mill, s1_X9_lastOf, isBay_eq MM MB, isIn_eq MM MB, h1, h2, h3]
theorem q_track (MB MM : MT) (a : Int32) : (s1_X8_track MB a).1 = (s1_X9_track MM a).1 := by
  by_cases h1 : s_X8_isBay MB a = 0 <;> simp [s1_X8_track, s1_X9_track, isBay_eq MM MB, h1]
theorem q_want (MB MM : MT) (a : Int32) : (s1_X8_want MB a).1 = (s1_X9_want MM a).1 := by
  by_cases h1 : s_X8_within MB a 0 1000 = 0 <;> simp [s1_X8_want, s1_X9_want, isIn_eq MM MB, h1]
theorem q_tells (MB MM : MT) (a c : Int32) : s1_X8_tells MB a c = s1_X9_tells MM a c := by
  by_cases h1 : s_X8_within MB a 0 1000 = 0 <;> by_cases h2 : s_X8_within MB c 10 25 = 0 <;> simp [s1_X8_tells, s1_X9_tells, s1_X9_lastOf, s_X9_one, isIn_eq MM MB, h1, h2]
theorem q_bay {MB : MT} (fB : FrB MB) (MM : MT) (a c : Int32) : s1_X8_bay MB a c = s1_X9_bay MM a c := by
  by_cases h1 : s_X8_isBay MB a = 0
  · simp [s1_X8_bay, s1_X9_bay, isBay_eq MM MB, h1]
  · have hb := vlt (isBay_in h1)
    simp [s1_X8_bay, s1_X9_bay, isBay_eq MM MB, h1, s_X0_tellOf, frb_0 fB hb, frb_1 fB hb, frb_2 fB hb, frb_3 fB hb, frb_4 fB hb, frb_5 fB hb, frb_6 fB hb]
theorem q_law (MB MM : MT) : (s2_X8_law MB).1 = (s2_X9_law MM).1 := by
  have e : Int32.toNatClampNeg 0 = 0 := by decide
  show (s1_X2_readText (s_X1_begin MB (54 + 10 * Int32.toNatClampNeg 0) 0 0) (54 + 10 * Int32.toNatClampNeg 0)).2 (54 + 10 * Int32.toNatClampNeg 0) 0 = 0
  rw [e]
  simp [s1_X2_readText, s_X1_begin, s1_X7_cut, up2, va_up]
theorem within_00 {M : MT} {a : Int32} (h : ¬ a = 0) : s_X8_within M a 0 0 = 0 := by
  unfold s_X8_within
  by_cases h1 : a < 0
  · simp [h1]
  · have h2 : (0 : Int32) < a := by
      rcases Int32.lt_or_eq_of_le (Int32.not_lt.mp h1) with h3 | h3
      · exact h3
      · exact absurd h3.symm h
    simp [h1, h2]
theorem q_count (MB MM : MT) (e : Int32) : s1_X8_count MB e = s1_X9_count MM e := by simp only [s1_X8_count, s1_X9_count]
theorem q_day (MB MM : MT) (a c e : Int32) : (if s_X8_within MB a 0 10 = 0 then (-1 : Int32) else if s_X8_within MB c 0 10 = 0 then -1 else if s_X8_within MB e 0 50 = 0 then -1 else 1) = (if s_X9_isIn MM a 0 10 = 0 then (-1 : Int32) else if s_X9_isIn MM c 0 10 = 0 then -1 else if s_X9_isIn MM e 0 50 = 0 then -1 else 1) := by
  by_cases h1 : s_X8_within MB a 0 10 = 0 <;> by_cases h2 : s_X8_within MB c 0 10 = 0 <;> by_cases h3 : s_X8_within MB e 0 50 = 0 <;> simp [isIn_eq MM MB, h1, h2, h3]

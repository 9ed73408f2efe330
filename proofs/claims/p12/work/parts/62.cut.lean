def RunP (P : Nat → Prop) (a b n : Nat) : Prop := a < b ∧ b ≤ n ∧ (∀ k, a ≤ k → k < b → P k) ∧ (b < n → ¬ P b)
def LetP (M : MT) (k : Nat) : Prop := ¬ s_X7_isLetter M (b8 M k) = 0
def DigP (M : MT) (k : Nat) : Prop := ¬ s_X7_isDigit M (b8 M k) = 0
def BlaP (M : MT) (k : Nat) : Prop := ¬ s_X7_isBlank M (b8 M k) = 0
/-- R is kept by the steps of cut over a text of N bytes -/
def CutR (N : Nat) (R : MT → Nat → Prop) : Prop :=
  (∀ M p, R M p → 0 ≤ (M 18 1).toInt ∧ (M 15 1).toInt ≤ 500) ∧
  (∀ M p q c, R M p → p < N → RunP (LetP M) p q N → WC M (Int32.ofNat p) (Int32.ofNat q) c → R (s_X7_keep M c (Int32.ofNat p) 0) q) ∧
  (∀ M p q, R M p → p < N → ¬ LetP M p → RunP (DigP M) p q N → R (knF M p q) q) ∧
  (∀ M p, R M p → p < N → ¬ LetP M p → ¬ DigP M p → BlaP M p → R M (p + 1)) ∧
  (∀ M p, R M p → p < N → ¬ LetP M p → ¬ DigP M p → ¬ BlaP M p → R (s_X7_keep M (s_X7_signCode M (b8 M p)) (Int32.ofNat p) 0) (p + 1))
theorem b8x {M : MT} {x : Int32} {p : Nat} (hx : x.toInt = (p : Int)) (hp : p ≤ 1000) : b8 M p = s_X6_at M x := by unfold b8; rw [of_toInt hx (by omega)]
theorem one_of {P : Nat → Prop} {p k : Nat} (h : P p) (h1 : p ≤ k) (h2 : k < p + 1) : P k := (show p = k by omega) ▸ h
set_option maxHeartbeats 4000000 in
set_option maxRecDepth 100000 in
theorem c3_X7_cut (cs cv : Nat → Nat) (z : Value) (l : Launch) (D : va_G) (cy : Nat → ClassId) (X : va_W) (ad : Nat → Nat) (M : MT) (n : Int32) (N : Nat) (R : MT → Nat → Prop) (hN : n.toInt = (N : Int) ∧ N ≤ 500) (hR : CutR N R) (hr0 : R (up2 (up2 M 18 1 0) 18 5 n) 0) : CtS cs cv z l yX7_cut cX7_cut 4 none (rK 6) D cy X ad ZB M [.ref (ad 18), .int n] (fun v M1 => v = none ∧ R M1 N) := by
  refine CtS.of (by decide +kernel) (Nat.le_of_ble_eq_true rfl) ?_
  intro K hw f q hnm hl0 hD0 hy0 hX0
  show V K ad 0 0 ZB M 0 [(0, .ref (ad 18)), (1, .int n)] []
  have outer : ∀ (u p : Nat) (x : Int32) (M1 : MT), x.toInt = (p : Int) → p + u = N → R M1 p → V K ad 0 0 ZB M1 12 [(2, .int x), (0, .ref (ad 18)), (1, .int n)] [] := by
    intro u
    induction u using Nat.strongRecOn with
    | ind u ih =>
      intro p x M1 hx hu hr
      rcases Nat.eq_or_lt_of_le (show p ≤ N by omega) with hp | hp
      · refine V_iload_n f dX7_cut_12 0 rfl ?_
        refine V_iload_n f dX7_cut_13 2 rfl ?_
        refine V_icmp_ge (tgt := 159) f dX7_cut_14 (by decide) (fun _ => ?_) (fun h => absurd (geN hx hN.1 hp) h)
        exact V_vret f q dX7_cut_159 (Nat.zero_le _) (Nat.zero_le _) ⟨rfl, rfl, rfl, by rw [← hp]; exact hr⟩
      · have next : ∀ (q : Nat) (y : Int32) (M2 : MT), y.toInt = (q : Int) → p < q → q ≤ N → R M2 q → V K ad 0 0 ZB M2 154 [(3, .int y), (2, .int x), (0, .ref (ad 18)), (1, .int n)] [] := by
          intro q9 y M2 hy hq1 hq2 hr2
          refine V_iload_n f dX7_cut_154 0 rfl ?_
          refine V_istore_n f dX7_cut_155 rfl (by decide) rfl ?_
          refine V_goto (tgt := 12) f dX7_cut_156 (by decide) ?_
          refine V.sub [0, 2, 3] rfl ?_
          exact ih (N - q9) (by omega) q9 y M2 hy (by omega) hr2
        have word : ∀ (q : Nat) (y : Int32), y.toInt = (q : Int) → RunP (LetP M1) p q N → V K ad 0 0 ZB M1 60 [(3, .int y), (2, .int x), (0, .ref (ad 18)), (1, .int n)] [] := by
          intro q9 y hy hrun
          refine V_aload_n f dX7_cut_60 2 rfl ?_
          refine V_aload_n f dX7_cut_61 2 rfl ?_
          refine V_iload_n f dX7_cut_62 1 rfl ?_
          refine V_iload_n f dX7_cut_63 0 rfl ?_
          refine V_cVs (As := [.int x, .int y]) (rest := [.ref (ad 18)]) f hw dX7_cut_64 lk_X7_40 ml_X7_40 ins_X7_wordCode sel_X7_wordCode zb_18 (by decide) rfl (c3_X7_wordCode cs cv z _ _ _ _ ad M1 x y (hR.1 _ _ hr).2) rfl (Nat.le_of_ble_eq_true rfl) rfl ⟨by decide, by decide⟩ ⟨Nat.zero_le _, Nat.zero_le _⟩ rfl rfl (fun v1 Mx1 hp1 => ?_)
          obtain ⟨r1, rfl, e1, hr1⟩ := hp1
          rw [e1]
          show V K ad 0 0 ZB M1 67 [(3, .int y), (2, .int x), (0, .ref (ad 18)), (1, .int n)] [.int r1, .ref (ad 18)]
          refine V_iload_n f dX7_cut_67 1 rfl ?_
          refine V_iconst (v := 0) f dX7_cut_68 (by decide) ?_
          refine V_cVv (As := [.int r1, .int x, .int 0]) (rest := []) f dX7_cut_69 lk_X7_44 ml_X7_44 ins_X7_keep sel_X7_keep zb_18 (by decide) rfl (c_X7_keep (kl K) (kD K) (ky K) (kX K) ad M1 r1 x 0 (hR.1 _ _ hr).1) rfl (Nat.le_of_ble_eq_true rfl) rfl ⟨by decide, by decide⟩ ⟨Nat.zero_le _, Nat.zero_le _⟩ rfl rfl ?_
          refine V_goto (tgt := 154) f dX7_cut_72 (by decide) ?_
          exact next q9 y _ hy hrun.1 hrun.2.1 (by have q2 := hR.2.1 _ _ _ _ hr hp hrun (by rw [← of_toInt hx (by omega), ← of_toInt hy (by have := hrun.2.1; omega)]; exact hr1); rw [← of_toInt hx (by omega)] at q2; exact q2)
        have lets : ∀ (v q : Nat) (y : Int32), y.toInt = (q : Int) → q + v = N → p < q → (∀ k, p ≤ k → k < q → LetP M1 k) → V K ad 0 0 ZB M1 35 [(3, .int y), (2, .int x), (0, .ref (ad 18)), (1, .int n)] [] := by
          intro v9
          induction v9 with
          | zero =>
            intro q9 y hy hv hq hall
            refine V_iload_n f dX7_cut_35 0 rfl ?_
            refine V_iload_n f dX7_cut_36 3 rfl ?_
            refine V_icmp_ge (tgt := 60) f dX7_cut_37 (by decide) (fun _ => ?_) (fun h => absurd (geN hy hN.1 (by omega)) h)
            exact word q9 y hy ⟨hq, by omega, hall, fun h => absurd h (by omega)⟩
          | succ v9 ihv =>
            intro q9 y hy hv hq hall
            refine V_iload_n f dX7_cut_35 0 rfl ?_
            refine V_iload_n f dX7_cut_36 3 rfl ?_
            refine V_icmp_ge (tgt := 60) f dX7_cut_37 (by decide) (fun h => absurd h (ngeN hy hN.1 (by omega))) (fun _ => ?_)
            refine V_aload_n f dX7_cut_40 2 rfl ?_
            refine V_getR f dX7_cut_41 lf_7_28 rfl zb_18 rfl ?_
            refine V_iload_n f dX7_cut_44 0 rfl ?_
            refine V_cVi (As := [.int y]) (rest := []) f dX7_cut_45 lk_X7_32 ml_X7_32 ins_X6_at sel_X6_at zb_15 (by decide) rfl (c_X6_at (kl K) (kD K) (ky K) (kX K) ad M1 y (hR.1 _ _ hr).2) rfl (Nat.le_of_ble_eq_true rfl) rfl ⟨by decide, by decide⟩ ⟨Nat.zero_le _, Nat.zero_le _⟩ rfl rfl ?_
            refine V_cSi (As := [.int (s_X6_at M1 y)]) (rest := []) f dX7_cut_48 lk_X7_36 ml_X7_36 sta_X7_isLetter (c_X7_isLetter (kl K) (kD K) (ky K) (kX K) ad M1 (s_X6_at M1 y)) rfl (Nat.le_of_ble_eq_true rfl) rfl ⟨by decide, by decide⟩ ⟨Nat.zero_le _, Nat.zero_le _⟩ rfl rfl ?_
            refine V_if_eq (tgt := 60) f dX7_cut_51 (by decide) (fun c2 => ?_) (fun c2 => ?_)
            · exact word q9 y hy ⟨hq, by omega, hall, fun _ h => h (by rw [b8x hy (by omega)]; exact c2)⟩
            · refine V_iinc (v := y + 1) f dX7_cut_54 0 rfl rfl (by decide) rfl ?_
              refine V_goto (tgt := 35) f dX7_cut_57 (by decide) ?_
              refine ihv (q9 + 1) (y + 1) (ltN_inc hy hv (by omega)) (by omega) (by omega) (fun k k1 k2 => ?_)
              by_cases ek : k = q9
              · subst ek; unfold LetP; rw [b8x hy (by omega)]; exact c2
              · exact hall k k1 (by omega)
        have numb : ¬ LetP M1 p → ∀ (q : Nat) (y : Int32), y.toInt = (q : Int) → RunP (DigP M1) p q N → V K ad 0 0 ZB M1 114 [(3, .int y), (2, .int x), (0, .ref (ad 18)), (1, .int n)] [] := by
          intro hnl q9 y hy hrun
          refine V_aload_n f dX7_cut_114 2 rfl ?_
          refine V_iload_n f dX7_cut_115 1 rfl ?_
          refine V_iload_n f dX7_cut_116 0 rfl ?_
          refine V_cVp (As := [.int x, .int y]) (rest := []) f dX7_cut_117 lk_X7_51 ml_X7_51 ins_X7_keepNumber sel_X7_keepNumber zb_18 (by decide) rfl (c3_X7_keepNumber _ _ _ _ ad M1 x y p q9 hx hy hrun.1 (by have := hrun.2.1; omega) (hR.1 _ _ hr).1 (hR.1 _ _ hr).2) rfl (Nat.le_of_ble_eq_true rfl) rfl ⟨by decide, by decide⟩ ⟨Nat.zero_le _, Nat.zero_le _⟩ rfl rfl (fun v3 Mx3 hp3 => ?_)
          obtain ⟨rfl, e3⟩ := hp3
          rw [e3]
          show V K ad 0 0 ZB (knF M1 p q9) 120 [(3, .int y), (2, .int x), (0, .ref (ad 18)), (1, .int n)] []
          refine V_goto (tgt := 154) f dX7_cut_120 (by decide) ?_
          exact next q9 y _ hy hrun.1 hrun.2.1 (hR.2.2.1 _ _ _ hr hp hnl hrun)
        have digs : ¬ LetP M1 p → ∀ (v q : Nat) (y : Int32), y.toInt = (q : Int) → q + v = N → p < q → (∀ k, p ≤ k → k < q → DigP M1 k) → V K ad 0 0 ZB M1 89 [(3, .int y), (2, .int x), (0, .ref (ad 18)), (1, .int n)] [] := by
          intro hnl v9
          induction v9 with
          | zero =>
            intro q9 y hy hv hq hall
            refine V_iload_n f dX7_cut_89 0 rfl ?_
            refine V_iload_n f dX7_cut_90 3 rfl ?_
            refine V_icmp_ge (tgt := 114) f dX7_cut_91 (by decide) (fun _ => ?_) (fun h => absurd (geN hy hN.1 (by omega)) h)
            exact numb hnl q9 y hy ⟨hq, by omega, hall, fun h => absurd h (by omega)⟩
          | succ v9 ihv =>
            intro q9 y hy hv hq hall
            refine V_iload_n f dX7_cut_89 0 rfl ?_
            refine V_iload_n f dX7_cut_90 3 rfl ?_
            refine V_icmp_ge (tgt := 114) f dX7_cut_91 (by decide) (fun h => absurd h (ngeN hy hN.1 (by omega))) (fun _ => ?_)
            refine V_aload_n f dX7_cut_94 2 rfl ?_
            refine V_getR f dX7_cut_95 lf_7_28 rfl zb_18 rfl ?_
            refine V_iload_n f dX7_cut_98 0 rfl ?_
            refine V_cVi (As := [.int y]) (rest := []) f dX7_cut_99 lk_X7_32 ml_X7_32 ins_X6_at sel_X6_at zb_15 (by decide) rfl (c_X6_at (kl K) (kD K) (ky K) (kX K) ad M1 y (hR.1 _ _ hr).2) rfl (Nat.le_of_ble_eq_true rfl) rfl ⟨by decide, by decide⟩ ⟨Nat.zero_le _, Nat.zero_le _⟩ rfl rfl ?_
            refine V_cSi (As := [.int (s_X6_at M1 y)]) (rest := []) f dX7_cut_102 lk_X7_48 ml_X7_48 sta_X7_isDigit (c_X7_isDigit (kl K) (kD K) (ky K) (kX K) ad M1 (s_X6_at M1 y)) rfl (Nat.le_of_ble_eq_true rfl) rfl ⟨by decide, by decide⟩ ⟨Nat.zero_le _, Nat.zero_le _⟩ rfl rfl ?_
            refine V_if_eq (tgt := 114) f dX7_cut_105 (by decide) (fun c4 => ?_) (fun c4 => ?_)
            · exact numb hnl q9 y hy ⟨hq, by omega, hall, fun _ h => h (by rw [b8x hy (by omega)]; exact c4)⟩
            · refine V_iinc (v := y + 1) f dX7_cut_108 0 rfl rfl (by decide) rfl ?_
              refine V_goto (tgt := 89) f dX7_cut_111 (by decide) ?_
              refine ihv (q9 + 1) (y + 1) (ltN_inc hy hv (by omega)) (by omega) (by omega) (fun k k1 k2 => ?_)
              by_cases ek : k = q9
              · subst ek; unfold DigP; rw [b8x hy (by omega)]; exact c4
              · exact hall k k1 (by omega)
        have hx1 := ltN_inc hx (n := N - p - 1) (m := N) (by omega) (by omega)
        refine V_iload_n f dX7_cut_12 0 rfl ?_
        refine V_iload_n f dX7_cut_13 2 rfl ?_
        refine V_icmp_ge (tgt := 159) f dX7_cut_14 (by decide) (fun h => absurd h (ngeN hx hN.1 hp)) (fun _ => ?_)
        refine V_iload_n f dX7_cut_17 0 rfl ?_
        refine V_iconst (v := 1) f dX7_cut_18 (by decide) ?_
        refine V_iadd f dX7_cut_19 ?_
        refine V_istore_n f dX7_cut_20 rfl (by decide) rfl ?_
        refine V_aload_n f dX7_cut_21 2 rfl ?_
        refine V_getR f dX7_cut_22 lf_7_28 rfl zb_18 rfl ?_
        refine V_iload_n f dX7_cut_25 1 rfl ?_
        refine V_cVi (As := [.int x]) (rest := []) f dX7_cut_26 lk_X7_32 ml_X7_32 ins_X6_at sel_X6_at zb_15 (by decide) rfl (c_X6_at (kl K) (kD K) (ky K) (kX K) ad M1 x (hR.1 _ _ hr).2) rfl (Nat.le_of_ble_eq_true rfl) rfl ⟨by decide, by decide⟩ ⟨Nat.zero_le _, Nat.zero_le _⟩ rfl rfl ?_
        refine V_cSi (As := [.int (s_X6_at M1 x)]) (rest := []) f dX7_cut_29 lk_X7_36 ml_X7_36 sta_X7_isLetter (c_X7_isLetter (kl K) (kD K) (ky K) (kX K) ad M1 (s_X6_at M1 x)) rfl (Nat.le_of_ble_eq_true rfl) rfl ⟨by decide, by decide⟩ ⟨Nat.zero_le _, Nat.zero_le _⟩ rfl rfl ?_
        refine V_if_eq (tgt := 75) f dX7_cut_32 (by decide) (fun c5 => ?_) (fun c5 => ?_)
        · refine V_aload_n f dX7_cut_75 2 rfl ?_
          refine V_getR f dX7_cut_76 lf_7_28 rfl zb_18 rfl ?_
          refine V_iload_n f dX7_cut_79 1 rfl ?_
          refine V_cVi (As := [.int x]) (rest := []) f dX7_cut_80 lk_X7_32 ml_X7_32 ins_X6_at sel_X6_at zb_15 (by decide) rfl (c_X6_at (kl K) (kD K) (ky K) (kX K) ad M1 x (hR.1 _ _ hr).2) rfl (Nat.le_of_ble_eq_true rfl) rfl ⟨by decide, by decide⟩ ⟨Nat.zero_le _, Nat.zero_le _⟩ rfl rfl ?_
          refine V_cSi (As := [.int (s_X6_at M1 x)]) (rest := []) f dX7_cut_83 lk_X7_48 ml_X7_48 sta_X7_isDigit (c_X7_isDigit (kl K) (kD K) (ky K) (kX K) ad M1 (s_X6_at M1 x)) rfl (Nat.le_of_ble_eq_true rfl) rfl ⟨by decide, by decide⟩ ⟨Nat.zero_le _, Nat.zero_le _⟩ rfl rfl ?_
          refine V_if_eq (tgt := 123) f dX7_cut_86 (by decide) (fun c6 => ?_) (fun c6 => ?_)
          · refine V_aload_n f dX7_cut_123 2 rfl ?_
            refine V_getR f dX7_cut_124 lf_7_28 rfl zb_18 rfl ?_
            refine V_iload_n f dX7_cut_127 1 rfl ?_
            refine V_cVi (As := [.int x]) (rest := []) f dX7_cut_128 lk_X7_32 ml_X7_32 ins_X6_at sel_X6_at zb_15 (by decide) rfl (c_X6_at (kl K) (kD K) (ky K) (kX K) ad M1 x (hR.1 _ _ hr).2) rfl (Nat.le_of_ble_eq_true rfl) rfl ⟨by decide, by decide⟩ ⟨Nat.zero_le _, Nat.zero_le _⟩ rfl rfl ?_
            refine V_cSi (As := [.int (s_X6_at M1 x)]) (rest := []) f dX7_cut_131 lk_X7_55 ml_X7_55 sta_X7_isBlank (c_X7_isBlank (kl K) (kD K) (ky K) (kX K) ad M1 (s_X6_at M1 x)) rfl (Nat.le_of_ble_eq_true rfl) rfl ⟨by decide, by decide⟩ ⟨Nat.zero_le _, Nat.zero_le _⟩ rfl rfl ?_
            refine V_if_ne (tgt := 154) f dX7_cut_134 (by decide) (fun c7 => ?_) (fun c7 => ?_)
            · exact next (p + 1) (x + 1) _ hx1 (by omega) (by omega) (hR.2.2.2.1 _ _ hr hp (fun h => h (by rw [b8x hx (by omega)]; exact c5)) (fun h => h (by rw [b8x hx (by omega)]; exact c6)) (by unfold BlaP; rw [b8x hx (by omega)]; exact c7))
            · refine V_aload_n f dX7_cut_137 2 rfl ?_
              refine V_aload_n f dX7_cut_138 2 rfl ?_
              refine V_getR f dX7_cut_139 lf_7_28 rfl zb_18 rfl ?_
              refine V_iload_n f dX7_cut_142 1 rfl ?_
              refine V_cVi (As := [.int x]) (rest := [.ref (ad 18)]) f dX7_cut_143 lk_X7_32 ml_X7_32 ins_X6_at sel_X6_at zb_15 (by decide) rfl (c_X6_at (kl K) (kD K) (ky K) (kX K) ad M1 x (hR.1 _ _ hr).2) rfl (Nat.le_of_ble_eq_true rfl) rfl ⟨by decide, by decide⟩ ⟨Nat.zero_le _, Nat.zero_le _⟩ rfl rfl ?_
              refine V_cSi (As := [.int (s_X6_at M1 x)]) (rest := [.ref (ad 18)]) f dX7_cut_146 lk_X7_58 ml_X7_58 sta_X7_signCode (c_X7_signCode (kl K) (kD K) (ky K) (kX K) ad M1 (s_X6_at M1 x)) rfl (Nat.le_of_ble_eq_true rfl) rfl ⟨by decide, by decide⟩ ⟨Nat.zero_le _, Nat.zero_le _⟩ rfl rfl ?_
              refine V_iload_n f dX7_cut_149 1 rfl ?_
              refine V_iconst (v := 0) f dX7_cut_150 (by decide) ?_
              refine V_cVv (As := [.int (s_X7_signCode M1 (s_X6_at M1 x)), .int x, .int 0]) (rest := []) f dX7_cut_151 lk_X7_44 ml_X7_44 ins_X7_keep sel_X7_keep zb_18 (by decide) rfl (c_X7_keep (kl K) (kD K) (ky K) (kX K) ad M1 (s_X7_signCode M1 (s_X6_at M1 x)) x 0 (hR.1 _ _ hr).1) rfl (Nat.le_of_ble_eq_true rfl) rfl ⟨by decide, by decide⟩ ⟨Nat.zero_le _, Nat.zero_le _⟩ rfl rfl ?_
              exact next (p + 1) (x + 1) _ hx1 (by omega) (by omega) (by have q2 := hR.2.2.2.2 _ _ hr hp (fun h => h (by rw [b8x hx (by omega)]; exact c5)) (fun h => h (by rw [b8x hx (by omega)]; exact c6)) (fun h => h (by rw [b8x hx (by omega)]; exact c7)); rw [← of_toInt hx (by omega), b8x hx (by omega)] at q2; exact q2)
          · exact digs (fun h => h (by rw [b8x hx (by omega)]; exact c5)) (N - (p + 1)) (p + 1) (x + 1) hx1 (by omega) (by omega) (fun k k1 k2 => one_of (by unfold DigP; rw [b8x hx (by omega)]; exact c6) k1 k2)
        · exact lets (N - (p + 1)) (p + 1) (x + 1) hx1 (by omega) (by omega) (fun k k1 k2 => one_of (by unfold LetP; rw [b8x hx (by omega)]; exact c5) k1 k2)
  refine V_aload_n f dX7_cut_0 0 rfl ?_
  refine V_iconst (v := 0) f dX7_cut_1 (by decide) ?_
  refine V_putI f dX7_cut_2 lf_7_7 lp_7_1 rfl rfl rfl rfl zb_18 ?_
  refine V_aload_n f dX7_cut_5 0 rfl ?_
  refine V_iload_n f dX7_cut_6 1 rfl ?_
  refine V_putI f dX7_cut_7 lf_7_25 lp_7_5 rfl rfl rfl rfl zb_18 ?_
  refine V_iconst (v := 0) f dX7_cut_10 (by decide) ?_
  refine V_istore_n f dX7_cut_11 rfl (by decide) rfl ?_
  exact outer N 0 0 _ (by decide) (by omega) hr0

/-- what the search of the reference may change -/
def G3 (M M1 : MT) : Prop := ∀ i, ¬ i = 29 → ¬ i = 30 → ¬ i = 31 → M1 i = M i
theorem G3_29 {M M1 : MT} (h : G3 M M1) (k : Nat) (v : Int32) : G3 M (up2 M1 29 k v) := fun i h1 h2 h3 => by rw [← h i h1 h2 h3]; simp only [up2, va_up, if_neg h1]
theorem G3_30 {M M1 : MT} (h : G3 M M1) (k : Nat) (v : Int32) : G3 M (up2 M1 30 k v) := fun i h1 h2 h3 => by rw [← h i h1 h2 h3]; simp only [up2, va_up, if_neg h2]
theorem G3_G1 {M M1 M2 : MT} (h : G3 M M1) (g : G1 M1 M2) : G3 M M2 := fun i h1 h2 h3 => (g i h3).trans (h i h1 h2 h3)
/-- the laying's rows from place q on are BAYS, and 0 in the first laying -/
def LE (q n : Nat) (x : Int32) (M1 : MT) : Prop := ∀ j, q ≤ j → j < n → (0 ≤ (M1 29 j).toInt ∧ (M1 29 j).toInt ≤ 15) ∧ (x = 0 → M1 29 j = 0)
theorem LE_put {q n : Nat} {x v : Int32} {M1 : MT} (h : LE (q + 1) n x M1) (hv : 0 ≤ v.toInt ∧ v.toInt ≤ 15) (hz : x = 0 → v = 0) : LE q n x (up2 M1 29 q v) := by
  intro j h1 h2
  by_cases e : j = q
  · subst e
    rw [up_s]
    exact ⟨hv, hz⟩
  · rw [up_k e rfl]
    exact h j (by omega) h2
def BZ (q : Nat) (M1 : MT) : Prop := ∀ j, j < q → M1 30 j = 0
theorem BZ_put {q : Nat} {v : Int32} {M1 : MT} (h : BZ q M1) (hv : v = 0) : BZ (q + 1) (up2 M1 30 q v) := by
  intro j h1
  by_cases e : j = q
  · subst e; rw [up_s]; exact hv
  · rw [up_k e rfl]; exact h j (by omega)
theorem z16 : (0 : Int32) / 16 = 0 := Int32.zero_div
theorem r16 : (0 : Int32) - 0 / 16 * 16 = 0 := by rw [z16]; decide
theorem nat_eq {x : Int32} {n : Nat} (h : x.toInt = (n : Int)) : x.toNatClampNeg = n := by show x.toInt.toNat = n; omega
theorem bx {x : Int32} {n : Nat} (h : x.toInt = ((n : Nat) : Int) - 1) (hn : n ≤ 3) : (n = 0 → x < 0) ∧ (¬ n = 0 → ¬ x < 0 ∧ vp_in x 3 ∧ x.toNatClampNeg = n - 1 ∧ (x + (-1)).toInt = ((n - 1 : Nat) : Int) - 1) := by
  have e0 : (0 : Int32).toInt = 0 := by decide
  have e1 : (-1 : Int32).toInt = -1 := by decide
  refine ⟨fun e => by rw [Int32.lt_iff_toInt_lt]; omega, fun e => ⟨by rw [Int32.lt_iff_toInt_lt]; omega, by rw [vp_in_iff]; omega, ?_, ?_⟩⟩
  · show x.toInt.toNat = n - 1; omega
  · rw [Int32.toInt_add, e1, Int.bmod_eq_of_le (by omega) (by omega)]; omega
theorem bx1 {x : Int32} {n : Nat} (h : x.toInt = ((n + 1 : Nat) : Int) - 1) (hn : n + 1 ≤ 3) : ¬ x < 0 ∧ vp_in x 3 ∧ x.toNatClampNeg = n ∧ (x + (-1)).toInt = (n : Int) - 1 := by
  have e0 : (0 : Int32).toInt = 0 := by decide
  have e1 : (-1 : Int32).toInt = -1 := by decide
  refine ⟨by rw [Int32.lt_iff_toInt_lt]; omega, by rw [vp_in_iff]; omega, ?_, ?_⟩
  · show x.toInt.toNat = n; omega
  · rw [Int32.toInt_add, e1, Int.bmod_eq_of_le (by omega) (by omega)]; omega
theorem xle {x : Int32} (h0 : 0 ≤ x.toInt) (h : ¬ x = 0) : ¬ x ≤ 0 := fun h1 => h (Int32.toInt_inj.mp (by
  have e0 : (0 : Int32).toInt = 0 := by decide
  rw [Int32.le_iff_toInt_le] at h1; omega))
theorem rle {r : Int32} (h : r.toInt ≤ 0) : ¬ 0 < r := by
  have e0 : (0 : Int32).toInt = 0 := by decide
  rw [Int32.lt_iff_toInt_lt]; omega
theorem kd3 {a b : Int32} (hd : 1 ≤ a.toInt ∧ a.toInt ≤ 3) (h : 0 ≤ b.toInt ∧ b.toInt < a.toInt) : vp_in b 3 ∧ b.toNatClampNeg < a.toNatClampNeg := by
  refine ⟨by rw [vp_in_iff]; omega, ?_⟩
  show b.toInt.toNat < a.toInt.toNat
  omega
set_option maxHeartbeats 4000000 in
set_option maxRecDepth 100000 in
theorem c1_X9_best (l : Launch) (D : va_G) (cy : Nat → ClassId) (X : va_W) (ad : Nat → Nat) (M : MT) (a : Int32) (b : Int32) (fr : FrM M) : CtP l yX9_best cX9_best 9 (some .int) (rK 2) D cy X ad ZM M [.ref (ad 0), .int a, .int b] (fun v _ => v = some (.int (if (s_X9_isIn M a 1 3) = 0 then -1 else if (s_X9_isIn M b (-1) (a - 1)) = 0 then -1 else 0))) := by
  refine Ctr.of (by decide +kernel) (Nat.le_of_ble_eq_true rfl) ?_
  intro K f q hnm hl0 hD0 hy0 hX0
  show V K ad 0 0 ZM M 0 [(0, .ref (ad 0)), (1, .int a), (2, .int b)] []
  have main : ¬ (s_X9_isIn M a 1 3) = 0 → ¬ (s_X9_isIn M b (-1) (a - 1)) = 0 → ∀ W : Int32, 1 ≤ W.toInt → W.toInt ≤ 4096 → V K ad 0 0 ZM M 46 [(0, .ref (ad 0)), (1, .int a), (2, .int b)] [.int W] := by
    intro w1 w2 W hW1 hW2
    have hd : 1 ≤ a.toInt ∧ a.toInt ≤ 3 := d13 (M := M) w1
    have han : a.toInt = (a.toNatClampNeg : Int) := by show a.toInt = ((a.toInt.toNat : Nat) : Int); omega
    have outer : ∀ (n : Nat) (x : Int32) (M1 : MT), 0 ≤ x.toInt → x.toInt + (n : Nat) = W.toInt → G3 M M1 → (x = 0 ∨ BZ a.toNatClampNeg M1) → V K ad 0 0 ZM M1 53 [(5, .int x), (4, .int 0), (3, .int W), (0, .ref (ad 0)), (1, .int a), (2, .int b)] [] := by
      intro n
      induction n with
      | zero =>
        intro x M1 x0 hx hG hB
        have hB9 : BZ a.toNatClampNeg M1 := hB.resolve_left (fun e => by rw [e] at hx; have e0 : (0 : Int32).toInt = 0 := (by decide); omega)
        rcases Decidable.em (b = -1) with eb | eb
        · refine V_iload f dX9_best_53 0 rfl ?_
          refine V_iload_n f dX9_best_55 2 rfl ?_
          refine V_icmp_ge (tgt := 159) f dX9_best_56 (by decide) (fun _ => ?_) (fun h => absurd (lend hx) h)
          refine V_iload_n f dX9_best_159 5 rfl ?_
          refine V_iconst (v := (-1)) f dX9_best_160 (by decide) ?_
          refine V_icmp_ne (tgt := 169) f dX9_best_161 (by decide) (fun h => absurd eb h) (fun _ => ?_)
          refine V_iload f dX9_best_164 1 rfl ?_
          refine V_goto (tgt := 175) f dX9_best_166 (by decide) ?_
          exact V_iret f q dX9_best_175 rfl (Nat.zero_le _) (Nat.zero_le _) ⟨rfl, rfl, (by simp only [if_neg w1, if_neg w2])⟩
        · have kb9 := kd3 hd (kd (M := M) w2 hd eb)
          refine V_iload f dX9_best_53 0 rfl ?_
          refine V_iload_n f dX9_best_55 2 rfl ?_
          refine V_icmp_ge (tgt := 159) f dX9_best_56 (by decide) (fun _ => ?_) (fun h => absurd (lend hx) h)
          refine V_iload_n f dX9_best_159 5 rfl ?_
          refine V_iconst (v := (-1)) f dX9_best_160 (by decide) ?_
          refine V_icmp_ne (tgt := 169) f dX9_best_161 (by decide) (fun _ => ?_) (fun h => absurd h eb)
          refine V_aload_n f dX9_best_169 3 rfl ?_
          refine V_getR f dX9_best_170 lf_9_103 rfl zm_0 rfl ?_
          refine V_iload_n f dX9_best_173 5 rfl ?_
          refine V_ialdE (x := 0) f dX9_best_174 zm_30 kb9.1 (hB9 _ kb9.2) ?_
          exact V_iret f q dX9_best_175 rfl (Nat.zero_le _) (Nat.zero_le _) ⟨rfl, rfl, (by simp only [if_neg w1, if_neg w2])⟩
      | succ n ih =>
        intro x M1 x0 hx hG hB
        have copy : x = 0 → ∀ (q c : Nat) (z u : Int32) (M2 : MT), c + q = a.toNatClampNeg → z.toInt = (c : Int) → G3 M M2 → (∀ j, j < a.toNatClampNeg → M2 29 j = 0) → BZ c M2 → V K ad 0 0 ZM M2 127 [(8, .int z), (4, .int 0), (7, .int 0), (6, .int u), (5, .int x), (3, .int W), (0, .ref (ad 0)), (1, .int a), (2, .int b)] [] := by
          intro ex q9
          induction q9 with
          | zero =>
            intro c z u M2 hc hzc hG2 hl2 hb2
            obtain rfl : c = a.toNatClampNeg := by omega
            refine V_iload f dX9_best_127 0 rfl ?_
            refine V_iload_n f dX9_best_129 7 rfl ?_
            refine V_icmp_ge (tgt := 153) f dX9_best_130 (by decide) (fun _ => ?_) (fun h => absurd (by rw [Int32.le_iff_toInt_le]; omega) h)
            refine V_iinc (v := x + 1) f dX9_best_153 4 rfl rfl (by decide) rfl ?_
            refine V_goto (tgt := 53) f dX9_best_156 (by decide) ?_
            refine V.sub [0, 2, 5, 6, 7, 8] rfl ?_
            exact ih (x + 1) M2 (linc x0 hx (by omega)).1 (linc x0 hx (by omega)).2.1 hG2 (Or.inr hb2)
          | succ q9 ih2 =>
            intro c z u M2 hc hzc hG2 hl2 hb2
            have hz9 : vp_in z 3 := by rw [vp_in_iff]; omega
            have hzn := nat_eq hzc
            have hz1 : (z + 1).toInt = ((c + 1 : Nat) : Int) := by have e9 := k1 (a := z) (by omega); omega
            refine V_iload f dX9_best_127 0 rfl ?_
            refine V_iload_n f dX9_best_129 7 rfl ?_
            refine V_icmp_ge (tgt := 153) f dX9_best_130 (by decide) (fun h => absurd h (by rw [Int32.le_iff_toInt_le]; omega)) (fun _ => ?_)
            refine V_aload_n f dX9_best_133 6 rfl ?_
            refine V_getR f dX9_best_134 lf_9_103 rfl zm_0 rfl ?_
            refine V_iload f dX9_best_137 0 rfl ?_
            refine V_aload_n f dX9_best_139 6 rfl ?_
            refine V_getR f dX9_best_140 lf_9_100 rfl zm_0 rfl ?_
            refine V_iload f dX9_best_143 0 rfl ?_
            refine V_ialdE (x := M2 29 (Int32.toNatClampNeg z)) f dX9_best_145 zm_29 hz9 rfl ?_
            refine V_iast f dX9_best_146 zm_30 hz9 ?_
            refine V_iinc (v := z + 1) f dX9_best_147 0 rfl rfl (by decide) rfl ?_
            refine V_goto (tgt := 127) f dX9_best_150 (by decide) ?_
            rw [hzn]
            exact ih2 (c + 1) (z + 1) u _ (by omega) hz1 (G3_30 hG2 _ _) (fun j hj => (up_n (show (29 : Nat) ≠ 30 by decide)).trans (hl2 j hj)) (BZ_put hb2 (hl2 c (by omega)))
        have after : ∀ (y u r : Int32) (M2 : MT), r.toInt ≤ 0 → (x = 0 → r = 0) → G3 M M2 → (x = 0 → ∀ j, j < a.toNatClampNeg → M2 29 j = 0) → (x = 0 ∨ BZ a.toNatClampNeg M2) → V K ad 0 0 ZM M2 103 [(7, .int y), (6, .int u), (5, .int x), (4, .int 0), (3, .int W), (0, .ref (ad 0)), (1, .int a), (2, .int b)] [.int r] := by
          intro y u r M2 hr hrz hG2 hl2 hB2
          rcases Decidable.em (x = 0) with ex | ex
          · rw [hrz ex]
            refine V_istore f dX9_best_103 (by decide) rfl ?_
            refine V_iload f dX9_best_105 2 rfl ?_
            refine V_if_le (tgt := 120) f dX9_best_107 (by decide) (fun _ => ?_) (fun h => absurd (by rw [ex]; decide) h)
            refine V_iload f dX9_best_120 0 rfl ?_
            refine V_istore f dX9_best_122 (by decide) rfl ?_
            refine V_iconst (v := 0) f dX9_best_124 (by decide) ?_
            refine V_istore f dX9_best_125 (by decide) rfl ?_
            refine V.sub [0, 1, 2, 3, 4, 5, 6, 7, 8] rfl ?_
            exact copy ex a.toNatClampNeg 0 0 u M2 (by omega) (by decide) hG2 (hl2 ex) (fun j hj => absurd hj (Nat.not_lt_zero j))
          · refine V_istore f dX9_best_103 (by decide) rfl ?_
            refine V_iload f dX9_best_105 2 rfl ?_
            refine V_if_le (tgt := 120) f dX9_best_107 (by decide) (fun h => absurd h (xle x0 ex)) (fun _ => ?_)
            refine V_iload f dX9_best_110 0 rfl ?_
            refine V_iload f dX9_best_112 3 rfl ?_
            refine V_icmp_gt (tgt := 120) f dX9_best_114 (by decide) (fun h => absurd h (rle hr)) (fun _ => ?_)
            refine V_goto (tgt := 153) f dX9_best_117 (by decide) ?_
            refine V_iinc (v := x + 1) f dX9_best_153 2 rfl rfl (by decide) rfl ?_
            refine V_goto (tgt := 53) f dX9_best_156 (by decide) ?_
            refine V.sub [0, 3, 4, 5, 6, 7] rfl ?_
            exact ih (x + 1) M2 (linc x0 hx (by omega)).1 (linc x0 hx (by omega)).2.1 hG2 (Or.inr (hB2.resolve_left ex))
        have digits : ∀ (q : Nat) (y u : Int32) (M2 : MT), q ≤ a.toNatClampNeg → y.toInt = (q : Int) - 1 → (0 ≤ u.toInt ∧ u.toInt ≤ 4096) → (x = 0 → u = 0) → G3 M M2 → LE q a.toNatClampNeg x M2 → (x = 0 ∨ BZ a.toNatClampNeg M2) → V K ad 0 0 ZM M2 68 [(7, .int y), (6, .int u), (5, .int x), (4, .int 0), (3, .int W), (0, .ref (ad 0)), (1, .int a), (2, .int b)] [] := by
          have ha3 : a.toNatClampNeg ≤ 3 := by omega
          intro q9
          induction q9 with
          | zero =>
            intro y u M2 hq hy hu huz hG2 hL2 hB2
            have hb9 := bx (n := 0) hy (by omega)
            refine V_iload f dX9_best_68 0 rfl ?_
            refine V_if_lt (tgt := 98) f dX9_best_70 (by decide) (fun _ => ?_) (fun h => absurd (hb9.1 rfl) h)
            refine V_aload_n f dX9_best_98 5 rfl ?_
            refine V_iload_n f dX9_best_99 6 rfl ?_
            refine V_cVp (As := [.int a]) (rest := []) f dX9_best_100 lk_X9_272 ml_X9_272 ins_X9_layingOf sel_X9_layingOf zm_0 (by decide) rfl (c1_X9_layingOf _ _ _ _ ad M2 a hd ((congrFun (hG2 0 (by decide) (by decide) (by decide)) 1).trans (fm_1 fr)) (fun j hj => (congrFun (hG2 3 (by decide) (by decide) (by decide)) j).trans (fma_3 fr hj)) (fun j hj => (hL2 j (Nat.zero_le _) hj).1)) rfl (Nat.le_of_ble_eq_true rfl) rfl ⟨by decide, by decide⟩ ⟨Nat.zero_le _, Nat.zero_le _⟩ rfl rfl (fun v1 M3 hp => ?_)
            obtain ⟨r, rfl, r1, r2, r3⟩ := hp
            show V K ad 0 0 ZM M3 103 [(7, .int y), (6, .int u), (5, .int x), (4, .int 0), (3, .int W), (0, .ref (ad 0)), (1, .int a), (2, .int b)] [.int r]
            exact after y u r M3 r1 (fun ex => r2 (fun j hj => (hL2 j (Nat.zero_le _) hj).2 ex)) (G3_G1 hG2 r3) (fun ex j hj => (congrFun (r3 29 (by decide)) j).trans ((hL2 j (Nat.zero_le _) hj).2 ex)) (hB2.imp id (fun h j hj => (congrFun (r3 30 (by decide)) j).trans (h j hj)))
          | succ q9 ih2 =>
            intro y u M2 hq hy hu huz hG2 hL2 hB2
            have hb9 := bx1 hy (by omega)
            have hm := md16 hu
            refine V_iload f dX9_best_68 0 rfl ?_
            refine V_if_lt (tgt := 98) f dX9_best_70 (by decide) (fun h => absurd h hb9.1) (fun _ => ?_)
            refine V_aload_n f dX9_best_73 5 rfl ?_
            refine V_getR f dX9_best_74 lf_9_100 rfl zm_0 rfl ?_
            refine V_iload f dX9_best_77 0 rfl ?_
            refine V_iload f dX9_best_79 1 rfl ?_
            refine V_bipush (v := 16) f dX9_best_81 (by decide) ?_
            refine V_irem f dX9_best_83 (by decide) ?_
            refine V_iast f dX9_best_84 zm_29 hb9.2.1 ?_
            refine V_iload f dX9_best_85 1 rfl ?_
            refine V_bipush (v := 16) f dX9_best_87 (by decide) ?_
            refine V_idiv f dX9_best_89 (by decide) ?_
            refine V_istore f dX9_best_90 (by decide) rfl ?_
            refine V_iinc (v := y + (-1)) f dX9_best_92 1 rfl rfl (by decide) rfl ?_
            refine V_goto (tgt := 68) f dX9_best_95 (by decide) ?_
            refine V.sub [0, 1, 2, 3, 4, 5, 6, 7] rfl ?_
            rw [hb9.2.2.1]
            exact ih2 (y + (-1)) (u / 16) _ (by omega) hb9.2.2.2 hm.2 (fun ex => by rw [huz ex]; exact z16) (G3_29 hG2 _ _) (LE_put hL2 hm.1 (fun ex => by rw [huz ex]; exact r16)) (hB2.imp id (fun h j hj => (up_n (show (30 : Nat) ≠ 29 by decide)).trans (h j hj)))
        refine V_iload f dX9_best_53 0 rfl ?_
        refine V_iload_n f dX9_best_55 2 rfl ?_
        refine V_icmp_ge (tgt := 159) f dX9_best_56 (by decide) (fun h => absurd h (lpos hx)) (fun _ => ?_)
        refine V_iload f dX9_best_59 0 rfl ?_
        refine V_istore f dX9_best_61 (by decide) rfl ?_
        refine V_iload_n f dX9_best_63 5 rfl ?_
        refine V_iconst (v := 1) f dX9_best_64 (by decide) ?_
        refine V_isub f dX9_best_65 ?_
        refine V_istore f dX9_best_66 (by decide) rfl ?_
        refine V.sub [0, 1, 2, 3, 4, 5, 6, 7] rfl ?_
        exact digits a.toNatClampNeg (a - 1) x M1 (Nat.le_refl _) (by have e9 := fcd hd; omega) (by omega) id hG (fun j h1 h2 => absurd h2 (by omega)) hB
    refine V_istore_n f dX9_best_46 rfl (by decide) rfl ?_
    refine V_iconst (v := 0) f dX9_best_47 (by decide) ?_
    refine V_istore f dX9_best_48 (by decide) rfl ?_
    refine V_iconst (v := 0) f dX9_best_50 (by decide) ?_
    refine V_istore f dX9_best_51 (by decide) rfl ?_
    exact outer W.toInt.toNat 0 M (by decide) (by have e0 : (0 : Int32).toInt = 0 := (by decide); omega) (fun _ _ _ _ => rfl) (Or.inl rfl)
  refine V_iload_n f dX9_best_0 1 rfl ?_
  refine V_iconst (v := 1) f dX9_best_1 (by decide) ?_
  refine V_iconst (v := 3) f dX9_best_2 (by decide) ?_
  refine V_cSi (As := [.int a, .int 1, .int 3]) (rest := []) f dX9_best_3 lk_X9_109 ml_X9_109 sta_X9_isIn (c_X9_isIn (kl K) (kD K) (ky K) (kX K) ad M a 1 3) rfl (Nat.le_of_ble_eq_true rfl) rfl ⟨by decide, by decide⟩ ⟨Nat.zero_le _, Nat.zero_le _⟩ rfl rfl ?_
  refine V_if_eq (tgt := 20) f dX9_best_6 (by decide) (fun c1 => ?_) (fun c1 => ?_)
  · refine V_iconst (v := (-1)) f dX9_best_20 (by decide) ?_
    exact V_iret f q dX9_best_21 rfl (Nat.zero_le _) (Nat.zero_le _) ⟨rfl, rfl, (by simp only [if_pos c1])⟩
  · refine V_iload_n f dX9_best_9 2 rfl ?_
    refine V_iconst (v := (-1)) f dX9_best_10 (by decide) ?_
    refine V_iload_n f dX9_best_11 1 rfl ?_
    refine V_iconst (v := 1) f dX9_best_12 (by decide) ?_
    refine V_isub f dX9_best_13 ?_
    refine V_cSi (As := [.int b, .int (-1), .int (a - 1)]) (rest := []) f dX9_best_14 lk_X9_109 ml_X9_109 sta_X9_isIn (c_X9_isIn (kl K) (kD K) (ky K) (kX K) ad M b (-1) (a - 1)) rfl (Nat.le_of_ble_eq_true rfl) rfl ⟨by decide, by decide⟩ ⟨Nat.zero_le _, Nat.zero_le _⟩ rfl rfl ?_
    refine V_if_ne (tgt := 22) f dX9_best_17 (by decide) (fun c2 => ?_) (fun c2 => ?_)
    · refine V_iload_n f dX9_best_22 1 rfl ?_
      refine V_iconst (v := 1) f dX9_best_23 (by decide) ?_
      refine V_icmp_ne (tgt := 32) f dX9_best_24 (by decide) (fun c3 => ?_) (fun c3 => ?_)
      · refine V_iload_n f dX9_best_32 1 rfl ?_
        refine V_iconst (v := 2) f dX9_best_33 (by decide) ?_
        refine V_icmp_ne (tgt := 43) f dX9_best_34 (by decide) (fun c4 => ?_) (fun c4 => ?_)
        · refine V_sipush (v := 4096) f dX9_best_43 (by decide) ?_
          exact main c1 c2 4096 (by decide) (by decide)
        · refine V_sipush (v := 256) f dX9_best_37 (by decide) ?_
          refine V_goto (tgt := 46) f dX9_best_40 (by decide) ?_
          exact main c1 c2 256 (by decide) (by decide)
      · refine V_bipush (v := 16) f dX9_best_27 (by decide) ?_
        refine V_goto (tgt := 46) f dX9_best_29 (by decide) ?_
        exact main c1 c2 16 (by decide) (by decide)
    · refine V_iconst (v := (-1)) f dX9_best_20 (by decide) ?_
      exact V_iret f q dX9_best_21 rfl (Nat.zero_le _) (Nat.zero_le _) ⟨rfl, rfl, (by simp only [if_neg c1, if_pos c2])⟩

def rB (b : Nat) : List (Option Nat) := (List.range 16).map (fun k => if k < b then some (28 + k) else none)
def rS (b : Nat) : List (Option Nat) := (List.range 10).map (fun k => if k < b then some (44 + k) else none)
def rL (b : Nat) : List (Option Nat) := (List.range 8).map (fun k => if k < b then some (54 + 10 * k) else none)
def lawC (i : Nat) : ZT := [(1, 0, [none, none, none, none, none, some (i + 1), some (i + 2), some (i + 3), some (i + 4), none, some (i + 5), some (i + 6), some (i + 7), some (i + 8), some (i + 9)]), (11, 16, []), (11, 16, []), (11, 16, []), (11, 16, []), (11, 16, []), (11, 16, []), (11, 48, []), (11, 48, []), (11, 48, [])]
def Zh (b s t : Nat) : ZT := [(8, 0, [some 1, some 2, some 3, some 4, some 14, some 15, some 17, some 22, none, none, none, none, none, none, none]), (13, 16, rB b), (15, 10, rS s), (14, 8, rL t)] ++ [(1, 0, [none, none, none, none, none, some 5, some 6, some 7, some 8, none, some 9, some 10, some 11, some 12, some 13]), (11, 16, []), (11, 16, []), (11, 16, []), (11, 16, []), (11, 16, []), (11, 16, []), (11, 48, []), (11, 48, []), (11, 48, []), (4, 0, [none, none, none, none, none]), (6, 0, [some 16, none]), (10, 500, []), (2, 0, [some 18, none]), (7, 0, [some 15, none, some 19, some 20, some 21, none]), (11, 500, []), (11, 500, []), (11, 500, []), (3, 0, [some 23, some 24, some 25, some 26, some 27, none, none, none]), (11, 16, []), (11, 16, []), (11, 4, []), (11, 4, []), (11, 4, [])]
def Z1f (b : Nat) : ZT := Zh b 0 0 ++ List.replicate b (0, 0, [none, none, none, none, none, none, none])
def Z2f (b : Nat) : ZT := Zh 16 b 0 ++ (List.replicate 16 (0, 0, [none, none, none, none, none, none, none]) ++ List.replicate b (5, 0, [none, none, none, none, none, none, none, none, none]))
def Z3f (b : Nat) : ZT := Zh 16 10 b ++ (List.replicate 16 (0, 0, [none, none, none, none, none, none, none]) ++ List.replicate 10 (5, 0, [none, none, none, none, none, none, none, none, none]) ++ (List.range b).flatMap (fun k => lawC (54 + 10 * k)))
theorem Z3_end : Z3f 8 = ZB := by decide +kernel
theorem Z12 : Z1f 16 = Z2f 0 := by decide +kernel
theorem Z23 : Z2f 10 = Z3f 0 := by decide +kernel
theorem Z1_0 : Z1f 0 = [(8, 0, [some 1, some 2, some 3, some 4, some 14, some 15, some 17, some 22, none, none, none, none, none, none, none]), (13, 16, [none, none, none, none, none, none, none, none, none, none, none, none, none, none, none, none]), (15, 10, [none, none, none, none, none, none, none, none, none, none]), (14, 8, [none, none, none, none, none, none, none, none]), (1, 0, [none, none, none, none, none, some 5, some 6, some 7, some 8, none, some 9, some 10, some 11, some 12, some 13]), (11, 16, []), (11, 16, []), (11, 16, []), (11, 16, []), (11, 16, []), (11, 16, []), (11, 48, []), (11, 48, []), (11, 48, []), (4, 0, [none, none, none, none, none]), (6, 0, [some 16, none]), (10, 500, []), (2, 0, [some 18, none]), (7, 0, [some 15, none, some 19, some 20, some 21, none]), (11, 500, []), (11, 500, []), (11, 500, []), (3, 0, [some 23, some 24, some 25, some 26, some 27, none, none, none]), (11, 16, []), (11, 16, []), (11, 4, []), (11, 4, []), (11, 4, [])] := by decide +kernel
theorem zl1 {b : Nat} (h : b < 16) : (Z1f b).length = 28 + b := (by decide +kernel : ∀ b, b < 16 → (Z1f b).length = 28 + b) b h
theorem z01 {b : Nat} (h : b < 16) : (Z1f b)[0]? = some (8, 0, [some 1, some 2, some 3, some 4, some 14, some 15, some 17, some 22, none, none, none, none, none, none, none]) := (by decide +kernel : ∀ b, b < 16 → (Z1f b)[0]? = some (8, 0, [some 1, some 2, some 3, some 4, some 14, some 15, some 17, some 22, none, none, none, none, none, none, none])) b h
def Z1fx (b : Nat) : ZT := Z1f b ++ [(0, 0, [none, none, none, none, none, none, none])]
theorem zn1 {b : Nat} (h : b < 16) : (Z1fx b).length = (28 + b) + 1 := (by decide +kernel : ∀ b, b < 16 → (Z1fx b).length = (28 + b) + 1) b h
theorem zx1 {b : Nat} (h : b < 16) : (Z1fx b)[(28 + b)]? = some (0, 0, [none, none, none, none, none, none, none]) := (by decide +kernel : ∀ b, b < 16 → (Z1fx b)[(28 + b)]? = some (0, 0, [none, none, none, none, none, none, none])) b h
theorem za1 {b : Nat} (h : b < 16) : (Z1fx b)[1]? = some (13, 16, rB b) := (by decide +kernel : ∀ b, b < 16 → (Z1fx b)[1]? = some (13, 16, rB b)) b h
theorem zs1 {b : Nat} (h : b < 16) : (Z1fx b).set 1 (13, 16, (rB b).set b (some (28 + b))) = Z1f (b + 1) := (by decide +kernel : ∀ b, b < 16 → (Z1fx b).set 1 (13, 16, (rB b).set b (some (28 + b))) = Z1f (b + 1)) b h
theorem rl1 {b : Nat} (h : b < 16) : b < (rB b).length := (by decide +kernel : ∀ b, b < 16 → b < (rB b).length) b h
theorem zl2 {b : Nat} (h : b < 10) : (Z2f b).length = 44 + b := (by decide +kernel : ∀ b, b < 10 → (Z2f b).length = 44 + b) b h
theorem z02 {b : Nat} (h : b < 10) : (Z2f b)[0]? = some (8, 0, [some 1, some 2, some 3, some 4, some 14, some 15, some 17, some 22, none, none, none, none, none, none, none]) := (by decide +kernel : ∀ b, b < 10 → (Z2f b)[0]? = some (8, 0, [some 1, some 2, some 3, some 4, some 14, some 15, some 17, some 22, none, none, none, none, none, none, none])) b h
def Z2fx (b : Nat) : ZT := Z2f b ++ [(5, 0, [none, none, none, none, none, none, none, none, none])]
theorem zn2 {b : Nat} (h : b < 10) : (Z2fx b).length = (44 + b) + 1 := (by decide +kernel : ∀ b, b < 10 → (Z2fx b).length = (44 + b) + 1) b h
theorem zx2 {b : Nat} (h : b < 10) : (Z2fx b)[(44 + b)]? = some (5, 0, [none, none, none, none, none, none, none, none, none]) := (by decide +kernel : ∀ b, b < 10 → (Z2fx b)[(44 + b)]? = some (5, 0, [none, none, none, none, none, none, none, none, none])) b h
theorem za2 {b : Nat} (h : b < 10) : (Z2fx b)[2]? = some (15, 10, rS b) := (by decide +kernel : ∀ b, b < 10 → (Z2fx b)[2]? = some (15, 10, rS b)) b h
theorem zs2 {b : Nat} (h : b < 10) : (Z2fx b).set 2 (15, 10, (rS b).set b (some (44 + b))) = Z2f (b + 1) := (by decide +kernel : ∀ b, b < 10 → (Z2fx b).set 2 (15, 10, (rS b).set b (some (44 + b))) = Z2f (b + 1)) b h
theorem rl2 {b : Nat} (h : b < 10) : b < (rS b).length := (by decide +kernel : ∀ b, b < 10 → b < (rS b).length) b h
theorem zl3 {b : Nat} (h : b < 8) : (Z3f b).length = 54 + 10 * b := (by decide +kernel : ∀ b, b < 8 → (Z3f b).length = 54 + 10 * b) b h
theorem z03 {b : Nat} (h : b < 8) : (Z3f b)[0]? = some (8, 0, [some 1, some 2, some 3, some 4, some 14, some 15, some 17, some 22, none, none, none, none, none, none, none]) := (by decide +kernel : ∀ b, b < 8 → (Z3f b)[0]? = some (8, 0, [some 1, some 2, some 3, some 4, some 14, some 15, some 17, some 22, none, none, none, none, none, none, none])) b h
def Z3fx (b : Nat) : ZT := Z3f b ++ [(1, 0, [none, none, none, none, none, none, none, none, none, none, none, none, none, none, none])]
theorem zn3 {b : Nat} (h : b < 8) : (Z3fx b).length = (54 + 10 * b) + 1 := (by decide +kernel : ∀ b, b < 8 → (Z3fx b).length = (54 + 10 * b) + 1) b h
theorem zx3 {b : Nat} (h : b < 8) : (Z3fx b)[(54 + 10 * b)]? = some (1, 0, [none, none, none, none, none, none, none, none, none, none, none, none, none, none, none]) := (by decide +kernel : ∀ b, b < 8 → (Z3fx b)[(54 + 10 * b)]? = some (1, 0, [none, none, none, none, none, none, none, none, none, none, none, none, none, none, none])) b h
def Z3fy (b : Nat) : ZT := Z3f b ++ lawC (54 + 10 * b)
theorem zy3 {b : Nat} (h : b < 8) : (Z3fy b).length = 54 + 10 * b + 10 := (by decide +kernel : ∀ b, b < 8 → (Z3fy b).length = 54 + 10 * b + 10) b h
theorem zyx3 {b : Nat} (h : b < 8) : (Z3fy b)[54 + 10 * b]? = some (1, 0, [none, none, none, none, none, some (54 + 10 * b + 1), some (54 + 10 * b + 2), some (54 + 10 * b + 3), some (54 + 10 * b + 4), none, some (54 + 10 * b + 5), some (54 + 10 * b + 6), some (54 + 10 * b + 7), some (54 + 10 * b + 8), some (54 + 10 * b + 9)]) := (by decide +kernel : ∀ b, b < 8 → (Z3fy b)[54 + 10 * b]? = some (1, 0, [none, none, none, none, none, some (54 + 10 * b + 1), some (54 + 10 * b + 2), some (54 + 10 * b + 3), some (54 + 10 * b + 4), none, some (54 + 10 * b + 5), some (54 + 10 * b + 6), some (54 + 10 * b + 7), some (54 + 10 * b + 8), some (54 + 10 * b + 9)])) b h
theorem za3 {b : Nat} (h : b < 8) : (Z3fy b)[3]? = some (14, 8, rL b) := (by decide +kernel : ∀ b, b < 8 → (Z3fy b)[3]? = some (14, 8, rL b)) b h
theorem zs3 {b : Nat} (h : b < 8) : (Z3fy b).set 3 (14, 8, (rL b).set b (some (54 + 10 * b))) = Z3f (b + 1) := (by decide +kernel : ∀ b, b < 8 → (Z3fy b).set 3 (14, 8, (rL b).set b (some (54 + 10 * b))) = Z3f (b + 1)) b h
theorem rl3 {b : Nat} (h : b < 8) : b < (rL b).length := (by decide +kernel : ∀ b, b < 8 → b < (rL b).length) b h
/-- as FrB, with the first nb BAYS made -/
def FrP (nb : Nat) (M : MT) : Prop := M 0 8 = 0 ∧ M 0 9 = 0 ∧ M 0 10 = 0 ∧ M 0 11 = 0 ∧ M 0 12 = 0 ∧ M 0 13 = 0 ∧ M 0 14 = (-1) ∧ M 4 0 = (-1) ∧ M 4 2 = 550 ∧ M 4 3 = 0 ∧ M 4 4 = 0 ∧ M 14 0 = 0 ∧ M 14 1 = 0 ∧ M 14 2 = 0 ∧ M 14 3 = 0 ∧ M 14 4 = 0 ∧ M 15 1 = 0 ∧ ∀ b, b < nb → M (28 + b) 0 = 1000 ∧ M (28 + b) 1 = 0 ∧ M (28 + b) 2 = 0 ∧ M (28 + b) 3 = 0 ∧ M (28 + b) 4 = 0 ∧ M (28 + b) 5 = (-1) ∧ M (28 + b) 6 = 0
theorem frP_congr {nb : Nat} {M M' : MT} (h : FrP nb M) (e : ∀ j, j < 28 + nb → M' j = M j) : FrP nb M' := by
  obtain ⟨h0, h1, h2, h3, h4, h5, h6, h7, h8, h9, h10, h11, h12, h13, h14, h15, h16, hz⟩ := h
  refine ⟨by rw [e 0 (by omega)]; exact h0, by rw [e 0 (by omega)]; exact h1, by rw [e 0 (by omega)]; exact h2, by rw [e 0 (by omega)]; exact h3, by rw [e 0 (by omega)]; exact h4, by rw [e 0 (by omega)]; exact h5, by rw [e 0 (by omega)]; exact h6, by rw [e 4 (by omega)]; exact h7, by rw [e 4 (by omega)]; exact h8, by rw [e 4 (by omega)]; exact h9, by rw [e 4 (by omega)]; exact h10, by rw [e 14 (by omega)]; exact h11, by rw [e 14 (by omega)]; exact h12, by rw [e 14 (by omega)]; exact h13, by rw [e 14 (by omega)]; exact h14, by rw [e 14 (by omega)]; exact h15, by rw [e 15 (by omega)]; exact h16, fun c hc => ?_⟩
  have := hz c hc
  rw [e (28 + c) (by omega)]
  exact this
theorem frP_step {b : Nat} {M M1 : MT} (h : FrP b M) (hb : M1 (28 + b) 0 = 1000 ∧ M1 (28 + b) 1 = 0 ∧ M1 (28 + b) 2 = 0 ∧ M1 (28 + b) 3 = 0 ∧ M1 (28 + b) 4 = 0 ∧ M1 (28 + b) 5 = (-1) ∧ M1 (28 + b) 6 = 0) (e : ∀ j, ¬ j = 28 + b → M1 j = va_up M (28 + b) (fun _ => 0) j) : FrP (b + 1) M1 := by
  have e2 : ∀ j, j < 28 + b → M1 j = M j := fun j hj => by rw [e j (by omega)]; simp only [va_up]; rw [if_neg (by omega)]
  obtain ⟨h0, h1, h2, h3, h4, h5, h6, h7, h8, h9, h10, h11, h12, h13, h14, h15, h16, hz⟩ := frP_congr h e2
  refine ⟨h0, h1, h2, h3, h4, h5, h6, h7, h8, h9, h10, h11, h12, h13, h14, h15, h16, fun c hc => ?_⟩
  by_cases hcb : c = b
  · subst hcb
    exact hb
  · exact hz c (by omega)
/-- the rows of Laying that the first search reads -/
def FrL (M : MT) : Prop := M 25 = (fun _ => 0) ∧ M 27 = (fun _ => 0)
theorem frL_congr {M M' : MT} (h : FrL M) (e : ∀ j, j < 28 → M' j = M j) : FrL M' := ⟨(e 25 (by decide)).trans h.1, (e 27 (by decide)).trans h.2⟩
/-- a law's rows as they are made -/
def LwZ (M : MT) (i : Nat) : Prop := M i 4 = 0 ∧ M i 9 = 0 ∧ M (i + 5) = (fun _ => 0)
/-- the tokens' count, the laws' rows: the first nl are made -/
def FrQ (nl : Nat) (M : MT) : Prop := (M 18 1 = 0 ∧ LwZ M 4) ∧ ∀ b, b < nl → LwZ M (54 + 10 * b)
theorem frQ_congr0 {M M' : MT} (h : FrQ 0 M) (e : ∀ j, j < 28 → M' j = M j) : FrQ 0 M' := by
  obtain ⟨⟨h1, h2, h3, h4⟩, -⟩ := h
  exact ⟨⟨by rw [e 18 (by decide)]; exact h1, by rw [e 4 (by decide)]; exact h2, by rw [e 4 (by decide)]; exact h3, by rw [e (4 + 5) (by decide)]; exact h4⟩, fun b hb => absurd hb (Nat.not_lt_zero b)⟩
theorem frQ_step {b : Nat} {M M1 : MT} (h : FrQ b M) (hb : LwZ M1 (54 + 10 * b)) (e : ∀ j, j < 54 + 10 * b → M1 j = M j) : FrQ (b + 1) M1 := by
  obtain ⟨⟨h1, h2, h3, h4⟩, h5⟩ := h
  refine ⟨⟨by rw [e 18 (by omega)]; exact h1, by rw [e 4 (by omega)]; exact h2, by rw [e 4 (by omega)]; exact h3, by rw [e (4 + 5) (by omega)]; exact h4⟩, fun c hc => ?_⟩
  by_cases hcb : c = b
  · subst hcb
    exact hb
  · obtain ⟨g1, g2, g3⟩ := h5 c (by omega)
    exact ⟨by rw [e (54 + 10 * c) (by omega)]; exact g1, by rw [e (54 + 10 * c) (by omega)]; exact g2, by rw [e (54 + 10 * c + 5) (by omega)]; exact g3⟩
theorem lp_lt {x : Int32} {b m n : Nat} (hx : x.toInt = b) (hb : b + (m + 1) = n) (hn : n ≤ 100) : b < n ∧ vp_in x n ∧ x.toNatClampNeg = b ∧ (x + 1).toInt = ((b + 1 : Nat) : Int) := by
  have e1 : (1 : Int32).toInt = 1 := by decide
  have a := i32_add (x := x) (by omega) (by omega) (k := 1) (by decide) (by decide)
  refine ⟨by omega, ?_, ?_, by omega⟩
  · rw [vp_in_iff]; omega
  · show x.toInt.toNat = b
    omega
theorem lp_ge {x y : Int32} {b n : Nat} (hx : x.toInt = b) (hy : y.toInt = n) (hb : b = n) : y ≤ x := by rw [Int32.le_iff_toInt_le]; omega
theorem lp_nge {x y : Int32} {b m n : Nat} (hx : x.toInt = b) (hy : y.toInt = n) (hb : b + (m + 1) = n) : ¬ y ≤ x := by rw [Int32.le_iff_toInt_le]; omega
set_option maxHeartbeats 4000000 in
set_option maxRecDepth 100000 in
theorem n_X8_init (l : Launch) (D : va_G) (cy : Nat → ClassId) (X : va_W) (ad : Nat → Nat) (M : MT) : CtN l yX8_init cX8_init 2 { frames := 3, cells := 133, slots := 4598, locals := 72 } D cy X ad [(8, 0, List.replicate 15 none)] M [.ref (ad 0)] ZB (fun M1 => FrB M1 ∧ FrL M1 ∧ FrQ 8 M1) := by
  refine Ctr.of (by decide +kernel) (Nat.le_of_ble_eq_true rfl) ?_
  intro K f q hnm hl0 hD0 hy0 hX0
  have loop3 : ∀ (m b : Nat) (x : Int32) (a1 : Nat → Nat) (M1 : MT), b + m = 8 → x.toInt = b → FrP 16 M1 ∧ FrL M1 ∧ FrQ b M1 → a1 0 = ad 0 → V K a1 (53 + 10 * b) (2558 + 255 * b) (Z3f b) M1 181 [(1, .int x), (0, .ref (a1 0))] [] := by
    intro m
    induction m with
    | zero =>
      intro b x a1 M1 hb hx hF h0
      obtain rfl : b = 8 := by omega
      refine V_iload_n f dX8_init_181 0 rfl ?_
      refine V_bipush (v := 8) f dX8_init_182 (by decide) ?_
      refine V_icmp_ge (tgt := 206) f dX8_init_184 (by decide) (fun _ => ?_) (fun h => absurd (lp_ge hx (y := 8) (n := 8) (by decide) rfl) h)
      rw [Z3_end]
      exact V_vret f q dX8_init_206 (by decide) (by decide) ⟨rfl, fun i hi => (by have h9 : i = 0 := Nat.lt_one_iff.mp hi; rw [h9]; exact h0), rfl, hF⟩
    | succ m ih =>
      intro b x a1 M1 hb hx hF h0
      obtain ⟨hbl, hin, hnat, hx1⟩ := lp_lt hx hb (by decide)
      refine V_iload_n f dX8_init_181 0 rfl ?_
      refine V_bipush (v := 8) f dX8_init_182 (by decide) ?_
      refine V_icmp_ge (tgt := 206) f dX8_init_184 (by decide) (fun h => absurd h (lp_nge hx (y := 8) (by decide) hb)) (fun _ => ?_)
      refine V_aload_n f dX8_init_187 1 rfl ?_
      refine V_getR f dX8_init_188 lf_8_23 rfl (z03 hbl) rfl ?_
      refine V_iload_n f dX8_init_191 0 rfl ?_
      refine V_newF (ci := 1) (n := (54 + 10 * b)) (Z1 := Z3fx b) (lvF := fun ad => [(1, .int x), (0, .ref (ad 0))]) (stF := fun ad => [.int x, .ref (ad 3)]) f dX8_init_192 (by decide) rfl inG1 tyX1 tyX1_ok ck_X8_21 ist1 ini1 (by decide) (by show _ ≤ 133; omega) (by show _ ≤ 4598; omega) (zl3 hbl) rfl (fun a h => ⟨by simp only [h 0 (by omega)], by simp only [h 3 (by omega)]⟩) (fun a2 g2 => ?_)
      refine V_dup f dX8_init_195 rfl ?_
      refine V_cIN (AsF := fun _ => []) (i := (54 + 10 * b)) (n := (54 + 10 * b) + 1) (Z1 := Z3fy b) (lvF := fun ad => [(1, .int x), (0, .ref (ad 0))]) (stF := fun ad => [.ref (ad (54 + 10 * b)), .int x, .ref (ad 3)]) f dX8_init_196 lk_X8_27 nl_X8_27 ins_X1_init rfl (n_X1_init (kl K) (kD K) (ky K) (kX K) a2 (Z3f b) _ (54 + 10 * b) (zl3 hbl)) rfl rfl (Nat.le_of_ble_eq_true rfl) ⟨by decide, by decide⟩ ⟨by show 53 + 10 * b + 1 + 9 ≤ 133; omega, by show 2558 + 255 * b + 15 + 240 ≤ 4598; omega⟩ (zn3 hbl) (fun a h => ⟨by simp only [h 0 (by omega)], by simp only [h 3 (by omega), h (54 + 10 * b) (by omega)]⟩) (fun a3 M3 g3 hR => ?_)
      refine V_aastp (t0 := 4) (Z1 := Z3f (b + 1)) f dX8_init_199 (za3 hbl) (by decide) rfl (zyx3 hbl) (by decide) rfl hin (by rw [hnat]; exact rl3 hbl) (by rw [hnat]; exact zs3 hbl) ?_
      refine V_iinc (v := x + 1) f dX8_init_200 0 rfl rfl (by decide) rfl ?_
      refine V_goto (tgt := 181) f dX8_init_203 (by decide) ?_
      refine V.widen (k := 53 + 10 * (b + 1)) (n := 2558 + 255 * (b + 1)) (by show 53 + 10 * b + 1 + 9 ≤ _; omega) (by show 2558 + 255 * b + 15 + 240 ≤ _; omega) ?_
      exact ih (b + 1) (x + 1) a3 M3 (by omega) hx1 ⟨frP_congr hF.1 (fun j hj => by rw [hR.2 j (by omega)]; simp only [va_up]; rw [if_neg (by omega)]), (frL_congr hF.2.1 (fun j hj => by rw [hR.2 j (by omega)]; simp only [va_up]; rw [if_neg (by omega)])), frQ_step hF.2.2 ⟨hR.1.1.2.2.2, hR.1.2⟩ (fun j hj => by rw [hR.2 j (by omega)]; simp only [va_up]; rw [if_neg (by omega)])⟩ (((g3 0 (by omega)).trans (g2 0 (by omega))).trans h0)
  have loop2 : ∀ (m b : Nat) (x : Int32) (a1 : Nat → Nat) (M1 : MT), b + m = 10 → x.toInt = b → FrP 16 M1 ∧ FrL M1 ∧ FrQ 0 M1 → a1 0 = ad 0 → V K a1 (43 + 1 * b) (2468 + 9 * b) (Z2f b) M1 154 [(1, .int x), (0, .ref (a1 0))] [] := by
    intro m
    induction m with
    | zero =>
      intro b x a1 M1 hb hx hF h0
      obtain rfl : b = 10 := by omega
      refine V_iload_n f dX8_init_154 0 rfl ?_
      refine V_bipush (v := 10) f dX8_init_155 (by decide) ?_
      refine V_icmp_ge (tgt := 179) f dX8_init_157 (by decide) (fun _ => ?_) (fun h => absurd (lp_ge hx (y := 10) (n := 10) (by decide) rfl) h)
      rw [Z23]
      refine V_iconst (v := 0) f dX8_init_179 (by decide) ?_
      refine V_istore_n f dX8_init_180 rfl (by decide) rfl ?_
      exact loop3 8 0 0 a1 M1 rfl (by decide) hF h0
    | succ m ih =>
      intro b x a1 M1 hb hx hF h0
      obtain ⟨hbl, hin, hnat, hx1⟩ := lp_lt hx hb (by decide)
      refine V_iload_n f dX8_init_154 0 rfl ?_
      refine V_bipush (v := 10) f dX8_init_155 (by decide) ?_
      refine V_icmp_ge (tgt := 179) f dX8_init_157 (by decide) (fun h => absurd h (lp_nge hx (y := 10) (by decide) hb)) (fun _ => ?_)
      refine V_aload_n f dX8_init_160 1 rfl ?_
      refine V_getR f dX8_init_161 lf_8_17 rfl (z02 hbl) rfl ?_
      refine V_iload_n f dX8_init_164 0 rfl ?_
      refine V_newF (ci := 5) (n := (44 + b)) (Z1 := Z2fx b) (lvF := fun ad => [(1, .int x), (0, .ref (ad 0))]) (stF := fun ad => [.int x, .ref (ad 2)]) f dX8_init_165 (by decide) rfl inG5 tyX5 tyX5_ok ck_X8_15 ist5 ini5 (by decide) (by show _ ≤ 133; omega) (by show _ ≤ 4598; omega) (zl2 hbl) rfl (fun a h => ⟨by simp only [h 0 (by omega)], by simp only [h 2 (by omega)]⟩) (fun a2 g2 => ?_)
      refine V_dup f dX8_init_168 rfl ?_
      refine V_cIN (AsF := fun _ => []) (i := (44 + b)) (n := (44 + b) + 1) (Z1 := Z2fx b) (lvF := fun ad => [(1, .int x), (0, .ref (ad 0))]) (stF := fun ad => [.ref (ad (44 + b)), .int x, .ref (ad 2)]) f dX8_init_169 lk_X8_85 nl_X8_85 ins_X5_init rfl (n_X5_init (kl K) (kD K) (ky K) (kX K) a2 (Z2fx b) _ (44 + b) (zx2 hbl)) rfl rfl (Nat.le_of_ble_eq_true rfl) ⟨by decide, by decide⟩ ⟨by show 43 + 1 * b + 1 + 0 ≤ 133; omega, by show 2468 + 9 * b + 9 + 0 ≤ 4598; omega⟩ (zn2 hbl) (fun a h => ⟨by simp only [h 0 (by omega)], by simp only [h 2 (by omega), h (44 + b) (by omega)]⟩) (fun a3 M3 g3 hR => ?_)
      refine V_aastp (t0 := 5) (Z1 := Z2f (b + 1)) f dX8_init_172 (za2 hbl) (by decide) rfl (zx2 hbl) (by decide) rfl hin (by rw [hnat]; exact rl2 hbl) (by rw [hnat]; exact zs2 hbl) ?_
      refine V_iinc (v := x + 1) f dX8_init_173 0 rfl rfl (by decide) rfl ?_
      refine V_goto (tgt := 154) f dX8_init_176 (by decide) ?_
      refine V.widen (k := 43 + 1 * (b + 1)) (n := 2468 + 9 * (b + 1)) (by show 43 + 1 * b + 1 + 0 ≤ _; omega) (by show 2468 + 9 * b + 9 + 0 ≤ _; omega) ?_
      exact ih (b + 1) (x + 1) a3 M3 (by omega) hx1 ⟨frP_congr hF.1 (fun j hj => by rw [hR.2 j (by omega)]; simp only [va_up]; rw [if_neg (by omega)]), (frL_congr hF.2.1 (fun j hj => by rw [hR.2 j (by omega)]; simp only [va_up]; rw [if_neg (by omega)])), frQ_congr0 hF.2.2 (fun j hj => by rw [hR.2 j (by omega)]; simp only [va_up]; rw [if_neg (by omega)])⟩ (((g3 0 (by omega)).trans (g2 0 (by omega))).trans h0)
  have loop1 : ∀ (m b : Nat) (x : Int32) (a1 : Nat → Nat) (M1 : MT), b + m = 16 → x.toInt = b → FrP b M1 ∧ FrL M1 ∧ FrQ 0 M1 → a1 0 = ad 0 → V K a1 (27 + 1 * b) (2356 + 7 * b) (Z1f b) M1 127 [(1, .int x), (0, .ref (a1 0))] [] := by
    intro m
    induction m with
    | zero =>
      intro b x a1 M1 hb hx hF h0
      obtain rfl : b = 16 := by omega
      refine V_iload_n f dX8_init_127 0 rfl ?_
      refine V_bipush (v := 16) f dX8_init_128 (by decide) ?_
      refine V_icmp_ge (tgt := 152) f dX8_init_130 (by decide) (fun _ => ?_) (fun h => absurd (lp_ge hx (y := 16) (n := 16) (by decide) rfl) h)
      rw [Z12]
      refine V_iconst (v := 0) f dX8_init_152 (by decide) ?_
      refine V_istore_n f dX8_init_153 rfl (by decide) rfl ?_
      exact loop2 10 0 0 a1 M1 rfl (by decide) hF h0
    | succ m ih =>
      intro b x a1 M1 hb hx hF h0
      obtain ⟨hbl, hin, hnat, hx1⟩ := lp_lt hx hb (by decide)
      refine V_iload_n f dX8_init_127 0 rfl ?_
      refine V_bipush (v := 16) f dX8_init_128 (by decide) ?_
      refine V_icmp_ge (tgt := 152) f dX8_init_130 (by decide) (fun h => absurd h (lp_nge hx (y := 16) (by decide) hb)) (fun _ => ?_)
      refine V_aload_n f dX8_init_133 1 rfl ?_
      refine V_getR f dX8_init_134 lf_8_11 rfl (z01 hbl) rfl ?_
      refine V_iload_n f dX8_init_137 0 rfl ?_
      refine V_newF (ci := 0) (n := (28 + b)) (Z1 := Z1fx b) (lvF := fun ad => [(1, .int x), (0, .ref (ad 0))]) (stF := fun ad => [.int x, .ref (ad 1)]) f dX8_init_138 (by decide) rfl inG0 tyX0 tyX0_ok ck_X8_9 ist0 ini0 (by decide) (by show _ ≤ 133; omega) (by show _ ≤ 4598; omega) (zl1 hbl) rfl (fun a h => ⟨by simp only [h 0 (by omega)], by simp only [h 1 (by omega)]⟩) (fun a2 g2 => ?_)
      refine V_dup f dX8_init_141 rfl ?_
      refine V_cIN (AsF := fun _ => []) (i := (28 + b)) (n := (28 + b) + 1) (Z1 := Z1fx b) (lvF := fun ad => [(1, .int x), (0, .ref (ad 0))]) (stF := fun ad => [.ref (ad (28 + b)), .int x, .ref (ad 1)]) f dX8_init_142 lk_X8_84 nl_X8_84 ins_X0_init rfl (n_X0_init (kl K) (kD K) (ky K) (kX K) a2 (Z1fx b) _ (28 + b) (zx1 hbl)) rfl rfl (Nat.le_of_ble_eq_true rfl) ⟨by decide, by decide⟩ ⟨by show 27 + 1 * b + 1 + 0 ≤ 133; omega, by show 2356 + 7 * b + 7 + 0 ≤ 4598; omega⟩ (zn1 hbl) (fun a h => ⟨by simp only [h 0 (by omega)], by simp only [h 1 (by omega), h (28 + b) (by omega)]⟩) (fun a3 M3 g3 hR => ?_)
      refine V_aastp (t0 := 3) (Z1 := Z1f (b + 1)) f dX8_init_145 (za1 hbl) (by decide) rfl (zx1 hbl) (by decide) rfl hin (by rw [hnat]; exact rl1 hbl) (by rw [hnat]; exact zs1 hbl) ?_
      refine V_iinc (v := x + 1) f dX8_init_146 0 rfl rfl (by decide) rfl ?_
      refine V_goto (tgt := 127) f dX8_init_149 (by decide) ?_
      refine V.widen (k := 27 + 1 * (b + 1)) (n := 2356 + 7 * (b + 1)) (by show 27 + 1 * b + 1 + 0 ≤ _; omega) (by show 2356 + 7 * b + 7 + 0 ≤ _; omega) ?_
      exact ih (b + 1) (x + 1) a3 M3 (by omega) hx1 ⟨frP_step hF.1 hR.1 hR.2, (frL_congr hF.2.1 (fun j hj => by rw [hR.2 j (by omega)]; simp only [va_up]; rw [if_neg (by omega)])), frQ_congr0 hF.2.2 (fun j hj => by rw [hR.2 j (by omega)]; simp only [va_up]; rw [if_neg (by omega)])⟩ (((g3 0 (by omega)).trans (g2 0 (by omega))).trans h0)
  show V K ad 0 0 [(8, 0, [none, none, none, none, none, none, none, none, none, none, none, none, none, none, none])] M 0 [(0, .ref (ad 0))] []
  refine V_aload_n f dX8_init_0 0 rfl ?_
  refine V_objInit f dX8_init_1 ml_X8_1 oi_ins oi_code (by decide) (Nat.le_of_ble_eq_true rfl) ?_
  refine V_aload_n f dX8_init_4 0 rfl ?_
  refine V_bipush (v := 16) f dX8_init_5 (by decide) ?_
  refine V_newqF (t0 := 3) (ci := 13) (N := 16) (n := 1) (Z1 := [(8, 0, [none, none, none, none, none, none, none, none, none, none, none, none, none, none, none]), (13, 16, [none, none, none, none, none, none, none, none, none, none, none, none, none, none, none, none])]) (lvF := fun ad => [(0, .ref (ad 0))]) (stF := fun ad => [.ref (ad 0)]) f dX8_init_7 ck_X8_9 (by decide) (by decide) (fun _ => rfl) (by decide) (by decide) (by decide) (by decide) (by decide) rfl rfl (fun a h => ⟨by simp only [h 0 (by decide)], by simp only [h 0 (by decide)]⟩) (fun ad1 ag1 => ?_)
  refine V_putFp (Z1 := [(8, 0, [some 1, none, none, none, none, none, none, none, none, none, none, none, none, none, none]), (13, 16, [none, none, none, none, none, none, none, none, none, none, none, none, none, none, none, none])]) (n := 2) f dX8_init_10 lf_8_11 lp_8_0 rfl hnm rfl rfl rfl rfl rfl (by decide) rfl (Nat.le_of_ble_eq_true rfl) rfl ?_
  refine V_aload_n f dX8_init_13 0 rfl ?_
  refine V_bipush (v := 10) f dX8_init_14 (by decide) ?_
  refine V_newqF (t0 := 5) (ci := 15) (N := 10) (n := 2) (Z1 := [(8, 0, [some 1, none, none, none, none, none, none, none, none, none, none, none, none, none, none]), (13, 16, [none, none, none, none, none, none, none, none, none, none, none, none, none, none, none, none]), (15, 10, [none, none, none, none, none, none, none, none, none, none])]) (lvF := fun ad => [(0, .ref (ad 0))]) (stF := fun ad => [.ref (ad 0)]) f dX8_init_16 ck_X8_15 (by decide) (by decide) (fun _ => rfl) (by decide) (by decide) (by decide) (by decide) (by decide) rfl rfl (fun a h => ⟨by simp only [h 0 (by decide)], by simp only [h 0 (by decide)]⟩) (fun ad2 ag2 => ?_)
  refine V_putFp (Z1 := [(8, 0, [some 1, some 2, none, none, none, none, none, none, none, none, none, none, none, none, none]), (13, 16, [none, none, none, none, none, none, none, none, none, none, none, none, none, none, none, none]), (15, 10, [none, none, none, none, none, none, none, none, none, none])]) (n := 3) f dX8_init_19 lf_8_17 lp_8_1 rfl hnm rfl rfl rfl rfl rfl (by decide) rfl (Nat.le_of_ble_eq_true rfl) rfl ?_
  refine V_aload_n f dX8_init_22 0 rfl ?_
  refine V_bipush (v := 8) f dX8_init_23 (by decide) ?_
  refine V_newqF (t0 := 4) (ci := 14) (N := 8) (n := 3) (Z1 := [(8, 0, [some 1, some 2, none, none, none, none, none, none, none, none, none, none, none, none, none]), (13, 16, [none, none, none, none, none, none, none, none, none, none, none, none, none, none, none, none]), (15, 10, [none, none, none, none, none, none, none, none, none, none]), (14, 8, [none, none, none, none, none, none, none, none])]) (lvF := fun ad => [(0, .ref (ad 0))]) (stF := fun ad => [.ref (ad 0)]) f dX8_init_25 ck_X8_21 (by decide) (by decide) (fun _ => rfl) (by decide) (by decide) (by decide) (by decide) (by decide) rfl rfl (fun a h => ⟨by simp only [h 0 (by decide)], by simp only [h 0 (by decide)]⟩) (fun ad3 ag3 => ?_)
  refine V_putFp (Z1 := [(8, 0, [some 1, some 2, some 3, none, none, none, none, none, none, none, none, none, none, none, none]), (13, 16, [none, none, none, none, none, none, none, none, none, none, none, none, none, none, none, none]), (15, 10, [none, none, none, none, none, none, none, none, none, none]), (14, 8, [none, none, none, none, none, none, none, none])]) (n := 4) f dX8_init_28 lf_8_23 lp_8_2 rfl hnm rfl rfl rfl rfl rfl (by decide) rfl (Nat.le_of_ble_eq_true rfl) rfl ?_
  refine V_aload_n f dX8_init_31 0 rfl ?_
  refine V_newF (ci := 1) (n := 4) (Z1 := [(8, 0, [some 1, some 2, some 3, none, none, none, none, none, none, none, none, none, none, none, none]), (13, 16, [none, none, none, none, none, none, none, none, none, none, none, none, none, none, none, none]), (15, 10, [none, none, none, none, none, none, none, none, none, none]), (14, 8, [none, none, none, none, none, none, none, none]), (1, 0, [none, none, none, none, none, none, none, none, none, none, none, none, none, none, none])]) (lvF := fun ad => [(0, .ref (ad 0))]) (stF := fun ad => [.ref (ad 0)]) f dX8_init_32 (by decide) rfl inG1 tyX1 tyX1_ok ck_X8_21 ist1 ini1 (by decide) (by decide) (by decide) rfl rfl (fun a h => ⟨by simp only [h 0 (by decide)], by simp only [h 0 (by decide)]⟩) (fun ad4 ag4 => ?_)
  refine V_dup f dX8_init_35 rfl ?_
  refine V_cIN (AsF := fun ad => []) (i := 4) (n := 5) (Z1 := [(8, 0, [some 1, some 2, some 3, none, none, none, none, none, none, none, none, none, none, none, none]), (13, 16, [none, none, none, none, none, none, none, none, none, none, none, none, none, none, none, none]), (15, 10, [none, none, none, none, none, none, none, none, none, none]), (14, 8, [none, none, none, none, none, none, none, none]), (1, 0, [none, none, none, none, none, some 5, some 6, some 7, some 8, none, some 9, some 10, some 11, some 12, some 13]), (11, 16, []), (11, 16, []), (11, 16, []), (11, 16, []), (11, 16, []), (11, 16, []), (11, 48, []), (11, 48, []), (11, 48, [])]) (lvF := fun ad => [(0, .ref (ad 0))]) (stF := fun ad => [.ref (ad 4), .ref (ad 0)]) f dX8_init_36 lk_X8_27 nl_X8_27 ins_X1_init rfl (n_X1_init (kl K) (kD K) (ky K) (kX K) ad4 [(8, 0, [some 1, some 2, some 3, none, none, none, none, none, none, none, none, none, none, none, none]), (13, 16, [none, none, none, none, none, none, none, none, none, none, none, none, none, none, none, none]), (15, 10, [none, none, none, none, none, none, none, none, none, none]), (14, 8, [none, none, none, none, none, none, none, none])] (va_up (va_up (va_up (va_up M 1 (fun _ => 0)) 2 (fun _ => 0)) 3 (fun _ => 0)) 4 (fun _ => 0)) 4 rfl) rfl rfl (Nat.le_of_ble_eq_true rfl) ⟨by decide, by decide⟩ ⟨by decide, by decide⟩ rfl (fun a h => ⟨by simp only [h 0 (by decide)], by simp only [h 4 (by decide), h 0 (by decide)]⟩) (fun ad5 M5 ag5 hR5 => ?_)
  refine V_putFp (Z1 := [(8, 0, [some 1, some 2, some 3, some 4, none, none, none, none, none, none, none, none, none, none, none]), (13, 16, [none, none, none, none, none, none, none, none, none, none, none, none, none, none, none, none]), (15, 10, [none, none, none, none, none, none, none, none, none, none]), (14, 8, [none, none, none, none, none, none, none, none]), (1, 0, [none, none, none, none, none, some 5, some 6, some 7, some 8, none, some 9, some 10, some 11, some 12, some 13]), (11, 16, []), (11, 16, []), (11, 16, []), (11, 16, []), (11, 16, []), (11, 16, []), (11, 48, []), (11, 48, []), (11, 48, [])]) (n := 14) f dX8_init_39 lf_8_28 lp_8_3 rfl hnm rfl rfl rfl rfl rfl (by decide) rfl (Nat.le_of_ble_eq_true rfl) rfl ?_
  refine V_aload_n f dX8_init_42 0 rfl ?_
  refine V_newF (ci := 4) (n := 14) (Z1 := [(8, 0, [some 1, some 2, some 3, some 4, none, none, none, none, none, none, none, none, none, none, none]), (13, 16, [none, none, none, none, none, none, none, none, none, none, none, none, none, none, none, none]), (15, 10, [none, none, none, none, none, none, none, none, none, none]), (14, 8, [none, none, none, none, none, none, none, none]), (1, 0, [none, none, none, none, none, some 5, some 6, some 7, some 8, none, some 9, some 10, some 11, some 12, some 13]), (11, 16, []), (11, 16, []), (11, 16, []), (11, 16, []), (11, 16, []), (11, 16, []), (11, 48, []), (11, 48, []), (11, 48, []), (4, 0, [none, none, none, none, none])]) (lvF := fun ad => [(0, .ref (ad 0))]) (stF := fun ad => [.ref (ad 0)]) f dX8_init_43 (by decide) rfl inG4 tyX4 tyX4_ok ck_X8_32 ist4 ini4 (by decide) (by decide) (by decide) rfl rfl (fun a h => ⟨by simp only [h 0 (by decide)], by simp only [h 0 (by decide)]⟩) (fun ad6 ag6 => ?_)
  refine V_dup f dX8_init_46 rfl ?_
  refine V_cIN (AsF := fun ad => []) (i := 14) (n := 15) (Z1 := [(8, 0, [some 1, some 2, some 3, some 4, none, none, none, none, none, none, none, none, none, none, none]), (13, 16, [none, none, none, none, none, none, none, none, none, none, none, none, none, none, none, none]), (15, 10, [none, none, none, none, none, none, none, none, none, none]), (14, 8, [none, none, none, none, none, none, none, none]), (1, 0, [none, none, none, none, none, some 5, some 6, some 7, some 8, none, some 9, some 10, some 11, some 12, some 13]), (11, 16, []), (11, 16, []), (11, 16, []), (11, 16, []), (11, 16, []), (11, 16, []), (11, 48, []), (11, 48, []), (11, 48, []), (4, 0, [none, none, none, none, none])]) (lvF := fun ad => [(0, .ref (ad 0))]) (stF := fun ad => [.ref (ad 14), .ref (ad 0)]) f dX8_init_47 lk_X8_34 nl_X8_34 ins_X4_init rfl (n_X4_init (kl K) (kD K) (ky K) (kX K) ad6 [(8, 0, [some 1, some 2, some 3, some 4, none, none, none, none, none, none, none, none, none, none, none]), (13, 16, [none, none, none, none, none, none, none, none, none, none, none, none, none, none, none, none]), (15, 10, [none, none, none, none, none, none, none, none, none, none]), (14, 8, [none, none, none, none, none, none, none, none]), (1, 0, [none, none, none, none, none, some 5, some 6, some 7, some 8, none, some 9, some 10, some 11, some 12, some 13]), (11, 16, []), (11, 16, []), (11, 16, []), (11, 16, []), (11, 16, []), (11, 16, []), (11, 48, []), (11, 48, []), (11, 48, []), (4, 0, [none, none, none, none, none])] (va_up M5 14 (fun _ => 0)) 14 rfl) rfl rfl (Nat.le_of_ble_eq_true rfl) ⟨by decide, by decide⟩ ⟨by decide, by decide⟩ rfl (fun a h => ⟨by simp only [h 0 (by decide)], by simp only [h 14 (by decide), h 0 (by decide)]⟩) (fun ad7 M7 ag7 hR7 => ?_)
  refine V_putFp (Z1 := [(8, 0, [some 1, some 2, some 3, some 4, some 14, none, none, none, none, none, none, none, none, none, none]), (13, 16, [none, none, none, none, none, none, none, none, none, none, none, none, none, none, none, none]), (15, 10, [none, none, none, none, none, none, none, none, none, none]), (14, 8, [none, none, none, none, none, none, none, none]), (1, 0, [none, none, none, none, none, some 5, some 6, some 7, some 8, none, some 9, some 10, some 11, some 12, some 13]), (11, 16, []), (11, 16, []), (11, 16, []), (11, 16, []), (11, 16, []), (11, 16, []), (11, 48, []), (11, 48, []), (11, 48, []), (4, 0, [none, none, none, none, none])]) (n := 15) f dX8_init_50 lf_8_35 lp_8_4 rfl hnm rfl rfl rfl rfl rfl (by decide) rfl (Nat.le_of_ble_eq_true rfl) rfl ?_
  refine V_aload_n f dX8_init_53 0 rfl ?_
  refine V_newF (ci := 6) (n := 15) (Z1 := [(8, 0, [some 1, some 2, some 3, some 4, some 14, none, none, none, none, none, none, none, none, none, none]), (13, 16, [none, none, none, none, none, none, none, none, none, none, none, none, none, none, none, none]), (15, 10, [none, none, none, none, none, none, none, none, none, none]), (14, 8, [none, none, none, none, none, none, none, none]), (1, 0, [none, none, none, none, none, some 5, some 6, some 7, some 8, none, some 9, some 10, some 11, some 12, some 13]), (11, 16, []), (11, 16, []), (11, 16, []), (11, 16, []), (11, 16, []), (11, 16, []), (11, 48, []), (11, 48, []), (11, 48, []), (4, 0, [none, none, none, none, none]), (6, 0, [none, none])]) (lvF := fun ad => [(0, .ref (ad 0))]) (stF := fun ad => [.ref (ad 0)]) f dX8_init_54 (by decide) rfl inG6 tyX6 tyX6_ok ck_X8_39 ist6 ini6 (by decide) (by decide) (by decide) rfl rfl (fun a h => ⟨by simp only [h 0 (by decide)], by simp only [h 0 (by decide)]⟩) (fun ad8 ag8 => ?_)
  refine V_dup f dX8_init_57 rfl ?_
  refine V_cIN (AsF := fun ad => []) (i := 15) (n := 16) (Z1 := [(8, 0, [some 1, some 2, some 3, some 4, some 14, none, none, none, none, none, none, none, none, none, none]), (13, 16, [none, none, none, none, none, none, none, none, none, none, none, none, none, none, none, none]), (15, 10, [none, none, none, none, none, none, none, none, none, none]), (14, 8, [none, none, none, none, none, none, none, none]), (1, 0, [none, none, none, none, none, some 5, some 6, some 7, some 8, none, some 9, some 10, some 11, some 12, some 13]), (11, 16, []), (11, 16, []), (11, 16, []), (11, 16, []), (11, 16, []), (11, 16, []), (11, 48, []), (11, 48, []), (11, 48, []), (4, 0, [none, none, none, none, none]), (6, 0, [some 16, none]), (10, 500, [])]) (lvF := fun ad => [(0, .ref (ad 0))]) (stF := fun ad => [.ref (ad 15), .ref (ad 0)]) f dX8_init_58 lk_X8_41 nl_X8_41 ins_X6_init rfl (n_X6_init (kl K) (kD K) (ky K) (kX K) ad8 [(8, 0, [some 1, some 2, some 3, some 4, some 14, none, none, none, none, none, none, none, none, none, none]), (13, 16, [none, none, none, none, none, none, none, none, none, none, none, none, none, none, none, none]), (15, 10, [none, none, none, none, none, none, none, none, none, none]), (14, 8, [none, none, none, none, none, none, none, none]), (1, 0, [none, none, none, none, none, some 5, some 6, some 7, some 8, none, some 9, some 10, some 11, some 12, some 13]), (11, 16, []), (11, 16, []), (11, 16, []), (11, 16, []), (11, 16, []), (11, 16, []), (11, 48, []), (11, 48, []), (11, 48, []), (4, 0, [none, none, none, none, none])] (va_up M7 15 (fun _ => 0)) 15 rfl) rfl rfl (Nat.le_of_ble_eq_true rfl) ⟨by decide, by decide⟩ ⟨by decide, by decide⟩ rfl (fun a h => ⟨by simp only [h 0 (by decide)], by simp only [h 15 (by decide), h 0 (by decide)]⟩) (fun ad9 M9 ag9 hR9 => ?_)
  refine V_putFp (Z1 := [(8, 0, [some 1, some 2, some 3, some 4, some 14, some 15, none, none, none, none, none, none, none, none, none]), (13, 16, [none, none, none, none, none, none, none, none, none, none, none, none, none, none, none, none]), (15, 10, [none, none, none, none, none, none, none, none, none, none]), (14, 8, [none, none, none, none, none, none, none, none]), (1, 0, [none, none, none, none, none, some 5, some 6, some 7, some 8, none, some 9, some 10, some 11, some 12, some 13]), (11, 16, []), (11, 16, []), (11, 16, []), (11, 16, []), (11, 16, []), (11, 16, []), (11, 48, []), (11, 48, []), (11, 48, []), (4, 0, [none, none, none, none, none]), (6, 0, [some 16, none]), (10, 500, [])]) (n := 17) f dX8_init_61 lf_8_42 lp_8_5 rfl hnm rfl rfl rfl rfl rfl (by decide) rfl (Nat.le_of_ble_eq_true rfl) rfl ?_
  refine V_aload_n f dX8_init_64 0 rfl ?_
  refine V_newF (ci := 2) (n := 17) (Z1 := [(8, 0, [some 1, some 2, some 3, some 4, some 14, some 15, none, none, none, none, none, none, none, none, none]), (13, 16, [none, none, none, none, none, none, none, none, none, none, none, none, none, none, none, none]), (15, 10, [none, none, none, none, none, none, none, none, none, none]), (14, 8, [none, none, none, none, none, none, none, none]), (1, 0, [none, none, none, none, none, some 5, some 6, some 7, some 8, none, some 9, some 10, some 11, some 12, some 13]), (11, 16, []), (11, 16, []), (11, 16, []), (11, 16, []), (11, 16, []), (11, 16, []), (11, 48, []), (11, 48, []), (11, 48, []), (4, 0, [none, none, none, none, none]), (6, 0, [some 16, none]), (10, 500, []), (2, 0, [none, none])]) (lvF := fun ad => [(0, .ref (ad 0))]) (stF := fun ad => [.ref (ad 0)]) f dX8_init_65 (by decide) rfl inG2 tyX2 tyX2_ok ck_X8_46 ist2 ini2 (by decide) (by decide) (by decide) rfl rfl (fun a h => ⟨by simp only [h 0 (by decide)], by simp only [h 0 (by decide)]⟩) (fun ad10 ag10 => ?_)
  refine V_dup f dX8_init_68 rfl ?_
  refine V_aload_n f dX8_init_69 0 rfl ?_
  refine V_getR f dX8_init_70 lf_8_42 rfl rfl rfl ?_
  refine V_cI (AsF := fun ad => [.ref (ad 15)]) (i := 17) (n := 18) (Z1 := [(8, 0, [some 1, some 2, some 3, some 4, some 14, some 15, none, none, none, none, none, none, none, none, none]), (13, 16, [none, none, none, none, none, none, none, none, none, none, none, none, none, none, none, none]), (15, 10, [none, none, none, none, none, none, none, none, none, none]), (14, 8, [none, none, none, none, none, none, none, none]), (1, 0, [none, none, none, none, none, some 5, some 6, some 7, some 8, none, some 9, some 10, some 11, some 12, some 13]), (11, 16, []), (11, 16, []), (11, 16, []), (11, 16, []), (11, 16, []), (11, 16, []), (11, 48, []), (11, 48, []), (11, 48, []), (4, 0, [none, none, none, none, none]), (6, 0, [some 16, none]), (10, 500, []), (2, 0, [some 18, none]), (7, 0, [some 15, none, some 19, some 20, some 21, none]), (11, 500, []), (11, 500, []), (11, 500, [])]) (lvF := fun ad => [(0, .ref (ad 0))]) (stF := fun ad => [.ref (ad 17), .ref (ad 0)]) f dX8_init_73 lk_X8_48 ml_X8_48 ins_X2_init rfl (n_X2_init (kl K) (kD K) (ky K) (kX K) ad10 [(8, 0, [some 1, some 2, some 3, some 4, some 14, some 15, none, none, none, none, none, none, none, none, none]), (13, 16, [none, none, none, none, none, none, none, none, none, none, none, none, none, none, none, none]), (15, 10, [none, none, none, none, none, none, none, none, none, none]), (14, 8, [none, none, none, none, none, none, none, none]), (1, 0, [none, none, none, none, none, some 5, some 6, some 7, some 8, none, some 9, some 10, some 11, some 12, some 13]), (11, 16, []), (11, 16, []), (11, 16, []), (11, 16, []), (11, 16, []), (11, 16, []), (11, 48, []), (11, 48, []), (11, 48, []), (4, 0, [none, none, none, none, none]), (6, 0, [some 16, none]), (10, 500, [])] (va_up M9 17 (fun _ => 0)) 17 15 rfl (by decide)) rfl rfl (Nat.le_of_ble_eq_true rfl) ⟨by decide, by decide⟩ ⟨by decide, by decide⟩ rfl (fun a h => ⟨by simp only [h 0 (by decide)], by simp only [h 17 (by decide), h 0 (by decide)]⟩) (fun ad11 M11 ag11 hR11 => ?_)
  refine V_putFp (Z1 := [(8, 0, [some 1, some 2, some 3, some 4, some 14, some 15, some 17, none, none, none, none, none, none, none, none]), (13, 16, [none, none, none, none, none, none, none, none, none, none, none, none, none, none, none, none]), (15, 10, [none, none, none, none, none, none, none, none, none, none]), (14, 8, [none, none, none, none, none, none, none, none]), (1, 0, [none, none, none, none, none, some 5, some 6, some 7, some 8, none, some 9, some 10, some 11, some 12, some 13]), (11, 16, []), (11, 16, []), (11, 16, []), (11, 16, []), (11, 16, []), (11, 16, []), (11, 48, []), (11, 48, []), (11, 48, []), (4, 0, [none, none, none, none, none]), (6, 0, [some 16, none]), (10, 500, []), (2, 0, [some 18, none]), (7, 0, [some 15, none, some 19, some 20, some 21, none]), (11, 500, []), (11, 500, []), (11, 500, [])]) (n := 22) f dX8_init_76 lf_8_51 lp_8_6 rfl hnm rfl rfl rfl rfl rfl (by decide) rfl (Nat.le_of_ble_eq_true rfl) rfl ?_
  refine V_aload_n f dX8_init_79 0 rfl ?_
  refine V_newF (ci := 3) (n := 22) (Z1 := [(8, 0, [some 1, some 2, some 3, some 4, some 14, some 15, some 17, none, none, none, none, none, none, none, none]), (13, 16, [none, none, none, none, none, none, none, none, none, none, none, none, none, none, none, none]), (15, 10, [none, none, none, none, none, none, none, none, none, none]), (14, 8, [none, none, none, none, none, none, none, none]), (1, 0, [none, none, none, none, none, some 5, some 6, some 7, some 8, none, some 9, some 10, some 11, some 12, some 13]), (11, 16, []), (11, 16, []), (11, 16, []), (11, 16, []), (11, 16, []), (11, 16, []), (11, 48, []), (11, 48, []), (11, 48, []), (4, 0, [none, none, none, none, none]), (6, 0, [some 16, none]), (10, 500, []), (2, 0, [some 18, none]), (7, 0, [some 15, none, some 19, some 20, some 21, none]), (11, 500, []), (11, 500, []), (11, 500, []), (3, 0, [none, none, none, none, none, none, none, none])]) (lvF := fun ad => [(0, .ref (ad 0))]) (stF := fun ad => [.ref (ad 0)]) f dX8_init_80 (by decide) rfl inG3 tyX3 tyX3_ok ck_X8_55 ist3 ini3 (by decide) (by decide) (by decide) rfl rfl (fun a h => ⟨by simp only [h 0 (by decide)], by simp only [h 0 (by decide)]⟩) (fun ad12 ag12 => ?_)
  refine V_dup f dX8_init_83 rfl ?_
  refine V_cIN (AsF := fun ad => []) (i := 22) (n := 23) (Z1 := [(8, 0, [some 1, some 2, some 3, some 4, some 14, some 15, some 17, none, none, none, none, none, none, none, none]), (13, 16, [none, none, none, none, none, none, none, none, none, none, none, none, none, none, none, none]), (15, 10, [none, none, none, none, none, none, none, none, none, none]), (14, 8, [none, none, none, none, none, none, none, none]), (1, 0, [none, none, none, none, none, some 5, some 6, some 7, some 8, none, some 9, some 10, some 11, some 12, some 13]), (11, 16, []), (11, 16, []), (11, 16, []), (11, 16, []), (11, 16, []), (11, 16, []), (11, 48, []), (11, 48, []), (11, 48, []), (4, 0, [none, none, none, none, none]), (6, 0, [some 16, none]), (10, 500, []), (2, 0, [some 18, none]), (7, 0, [some 15, none, some 19, some 20, some 21, none]), (11, 500, []), (11, 500, []), (11, 500, []), (3, 0, [some 23, some 24, some 25, some 26, some 27, none, none, none]), (11, 16, []), (11, 16, []), (11, 4, []), (11, 4, []), (11, 4, [])]) (lvF := fun ad => [(0, .ref (ad 0))]) (stF := fun ad => [.ref (ad 22), .ref (ad 0)]) f dX8_init_84 lk_X8_57 nl_X8_57 ins_X3_init rfl (n_X3_init (kl K) (kD K) (ky K) (kX K) ad12 [(8, 0, [some 1, some 2, some 3, some 4, some 14, some 15, some 17, none, none, none, none, none, none, none, none]), (13, 16, [none, none, none, none, none, none, none, none, none, none, none, none, none, none, none, none]), (15, 10, [none, none, none, none, none, none, none, none, none, none]), (14, 8, [none, none, none, none, none, none, none, none]), (1, 0, [none, none, none, none, none, some 5, some 6, some 7, some 8, none, some 9, some 10, some 11, some 12, some 13]), (11, 16, []), (11, 16, []), (11, 16, []), (11, 16, []), (11, 16, []), (11, 16, []), (11, 48, []), (11, 48, []), (11, 48, []), (4, 0, [none, none, none, none, none]), (6, 0, [some 16, none]), (10, 500, []), (2, 0, [some 18, none]), (7, 0, [some 15, none, some 19, some 20, some 21, none]), (11, 500, []), (11, 500, []), (11, 500, [])] (va_up M11 22 (fun _ => 0)) 22 rfl) rfl rfl (Nat.le_of_ble_eq_true rfl) ⟨by decide, by decide⟩ ⟨by decide, by decide⟩ rfl (fun a h => ⟨by simp only [h 0 (by decide)], by simp only [h 22 (by decide), h 0 (by decide)]⟩) (fun ad13 M13 ag13 hR13 => ?_)
  refine V_putFp (Z1 := [(8, 0, [some 1, some 2, some 3, some 4, some 14, some 15, some 17, some 22, none, none, none, none, none, none, none]), (13, 16, [none, none, none, none, none, none, none, none, none, none, none, none, none, none, none, none]), (15, 10, [none, none, none, none, none, none, none, none, none, none]), (14, 8, [none, none, none, none, none, none, none, none]), (1, 0, [none, none, none, none, none, some 5, some 6, some 7, some 8, none, some 9, some 10, some 11, some 12, some 13]), (11, 16, []), (11, 16, []), (11, 16, []), (11, 16, []), (11, 16, []), (11, 16, []), (11, 48, []), (11, 48, []), (11, 48, []), (4, 0, [none, none, none, none, none]), (6, 0, [some 16, none]), (10, 500, []), (2, 0, [some 18, none]), (7, 0, [some 15, none, some 19, some 20, some 21, none]), (11, 500, []), (11, 500, []), (11, 500, []), (3, 0, [some 23, some 24, some 25, some 26, some 27, none, none, none]), (11, 16, []), (11, 16, []), (11, 4, []), (11, 4, []), (11, 4, [])]) (n := 28) f dX8_init_87 lf_8_58 lp_8_7 rfl hnm rfl rfl rfl rfl rfl (by decide) rfl (Nat.le_of_ble_eq_true rfl) rfl ?_
  refine V_aload_n f dX8_init_90 0 rfl ?_
  refine V_iconst (v := 0) f dX8_init_91 (by decide) ?_
  refine V_putI f dX8_init_92 lf_8_62 lp_8_8 rfl rfl rfl rfl rfl ?_
  refine V_aload_n f dX8_init_95 0 rfl ?_
  refine V_iconst (v := 0) f dX8_init_96 (by decide) ?_
  refine V_putI f dX8_init_97 lf_8_66 lp_8_9 rfl rfl rfl rfl rfl ?_
  refine V_aload_n f dX8_init_100 0 rfl ?_
  refine V_iconst (v := 0) f dX8_init_101 (by decide) ?_
  refine V_putI f dX8_init_102 lf_8_69 lp_8_10 rfl rfl rfl rfl rfl ?_
  refine V_aload_n f dX8_init_105 0 rfl ?_
  refine V_iconst (v := 0) f dX8_init_106 (by decide) ?_
  refine V_putI f dX8_init_107 lf_8_72 lp_8_11 rfl rfl rfl rfl rfl ?_
  refine V_aload_n f dX8_init_110 0 rfl ?_
  refine V_iconst (v := 0) f dX8_init_111 (by decide) ?_
  refine V_putI f dX8_init_112 lf_8_75 lp_8_12 rfl rfl rfl rfl rfl ?_
  refine V_aload_n f dX8_init_115 0 rfl ?_
  refine V_iconst (v := 0) f dX8_init_116 (by decide) ?_
  refine V_putI f dX8_init_117 lf_8_78 lp_8_13 rfl rfl rfl rfl rfl ?_
  refine V_aload_n f dX8_init_120 0 rfl ?_
  refine V_iconst (v := (-1)) f dX8_init_121 (by decide) ?_
  refine V_putI f dX8_init_122 lf_8_81 lp_8_14 rfl rfl rfl rfl rfl ?_
  refine V_iconst (v := 0) f dX8_init_125 (by decide) ?_
  refine V_istore_n f dX8_init_126 rfl (by decide) rfl ?_
  rw [← Z1_0]
  refine loop1 16 0 0 ad13 _ rfl (by decide) ?_ (((ag13 0 (by decide)).trans ((ag12 0 (by decide)).trans ((ag11 0 (by decide)).trans ((ag10 0 (by decide)).trans ((ag9 0 (by decide)).trans ((ag8 0 (by decide)).trans ((ag7 0 (by decide)).trans ((ag6 0 (by decide)).trans ((ag5 0 (by decide)).trans ((ag4 0 (by decide)).trans ((ag3 0 (by decide)).trans ((ag2 0 (by decide)).trans ((ag1 0 (by decide)).trans rfl))))))))))))))
  refine ⟨⟨?_, ?_, ?_, ?_, ?_, ?_, ?_, ?_, ?_, ?_, ?_, ?_, ?_, ?_, ?_, ?_, ?_, fun c hc => absurd hc (Nat.not_lt_zero c)⟩, ⟨?_, ?_⟩, ⟨?_, ?_, ?_, ?_⟩, fun b hb => absurd hb (Nat.not_lt_zero b)⟩ <;> simp [up2, va_up, hR5.2 0 (by decide), hR7.2 0 (by decide), hR9.2 0 (by decide), hR11.2 0 (by decide), hR13.2 0 (by decide), hR7.2 4 (by decide), hR9.2 4 (by decide), hR11.2 4 (by decide), hR13.2 4 (by decide), hR7.2 9 (by decide), hR9.2 9 (by decide), hR11.2 9 (by decide), hR13.2 9 (by decide), hR9.2 14 (by decide), hR11.2 14 (by decide), hR13.2 14 (by decide), hR11.2 15 (by decide), hR13.2 15 (by decide), hR13.2 18 (by decide), hR5.1.1.1, hR5.1.1.2.1, hR5.1.1.2.2.1, hR5.1.1.2.2.2, hR5.1.2.1, (show M5 9 = (fun _ => 0) from hR5.1.2.2), (show M11 18 1 = 0 from hR11.1), hR7.1.1, hR7.1.2.1, hR7.1.2.2.1, hR7.1.2.2.2.1, hR7.1.2.2.2.2, hR9.1, hR13.1.1, hR13.1.2]

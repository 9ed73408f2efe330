/-! the reference's law: where it stands, what it leaves as it was -/
def cMF (M : MT) (l : Nat) : Nat → txCT
  | 0 => (550, 0, [])
  | k + 1 => effM M (16 * l + k) (cMF M l k)
theorem effM_c {M M1 : MT} {s : Nat} (h : ∀ j, 20 ≤ j → j ≤ 24 → M1 j s = M j s) (c : txCT) : effM M1 s c = effM M s c := by
  unfold effM
  rw [h 20 (by decide) (by decide), h 21 (by decide) (by decide), h 22 (by decide) (by decide), h 23 (by decide) (by decide), h 24 (by decide) (by decide)]
theorem cMF_c {M M1 : MT} {l : Nat} : ∀ k, (∀ j s, 20 ≤ j → j ≤ 24 → 16 * l ≤ s → s < 16 * l + k → M1 j s = M j s) → cMF M1 l k = cMF M l k
  | 0, _ => rfl
  | k + 1, h => by
    show effM M1 (16 * l + k) (cMF M1 l k) = effM M (16 * l + k) (cMF M l k)
    rw [cMF_c k (fun j s a b c d => h j s a b c (by omega)), effM_c (fun j a b => h j _ a b (by omega) (by omega))]
def FE (l : Nat) (M M2 : MT) : Prop := M2 16 = M 16 ∧ M2 19 = M 19 ∧ (∀ k, ¬ k = l → M2 18 k = M 18 k) ∧ (∀ j k, 20 ≤ j → j ≤ 24 → (k < 16 * l ∨ 16 * l + 16 ≤ k) → M2 j k = M j k) ∧ M2 0 27 = 0
theorem FE_s {l s : Nat} {M M2 Mx : MT} (h : FE l M M2) (k : Kt sP M2 Mx) (e : EN s M2 Mx) (hs : 16 * l ≤ s ∧ s < 16 * l + 16) : FE l M Mx := by
  obtain ⟨h1, h2, h3, h4, h5⟩ := h
  exact ⟨(k.2.2 16 (by unfold sP; decide)).trans h1, (k.2.2 19 (by unfold sP; decide)).trans h2, fun i hi => (congrFun (k.2.2 18 (by unfold sP; decide)) i).trans (h3 i hi), fun j i a b c => (e j i a b (by omega)).trans (h4 j i a b c), (k.2.1 27 (by decide) (by decide) (by decide)).trans h5⟩
theorem FE_b {l : Nat} {M M2 Mx : MT} (h : FE l M M2) (k : Kt bP M2 Mx) : FE l M Mx := by
  obtain ⟨h1, h2, h3, h4, h5⟩ := h
  exact ⟨(k.2.2 16 (by unfold bP; decide)).trans h1, (k.2.2 19 (by unfold bP; decide)).trans h2, fun i hi => (congrFun (k.2.2 18 (by unfold bP; decide)) i).trans (h3 i hi), fun j i a b c => (congrFun (k.2.2 j (show ¬ j = 0 by omega)) i).trans (h4 j i a b c), (k.2.1 27 (by decide) (by decide) (by decide)).trans h5⟩
theorem FE_18 {l : Nat} {M M2 : MT} (h : FE l M M2) (v : Int32) : FE l M (up2 M2 18 l v) := by
  obtain ⟨h1, h2, h3, h4, h5⟩ := h
  exact ⟨(upo (by decide)).trans h1, (upo (by decide)).trans h2, fun i hi => (up_k hi rfl).trans (h3 i hi), fun j i a b c => (congrFun (upo (by omega)) i).trans (h4 j i a b c), (up_c (by decide) h5)⟩
/-- c statements are read, the next begins at p -/
def LRx (T : Nat → Int32) (N c : Nat) (M M2 : MT) (p : Nat) : Prop := LR c M M2 ∧ RSx T N M2 p ∧ M2 0 29 = Int32.ofNat p ∧ c ≤ 16 ∧ txlw T N 16 (txsk T N 0) = txlw T N (16 - c) p ∧ txlc T N 16 (txsk T N 0) (550, 0, []) = txlc T N (16 - c) p (cMF M2 (Int32.toNatClampNeg (M 0 31)) c) ∧ FE (Int32.toNatClampNeg (M 0 31)) M M2
/-- a fault at q -/
def LRq (T : Nat → Int32) (N : Nat) (M M2 : MT) (q : Nat) : Prop := (∃ c, LR c M M2) ∧ FE (Int32.toNatClampNeg (M 0 31)) M M2 ∧ M2 0 29 = Int32.ofNat q ∧ txlw T N 16 (txsk T N 0) = (false, q)
theorem byN : ∀ n, n < 256 → vp_nar .byte (bySg n) = bySg n := by decide +kernel
theorem by_nar {s u : Int32} (h : BY s u) : vp_nar .byte s = s := by
  obtain ⟨n, hn, e⟩ := by_sg h.1
  rw [e]; exact byN n hn
def KT2 (M M1 : MT) (x : Nat) : Prop := KC M M1 ∧ ∀ k, k < x → M1 17 k = M 16 k
theorem KT2_s {M M1 : MT} {x : Nat} {v : Int32} (h : KT2 M M1 x) (hv : v = M 16 x) : KT2 M (up2 M1 17 x v) (x + 1) := ⟨KC_up h.1 x v, fun k hk => by
  by_cases e : k = x
  · subst e; rw [up_s]; exact hv
  · rw [up_k e rfl]; exact h.2 k (by omega)⟩
theorem LRx_RS {T : Nat → Int32} {M M1 : MT} {a : Int32} {N : Nat} (hS : InvS M) (hC : KT2 M M1 N) (haN : a.toInt = (N : Int)) (hN : N ≤ 500) (hT : ∀ k, k < N → BY (M 16 k) (T k)) (k : Nat) : RSx T N (up2 (up2 (up2 (up2 M1 0 28 a) 0 27 0) 0 29 0) 18 k 0) (txsk T N 0) := by
  refine ⟨law_par hS hC.1 (by omega) k, ?_, hN, fun j hj => ?_, 0, ?_, rfl⟩
  · rw [upo (by decide), up_k (by decide) rfl, up_k (by decide) rfl, up_s]; exact haN
  · rw [upo (by decide), upo (by decide), upo (by decide), upo (by decide), hC.2 j hj]; exact hT j hj
  · rw [upo (by decide), up_s]; decide
theorem LRx_0 {T : Nat → Int32} {M M1 Mx : MT} {a : Int32} {N : Nat} (hS : InvS M) (hC : KT2 M M1 N) (haN : a.toInt = (N : Int)) (hN : N ≤ 500) (hT : ∀ k, k < N → BY (M 16 k) (T k)) (g : Kt bP (up2 (up2 (up2 (up2 M1 0 28 a) 0 27 0) 0 29 0) 18 (Int32.toNatClampNeg (M 0 31)) 0) Mx) (e : Mx 0 29 = Int32.ofNat (txsk T N 0)) : LRx T N 0 M Mx (txsk T N 0) := by
  refine ⟨LR_start hS hC.1 (by omega) g, RS_st (LRx_RS hS hC haN hN hT _) g b17 e, e, by decide, rfl, rfl, FE_b (FE_18 ?_ 0) g⟩
  refine ⟨?_, ?_, fun k hk => ?_, fun j k h1 h2 _ => ?_, ?_⟩
  · rw [upo (by decide), upo (by decide), upo (by decide), hC.1 16 (by decide)]
  · rw [upo (by decide), upo (by decide), upo (by decide), hC.1 19 (by decide)]
  · rw [upo (by decide), upo (by decide), upo (by decide), hC.1 18 (by decide)]
  · rw [upo (by omega), upo (by omega), upo (by omega), hC.1 j (by omega)]
  · rw [up_k (by decide) rfl, up_s]
theorem st_ix {r t : Int32} {c : Nat} (h : 0 ≤ r.toInt ∧ r.toInt ≤ 7) (ht : t.toInt = (c : Int)) (hc : c < 16) : Int32.toNatClampNeg ((16 * r) + t) = 16 * Int32.toNatClampNeg r + c := by
  have h1 := sl1 h
  have e : ((16 * r) + t).toInt = 16 * r.toInt + t.toInt := by rw [Int32.toInt_add, h1, Int.bmod_eq_of_le (by omega) (by omega)]
  show ((16 * r) + t).toInt.toNat = 16 * r.toInt.toNat + c
  rw [e, ht]; omega
theorem LRx_s {T : Nat → Int32} {N c p q : Nat} {M M2 Mx My : MT} {s : Nat} (h : LRx T N c M M2 p) (hc : c < 16) (hp : p < N) (hs : s = 16 * Int32.toNatClampNeg (M 0 31) + c) (hq : txst T N p = (true, q)) (hR : RSx T N Mx q) (k : Kt sP M2 Mx) (en : EN s M2 Mx) (hf : ∀ x, effM Mx s x = txef T N p x) (g : Kt bP (up2 Mx 18 (Int32.toNatClampNeg (M 0 31)) ((Mx 18 (Int32.toNatClampNeg (M 0 31))) + 1)) My) (e : My 0 29 = Int32.ofNat q) (hR2 : RSx T N My q) : LRx T N (c + 1) M My q := by
  obtain ⟨h1, h2, h3, h4, h5, h6, h7⟩ := h
  have hne : ¬ txtc T N p = 0 := txtc_z hp
  have e16 : 16 - c = (16 - (c + 1)) + 1 := by omega
  rw [e16] at h5 h6
  have f1 := FE_b (FE_18 (FE_s h7 k en (by omega)) ((Mx 18 (Int32.toNatClampNeg (M 0 31))) + 1)) g
  have ec : ∀ j i, 20 ≤ j → j ≤ 24 → My j i = Mx j i := fun j i a b => (congrFun (g.2.2 j (show ¬ j = 0 by omega)) i).trans (congrFun (upo (by omega)) i)
  refine ⟨LR_Kt (LR_inc (LR_Kt h1 k) hc) (b_s g), hR2, e, by omega, h5.trans (txlw_y hne hq), ?_, f1⟩
  rw [h6, txlc_y hne hq]
  congr 1
  show _ = effM My (16 * Int32.toNatClampNeg (M 0 31) + c) (cMF My (Int32.toNatClampNeg (M 0 31)) c)
  rw [effM_c (M := Mx) (fun j a b => ec j _ a b), ← hs, hf, cMF_c (M := M2) c (fun j i a b h8 h9 => (ec j i a b).trans (en j i a b (by omega)))]
theorem LRx_bad {T : Nat → Int32} {N c p q : Nat} {M M2 Mx : MT} {s : Nat} (h : LRx T N c M M2 p) (hc : c < 16) (hp : p < N) (hs : s = 16 * Int32.toNatClampNeg (M 0 31) + c) (hq : txst T N p = (false, q)) (k : Kt sP M2 Mx) (en : EN s M2 Mx) (e : Mx 0 29 = Int32.ofNat q) : LRq T N M Mx q := by
  obtain ⟨h1, h2, h3, h4, h5, h6, h7⟩ := h
  have hne : ¬ txtc T N p = 0 := txtc_z hp
  rw [show 16 - c = (16 - (c + 1)) + 1 by omega] at h5
  exact ⟨⟨c, LR_Kt h1 k⟩, FE_s h7 k en (by omega), e, h5.trans (txlw_n hne hq)⟩
theorem LRx_many {T : Nat → Int32} {N c p : Nat} {M M2 : MT} (h : LRx T N c M M2 p) (hc : ¬ c < 16) (hp : p < N) : LRq T N M M2 p := by
  obtain ⟨h1, h2, h3, h4, h5, h6, h7⟩ := h
  rw [show 16 - c = 0 by omega] at h5
  exact ⟨⟨c, h1⟩, h7, h3, h5.trans (txlw_z (txtc_z hp))⟩
theorem lrx_p {T : Nat → Int32} {N c p : Nat} {M M2 : MT} (h : LRx T N c M M2 p) : (M2 0 28) ≤ (M2 0 29) ↔ ¬ p < N := by
  have hl := RS_le h.2.1
  rw [Int32.le_iff_toInt_le, h.2.1.2.1, h.2.2.1, ofN_toInt (by omega)]; omega
def LMf (M M1 : MT) : Prop := KL M M1 ∧ M1 0 27 = 0 ∧ M1 16 = M 16 ∧ (∀ k, ¬ k = Int32.toNatClampNeg (M 0 31) → M1 18 k = M 18 k ∧ M1 19 k = M 19 k) ∧ ∀ j k, 20 ≤ j → j ≤ 24 → (k < 16 * Int32.toNatClampNeg (M 0 31) ∨ 16 * Int32.toNatClampNeg (M 0 31) + 16 ≤ k) → M1 j k = M j k
def LM (T : Nat → Int32) (M : MT) (a : Int32) (v : Option Value) (M1 : MT) : Prop :=
  ((s_X9_isIn M a 0 (M 0 27)) = 0 ∧ v = some (.int (-2)) ∧ M1 = M) ∨
  (¬ (s_X9_isIn M a 0 (M 0 27)) = 0 ∧ (M 0 31) = 8 ∧ v = some (.int (-3)) ∧ M1 = M) ∨
  (¬ (s_X9_isIn M a 0 (M 0 27)) = 0 ∧ ¬ (M 0 31) = 8 ∧ LMf M M1 ∧
    ((∃ q, txlw T a.toInt.toNat 16 (txsk T a.toInt.toNat 0) = (false, q) ∧ v = some (.int (-1)) ∧ M1 0 30 = Int32.ofNat q ∧ M1 0 31 = M 0 31) ∨
     (∃ q, txlw T a.toInt.toNat 16 (txsk T a.toInt.toNat 0) = (true, q) ∧ v = some (.int (M 0 31)) ∧ M1 0 30 = (-1) ∧ M1 0 31 = (M 0 31) + 1 ∧ M1 19 (Int32.toNatClampNeg (M 0 31)) = M 0 0 ∧ ∃ c : Nat, c ≤ 16 ∧ (M1 18 (Int32.toNatClampNeg (M 0 31))).toInt = (c : Int) ∧ cMF M1 (Int32.toNatClampNeg (M 0 31)) c = txlc T a.toInt.toNat 16 (txsk T a.toInt.toNat 0) (550, 0, []))))
theorem LM_bad {T : Nat → Int32} {M M2 : MT} {a : Int32} {q : Nat} (w1 : ¬ (s_X9_isIn M a 0 (M 0 27)) = 0) (w2 : ¬ (M 0 31) = 8) (h : LRq T a.toInt.toNat M M2 q) : LM T M a (some (.int (-1))) (up2 M2 0 30 (M2 0 29)) := by
  obtain ⟨⟨c, hR⟩, ⟨f1, f2, f3, f4, f5⟩, h29, hq⟩ := h
  refine Or.inr (Or.inr ⟨w1, w2, ⟨LR_bad hR _, (up_k (by decide) rfl).trans f5, (upo (by decide)).trans f1, fun k hk => ⟨(congrFun (upo (by decide)) k).trans (f3 k hk), (congrFun (upo (by decide)) k).trans (congrFun f2 k)⟩, fun j k x y z => (congrFun (upo (by omega)) k).trans (f4 j k x y z)⟩, Or.inl ⟨q, hq, rfl, ?_, ?_⟩⟩)
  · rw [up_s]; exact h29
  · rw [up_k (by decide) rfl]; exact hR.2.2.1
theorem LM_good {T : Nat → Int32} {M M2 : MT} {a x : Int32} {c p : Nat} (w1 : ¬ (s_X9_isIn M a 0 (M 0 27)) = 0) (w2 : ¬ (M 0 31) = 8) (hl : 0 ≤ (M 0 31).toInt ∧ (M 0 31).toInt ≤ 7) (h : LRx T a.toInt.toNat c M M2 p) (hp : ¬ p < a.toInt.toNat) (hx : x = M 0 0) : LM T M a (some (.int (((M 0 31) + 1) - 1))) (up2 (up2 (up2 M2 0 30 (-1)) 19 (Int32.toNatClampNeg (M 0 31)) x) 0 31 ((M 0 31) + 1)) := by
  obtain ⟨hR, h2, h3, h4, h5, h6, ⟨f1, f2, f3, f4, f5⟩⟩ := h
  have ht := txtc_0 (T := T) hp
  refine Or.inr (Or.inr ⟨w1, w2, ⟨LR_good hR hl _ _ _, ?_, ?_, fun k hk => ⟨?_, ?_⟩, fun j k x y z => ?_⟩, Or.inr ⟨p, h5.trans (txlw_0 ht), by rw [Int32.add_sub_cancel], ?_, up_s, ?_, c, h4, ?_, ?_⟩⟩)
  · rw [up_k (by decide) rfl, upo (by decide), up_k (by decide) rfl]; exact f5
  · rw [upo (by decide), upo (by decide), upo (by decide)]; exact f1
  · rw [upo (by decide), upo (by decide), upo (by decide)]; exact f3 k hk
  · rw [upo (by decide), up_k hk rfl, upo (by decide)]; exact congrFun f2 k
  · rw [upo (by omega), upo (by omega), upo (by omega)]; exact f4 j k x y z
  · rw [up_k (by decide) rfl, upo (by decide), up_s]
  · rw [upo (by decide), up_s]; exact hx
  · rw [upo (by decide), upo (by decide), upo (by decide)]; exact hR.2.2.2
  · rw [h6, txlc_0 ht]
    exact cMF_c c (fun j s x y _ _ => by rw [upo (by omega), upo (by omega), upo (by omega)])

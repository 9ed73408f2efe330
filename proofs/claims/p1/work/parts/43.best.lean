theorem q_best (MB MM : MT) (a c : Int32) : (if s_X8_within MB a 1 3 = 0 then (-1 : Int32) else if s_X8_within MB c (-1) (a - 1) = 0 then -1 else 0) = (if s_X9_isIn MM a 1 3 = 0 then (-1 : Int32) else if s_X9_isIn MM c (-1) (a - 1) = 0 then -1 else 0) := by
  by_cases h1 : s_X8_within MB a 1 3 = 0 <;> by_cases h2 : s_X8_within MB c (-1) (a - 1) = 0 <;> simp [isIn_eq MM MB, h1, h2]
set_option maxHeartbeats 4000000 in
set_option maxRecDepth 100000 in
theorem lwc_17 {p : Program} {l : Launch} {e : Env} {s : State} {m : MethodId} {b : Nat} {below : List Frame} {meth : Method} {c : Code} {D : va_G} {cy : Nat → ClassId} (f : ∀ X, Fx (kM p l e s m b below meth c D cy X) cL_law RL 4 room_1) {xs : Nat → Int32} (hX : va_X b 6 xs s s.heap) (hbl : b < s.heap.size) (aB aM : Nat → Nat) (MB MM : MT) (fB : FrB MB) (fL : FrL MB) (fM : FrM MM) {n1 n2 : Nat} (h1 : n1 ≤ 600000) (h2 : n2 ≤ 7302250) (fin : ∀ (X : va_W) (M : MT), V (kM p l e s m b below meth c D cy X) aM n1 n2 ZM M 708 [(3, .int 0), (2, .ref (aM 0)), (1, .ref (aB 0)), (0, .ref b)] []) : V (kM p l e s m b below meth c D cy ([] ++ wl cy aB ZB MB)) aM n1 n2 ZM MM 639 [(3, .int 0), (2, .ref (aM 0)), (1, .ref (aB 0)), (0, .ref b)] [] := by
  refine V.exch (X0 := []) (M2 := MM) zokB ?_
  refine V_aload_n (f _) dL_law_639 2 rfl ?_
  refine V_aload_n (f _) dL_law_640 3 rfl ?_
  refine V_iload_n (f _) dL_law_641 0 rfl ?_
  refine V_iconst (v := 1) (f _) dL_law_642 (by decide) ?_
  refine V_iadd (f _) dL_law_643 ?_
  rw [show (0 + 1 : Int32) = 1 by decide]
  refine V_sld (f _) hX hbl (i := 1) (by unfold vp_in; decide) dL_law_644 ?_
  refine V_aload_n (f _) dL_law_645 3 rfl ?_
  refine V_iload_n (f _) dL_law_646 0 rfl ?_
  refine V_iconst (v := 2) (f _) dL_law_647 (by decide) ?_
  refine V_iadd (f _) dL_law_648 ?_
  rw [show (0 + 2 : Int32) = 2 by decide]
  refine V_sld (f _) hX hbl (i := 2) (by unfold vp_in; decide) dL_law_649 ?_
  refine V_cVp (As := [.int (xs (Int32.toNatClampNeg 1)), .int (xs (Int32.toNatClampNeg 2))]) (rest := []) (f _) dL_law_650 lk_L_88 ml_L_88 ins_X8_best sel_X8_best zb_0 (by decide) rfl (c1_X8_best _ _ _ _ aB MB (xs (Int32.toNatClampNeg 1)) (xs (Int32.toNatClampNeg 2)) fB fL.1 fL.2) rfl (Nat.le_of_ble_eq_true rfl) rfl ⟨by decide, by decide⟩ ⟨h1, h2⟩ rfl rfl (fun v1 M1 hp => ?_)
  subst hp
  show V _ _ _ _ _ _ _ _ ([.int (if (s_X8_within MB (xs (Int32.toNatClampNeg 1)) 1 3) = 0 then -1 else if (s_X8_within MB (xs (Int32.toNatClampNeg 2)) (-1) ((xs (Int32.toNatClampNeg 1)) - 1)) = 0 then -1 else 0)])
  refine V.exch (X0 := []) (M2 := M1) zokM ?_
  refine V_aload_n (f _) dL_law_653 1 rfl ?_
  refine V_aload_n (f _) dL_law_654 3 rfl ?_
  refine V_iload_n (f _) dL_law_655 0 rfl ?_
  refine V_iconst (v := 1) (f _) dL_law_656 (by decide) ?_
  refine V_iadd (f _) dL_law_657 ?_
  rw [show (0 + 1 : Int32) = 1 by decide]
  refine V_sld (f _) hX hbl (i := 1) (by unfold vp_in; decide) dL_law_658 ?_
  refine V_aload_n (f _) dL_law_659 3 rfl ?_
  refine V_iload_n (f _) dL_law_660 0 rfl ?_
  refine V_iconst (v := 2) (f _) dL_law_661 (by decide) ?_
  refine V_iadd (f _) dL_law_662 ?_
  rw [show (0 + 2 : Int32) = 2 by decide]
  refine V_sld (f _) hX hbl (i := 2) (by unfold vp_in; decide) dL_law_663 ?_
  refine V_cVp (As := [.int (xs (Int32.toNatClampNeg 1)), .int (xs (Int32.toNatClampNeg 2))]) (rest := [.int (if (s_X8_within MB (xs (Int32.toNatClampNeg 1)) 1 3) = 0 then -1 else if (s_X8_within MB (xs (Int32.toNatClampNeg 2)) (-1) ((xs (Int32.toNatClampNeg 1)) - 1)) = 0 then -1 else 0)]) (f _) dL_law_664 lk_L_91 ml_L_91 ins_X9_best sel_X9_best zm_0 (by decide) rfl (c1_X9_best _ _ _ _ aM MM (xs (Int32.toNatClampNeg 1)) (xs (Int32.toNatClampNeg 2)) fM) rfl (Nat.le_of_ble_eq_true rfl) rfl ⟨by decide, by decide⟩ ⟨h1, h2⟩ rfl rfl (fun v2 M2 hp => ?_)
  subst hp
  show V _ _ _ _ _ _ _ _ ([.int (if (s_X9_isIn MM (xs (Int32.toNatClampNeg 1)) 1 3) = 0 then -1 else if (s_X9_isIn MM (xs (Int32.toNatClampNeg 2)) (-1) ((xs (Int32.toNatClampNeg 1)) - 1)) = 0 then -1 else 0), .int (if (s_X8_within MB (xs (Int32.toNatClampNeg 1)) 1 3) = 0 then -1 else if (s_X8_within MB (xs (Int32.toNatClampNeg 2)) (-1) ((xs (Int32.toNatClampNeg 1)) - 1)) = 0 then -1 else 0)])
  refine V_icmp_eq (tgt := 708) (f _) dL_law_667 (by decide) (fun _ => fin _ _) (fun h => absurd (q_best MB MM _ _) h)

/-! THE LAW: two pools of cells, the class's and the reference's -/
abbrev kM (p : Program) (l : Launch) (e : Env) (s : State) (m : MethodId) (b : Nat) (below : List Frame) (meth : Method) (c : Code) (D : va_G) (cy : Nat → ClassId) (X : va_W) : KT := (p, l, e, room_1, s, m, #[Value.ref b], below, meth, c, lw_Z below #[Value.ref b] s, D, cy, (fun q : Nat => s.heap.size ≤ q), 4, X)
section LW
variable {p : Program} {l : Launch} {e : Env} {s : State} {m : MethodId} {b : Nat} {below : List Frame} {meth : Method} {c : Code} {D : va_G} {cy : Nat → ClassId} {X : va_W} {ad : Nat → Nat} {n1 n2 : Nat} {Z : ZT} {M : MT} {pc : Nat} {lv : List (Nat × Value)} {st : List Value}
theorem V.exch {X0 : va_W} {ad1 ad2 : Nat → Nat} {Z1 Z2 : ZT} {M1 M2 : MT} (hz1 : zok Z1) (k : V (kM p l e s m b below meth c D cy (X0 ++ wl cy ad2 Z2 M2)) ad1 n1 n2 Z1 M1 pc lv st) : V (kM p l e s m b below meth c D cy (X0 ++ wl cy ad1 Z1 M1)) ad2 n1 n2 Z2 M2 pc lv st := by
  intro H locs ls hz hP hD hS hl
  have hP2 : va_P D vwCl ((X0 ++ wl cy ad1 Z1 M1) ++ wl cy ad2 Z2 M2) H := hP
  have hD2 : va_D (fun q : Nat => s.heap.size ≤ q) ((X0 ++ wl cy ad1 Z1 M1) ++ wl cy ad2 Z2 M2) := hD
  have h : W p l e room_1 s m #[Value.ref b] below meth c H locs n1 n2 (lw_Z below #[Value.ref b] s) (F0 m pc ls st) := k H locs ls hz1 (va_P.swap hP2) (va_D.swap hD2) hS hl
  exact h
theorem V.split {ad2 : Nat → Nat} {M2 : MT} (k : V (kM p l e s m b below meth c D cy (X ++ wl cy ad Z M)) ad2 n1 n2 [] M2 pc lv st) : V (kM p l e s m b below meth c D cy X) ad n1 n2 Z M pc lv st := by
  intro H locs ls hz hP hD hS hl
  have e1 : (X ++ wl cy ad Z M) ++ wl cy ad2 [] M2 = X ++ wl cy ad Z M := List.append_nil _
  have hP2 : va_P D vwCl ((X ++ wl cy ad Z M) ++ wl cy ad2 [] M2) H := by rw [e1]; exact hP
  have hD2 : va_D (fun q : Nat => s.heap.size ≤ q) ((X ++ wl cy ad Z M) ++ wl cy ad2 [] M2) := by rw [e1]; exact hD
  have h : W p l e room_1 s m #[Value.ref b] below meth c H locs n1 n2 (lw_Z below #[Value.ref b] s) (F0 m pc ls st) := k H locs ls (fun z hz => absurd hz List.not_mem_nil) hP2 hD2 hS hl
  exact h
variable {L : Nat} {xs : Nat → Int32}
theorem V_slen (f : Fx (kM p l e s m b below meth c D cy X) cL_law RL 4 room_1) (hX : va_X b L xs s s.heap) (hbl : b < s.heap.size) (hd : decode cL_law pc = .ok (.arraylength, 1)) (kk : V (kM p l e s m b below meth c D cy X) ad n1 n2 Z M (pc + 1) lv (.int (Int32.ofNat L) :: st)) : V (kM p l e s m b below meth c D cy X) ad n1 n2 Z M pc lv (.ref b :: st) := by
  intro H locs ls hz hP hD hS hl
  have hS2 : va_S (fun q : Nat => s.heap.size ≤ q) s.heap H locs := hS
  have h : W p l e room_1 s m #[Value.ref b] below meth c H locs n1 n2 (lw_Z below #[Value.ref b] s) (F0 m pc ls (.ref b :: st)) := va_slen f.1 f.2.1 hX hbl (Nat.not_le.mpr hbl) hS2 hd (kk H locs ls hz hP hD hS hl)
  exact h
theorem V_sld (f : Fx (kM p l e s m b below meth c D cy X) cL_law RL 4 room_1) (hX : va_X b L xs s s.heap) (hbl : b < s.heap.size) {i : Int32} (hin : vp_in i L) (hd : decode cL_law pc = .ok (.iaload, 1)) (kk : V (kM p l e s m b below meth c D cy X) ad n1 n2 Z M (pc + 1) lv (.int (xs i.toNatClampNeg) :: st)) : V (kM p l e s m b below meth c D cy X) ad n1 n2 Z M pc lv (.int i :: .ref b :: st) := by
  intro H locs ls hz hP hD hS hl
  have hS2 : va_S (fun q : Nat => s.heap.size ≤ q) s.heap H locs := hS
  have h : W p l e room_1 s m #[Value.ref b] below meth c H locs n1 n2 (lw_Z below #[Value.ref b] s) (F0 m pc ls (.int i :: .ref b :: st)) := va_sld f.1 f.2.1 hX hbl (Nat.not_le.mpr hbl) hS2 hin hd (kk H locs ls hz hP hD hS hl)
  exact h
theorem V_lret1 (f : Fx (kM p l e s m b below meth c D cy X) cL_law RL 4 room_1) (hr : meth.sig.returnType = ret) (h1 : n1 ≤ 600000) (h2 : n2 ≤ 7302250) (hd : decode cL_law pc = .ok (.ireturn, 1)) : V (kM p l e s m b below meth c D cy X) ad n1 n2 Z M pc lv [.int 1] := by
  intro H locs ls hz hP hD hS hl
  have hS2 : va_S (fun q : Nat => s.heap.size ≤ q) s.heap H locs := hS
  have h : W p l e room_1 s m #[Value.ref b] below meth c H locs n1 n2 (lw_Z below #[Value.ref b] s) (F0 m pc ls [.int 1]) := va_forget (fun q hq => hS2.2.2 q hq) (W.widen h1 h2 (lw_ret f.1 f.2.1 hr f.2.2.2.2.2.2.2.2.2 hd))
  exact h
end LW
theorem zokB : zok ZB := by
  have h : (ZB.all fun z => z.2.2.all fun r => match r with | some j => decide (j < ZB.length) | none => true) = true := by decide +kernel
  intro z hz j hj
  have h1 := List.all_eq_true.mp (List.all_eq_true.mp h z hz) (some j) hj
  exact of_decide_eq_true h1
theorem zokM : zok ZM := by
  have h : (ZM.all fun z => z.2.2.all fun r => match r with | some j => decide (j < ZM.length) | none => true) = true := by decide +kernel
  intro z hz j hj
  have h1 := List.all_eq_true.mp (List.all_eq_true.mp h z hz) (some j) hj
  exact of_decide_eq_true h1

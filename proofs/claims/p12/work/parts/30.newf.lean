/-! constructors: new cells behind those that are there -/
def CtN (l : Launch) (y : MethodName) (cc : ByteArray) (nL : Nat) (rm : Room) (D : va_G) (cy : Nat → ClassId) (X : va_W) (ad : Nat → Nat) (Z : ZT) (M : MT) (as : List Value) (Z1 : ZT) (R : MT → Prop) : Prop := Ctr l y cc nL none rm D cy X ad Z M as (fun v ad' Z' M' => v = none ∧ (∀ i, i < Z.length → ad' i = ad i) ∧ Z' = Z1 ∧ R M')
theorem zpa {Zp l : ZT} {n k : Nat} {z : ZC} (hn : Zp.length = n) (h : l[k]? = some z) : (Zp ++ l)[n + k]? = some z := by
  subst hn
  rw [List.getElem?_append_right (by omega), show Zp.length + k - Zp.length = k by omega]
  exact h
theorem zpl {Zp l : ZT} {n m : Nat} (hn : Zp.length = n) (h : l.length = m) : (Zp ++ l).length = n + m := by rw [List.length_append, hn, h]
theorem zps {Zp l l' : ZT} {n j : Nat} {c : ZC} (hn : Zp.length = n) (h : l.set j c = l') : (Zp ++ l).set (n + j) c = Zp ++ l' := by
  subst hn
  rw [List.set_append_right _ _ (by omega), show Zp.length + j - Zp.length = j by omega, h]
section NF
variable {K : KT} {cc : ByteArray} {own : String} {nL : Nat} {rm : Room} {ad : Nat → Nat} {n1 n2 : Nat} {Z Z1 : ZT} {M : MT} {pc n : Nat} {lvF : (Nat → Nat) → List (Nat × Value)} {stF : (Nat → Nat) → List Value}
theorem V_newF (f : Fx K cc own nL rm) {index ci : Nat} {C : String} {T : u_T} {N : Nat} (hd : decode cc pc = .ok (.new index, 3)) (hci : ci < 10) (hc : vwCl[ci]? = some (C, T, N)) (hin : ∀ w ∈ u_ws C T N, w ∈ tbG) (ty : Nat → FieldType) (hty : ∀ k, k < N → parseFieldDescriptor (T k).2.2.1 = some (ty k)) (hcl : Cond.classLink own index C ∈ tbG) (hinst : Cond.instantiable C N ∈ tbG) (hini : Cond.initialized C ∈ tbG)
    (hfs : ∀ j, j < N → defaultValue (ty j) = vp_V ((kFl ci).map (fun b => if b then .null else .int 0)) j) (h1 : n1 + 1 ≤ rm.cells) (h2 : n2 + N ≤ rm.slots) (hn : Z.length = n) (hZ : Z ++ [(ci, 0, List.replicate N none)] = Z1) (hag : ∀ a : Nat → Nat, (∀ i, i < n → a i = ad i) → lvF a = lvF ad ∧ stF a = stF ad)
    (kk : ∀ a : Nat → Nat, (∀ i, i < n → a i = ad i) → V K a (n1 + 1) (n2 + N) Z1 (va_up M n (fun _ => 0)) (pc + 3) (lvF a) (.ref (a n) :: stF a)) : V K ad n1 n2 Z M pc (lvF ad) (stF ad) := by
  subst hn; subst hZ
  refine V_new f hd hci hc hin ty hty hcl hinst hini hfs h1 h2 (fun q => ?_)
  have ha : ∀ i, i < Z.length → va_up ad Z.length q i = ad i := fun i hi => by simp only [va_up]; rw [if_neg (Nat.ne_of_lt hi)]
  have h := kk _ ha
  rw [(hag _ ha).1, (hag _ ha).2] at h
  exact h
theorem V_newaF (f : Fx K cc own nL rm) {atype : ArrayType} {ty : FieldType} {t0 ci : Nat} (hd : decode cc pc = .ok (.newarray atype, 2)) (harr : Cond.arrayClass (newarray.typeOf atype) ∈ tbG) (hty : newarray.typeOf atype = ty) (hc1 : ¬ ci < 10) (hc2 : ci < 13) (h0 : ∀ cy : Nat → ClassId, (tyL cy)[t0]? = some (cy ci, ty)) (hno : ∀ C, ty ≠ .object C) {x : Int32} {N : Nat} (ha : ∀ cA : ClassId, vp_cell cA (N, .inl (fun _ => 0)) = arrV cA N (fun _ => defaultValue ty)) (hx : ¬ x < 0) (hN : x.toNatClampNeg = N) (hbytes : N * componentBytes ty ≤ 536870912) (h1 : n1 + 1 ≤ rm.cells) (h2 : n2 + N ≤ rm.slots) (hn : Z.length = n) (hZ : Z ++ [(ci, N, [])] = Z1) (hag : ∀ a : Nat → Nat, (∀ i, i < n → a i = ad i) → lvF a = lvF ad ∧ stF a = stF ad)
    (kk : ∀ a : Nat → Nat, (∀ i, i < n → a i = ad i) → V K a (n1 + 1) (n2 + N) Z1 (va_up M n (fun _ => 0)) (pc + 2) (lvF a) (.ref (a n) :: stF a)) : V K ad n1 n2 Z M pc (lvF ad) (.int x :: stF ad) := by
  subst hn; subst hZ
  refine V_newa (t0 := t0) f hd harr hty hc1 hc2 h0 hno ha hx hN hbytes h1 h2 (fun q => ?_)
  have ha : ∀ i, i < Z.length → va_up ad Z.length q i = ad i := fun i hi => by simp only [va_up]; rw [if_neg (Nat.ne_of_lt hi)]
  have h := kk _ ha
  rw [(hag _ ha).1, (hag _ ha).2] at h
  exact h
theorem V_newqF (f : Fx K cc own nL rm) {index t0 ci : Nat} {C : String} (hd : decode cc pc = .ok (.anewarray index, 3)) (hcl : Cond.classLink own index C ∈ tbG) (hC : C ∈ ["PeatBog$Bay", "PeatBog$Law", "PeatBog$Stack"]) (hc2 : ¬ ci < 13) (h0 : ∀ cy : Nat → ClassId, (tyL cy)[t0]? = some (cy ci, .object C)) {x : Int32} {N : Nat} (hx : ¬ x < 0) (hN : x.toNatClampNeg = N) (hbytes : N * 4 ≤ 536870912) (h1 : n1 + 1 ≤ rm.cells) (h2 : n2 + N ≤ rm.slots) (hn : Z.length = n) (hZ : Z ++ [(ci, N, List.replicate N none)] = Z1) (hag : ∀ a : Nat → Nat, (∀ i, i < n → a i = ad i) → lvF a = lvF ad ∧ stF a = stF ad)
    (kk : ∀ a : Nat → Nat, (∀ i, i < n → a i = ad i) → V K a (n1 + 1) (n2 + N) Z1 (va_up M n (fun _ => 0)) (pc + 3) (lvF a) (.ref (a n) :: stF a)) : V K ad n1 n2 Z M pc (lvF ad) (.int x :: stF ad) := by
  subst hn; subst hZ
  refine V_newq (t0 := t0) f hd hcl hC hc2 h0 hx hN hbytes h1 h2 (fun q => ?_)
  have ha : ∀ i, i < Z.length → va_up ad Z.length q i = ad i := fun i hi => by simp only [va_up]; rw [if_neg (Nat.ne_of_lt hi)]
  have h := kk _ ha
  rw [(hag _ ha).1, (hag _ ha).2] at h
  exact h
theorem V_putFp (f : Fx K cc own nL rm) {idx ci k : Nat} {C : String} {T : u_T} {N : Nat} {ty : FieldType} {lv : List (Nat × Value)} {st : List Value} (hd : decode cc pc = .ok (.putfield idx, 3)) (lf : LF own idx ci k C T N) (lp : LPf k T N ty) (hfin : (T k).2.2.2 = true) (hin2 : (kmt K).name = "<init>") (hdecl : (T k).1 = own) (hfl : (kFl ci)[k]? = some true) {r : Nat} (hnr : narrow ty (.ref (ad r)) = .ref (ad r)) (hfit : fits ty (.ref (ad r)) = true) (hl : Z.length = n) (hr : r < n) {i zn : Nat} {rs : List (Option Nat)} (hi : Z[i]? = some (ci, zn, rs)) (hk2 : k < rs.length) (hZ : Z.set i (ci, zn, rs.set k (some r)) = Z1) (kk : V K ad n1 n2 Z1 M (pc + 3) lv st) : V K ad n1 n2 Z M pc lv (.ref (ad r) :: .ref (ad i) :: st) := by
  subst hZ; subst hl
  exact V_putF f hd lf lp hfin hin2 hdecl hfl hnr hfit hr hi hk2 kk
theorem V_aastp (f : Fx K cc own nL rm) {lv : List (Nat × Value)} {st : List Value} (hd : decode cc pc = .ok (.aastore, 1)) {a zn ci t0 cj nj r : Nat} {q : vw_C} {rs rj : List (Option Nat)} (hi : Z[a]? = some (ci, zn, rs)) (hci : ¬ ci < 13) (ht : (tyL (ky K))[t0]? = some (ky K ci, .object q.1)) (hr : Z[r]? = some (cj, nj, rj)) (hcj : cj < 10) (hc : vwCl[cj]? = some q) {i : Int32} (hin : vp_in i zn) (hlen : i.toNatClampNeg < rs.length) (hZ : Z.set a (ci, zn, rs.set i.toNatClampNeg (some r)) = Z1) (kk : V K ad n1 n2 Z1 M (pc + 1) lv st) : V K ad n1 n2 Z M pc lv (.ref (ad r) :: .int i :: .ref (ad a) :: st) := by
  subst hZ
  exact V_aast (t0 := t0) f hd hi hci ht hr hcj hc hin hlen kk
variable {y : MethodName} {bytes : ByteArray} {maxL idx np : Nat} {rm2 : Room} {AsF : (Nat → Nat) → List Value} {R : MT → Prop}
theorem V_cI (f : Fx K cc own nL rm) (hd : decode cc pc = .ok (.invokespecial idx, 3)) (lk : LK own idx y bytes maxL none np) (hl1 : Cond.methodLink own idx y ∈ tbG) (hin : Cond.instanceMethod y ∈ tbG) (hy1 : y.name = "<init>") {i : Nat} {st : List Value} (hM : CtN (kl K) y bytes maxL rm2 (kD K) (ky K) (kX K) ad Z M (.ref (ad i) :: AsF ad) Z1 R)
    (hnp : (AsF ad).length = np) (hst : st = (AsF ad).reverse ++ .ref (ad i) :: stF ad) (hcat : ((stF ad).map fun v => v.category).sum ≤ 8) (hR : rm2.frames + 1 ≤ rm.frames ∧ 8 + (maxL + 11) + rm2.locals ≤ rm.locals) (hC : n1 + rm2.cells ≤ rm.cells ∧ n2 + rm2.slots ≤ rm.slots) (hn : Z.length = n) (hag : ∀ a : Nat → Nat, (∀ i, i < n → a i = ad i) → lvF a = lvF ad ∧ stF a = stF ad)
    (kk : ∀ (a : Nat → Nat) (M1 : MT), (∀ i, i < n → a i = ad i) → R M1 → V K a (n1 + rm2.cells) (n2 + rm2.slots) Z1 M1 (pc + 3) (lvF a) (stF a)) : V K ad n1 n2 Z M pc (lvF ad) st := by
  subst hn
  refine V_callI f hd lk hl1 hin hy1 hM hnp hst hcat hR hC (fun v ad' Z' M1 hp => ?_)
  obtain ⟨rfl, ha, rfl, hRm⟩ := hp
  have h := kk ad' M1 ha hRm
  rw [(hag _ ha).1, (hag _ ha).2] at h
  exact h
theorem V_cIN (f : Fx K cc own nL rm) (hd : decode cc pc = .ok (.invokespecial idx, 3)) (lk : LK own idx y bytes maxL none np) {host : String} (hl1 : (own, idx, y, host) ∈ nestL) (hin : Cond.instanceMethod y ∈ tbG) (hy1 : y.name = "<init>") {i : Nat} {st : List Value} (hM : CtN (kl K) y bytes maxL rm2 (kD K) (ky K) (kX K) ad Z M (.ref (ad i) :: AsF ad) Z1 R)
    (hnp : (AsF ad).length = np) (hst : st = (AsF ad).reverse ++ .ref (ad i) :: stF ad) (hcat : ((stF ad).map fun v => v.category).sum ≤ 8) (hR : rm2.frames + 1 ≤ rm.frames ∧ 8 + (maxL + 11) + rm2.locals ≤ rm.locals) (hC : n1 + rm2.cells ≤ rm.cells ∧ n2 + rm2.slots ≤ rm.slots) (hn : Z.length = n) (hag : ∀ a : Nat → Nat, (∀ i, i < n → a i = ad i) → lvF a = lvF ad ∧ stF a = stF ad)
    (kk : ∀ (a : Nat → Nat) (M1 : MT), (∀ i, i < n → a i = ad i) → R M1 → V K a (n1 + rm2.cells) (n2 + rm2.slots) Z1 M1 (pc + 3) (lvF a) (stF a)) : V K ad n1 n2 Z M pc (lvF ad) st := by
  subst hn
  refine V_callIN f hd lk hl1 hin hy1 hM hnp hst hcat hR hC (fun v ad' Z' M1 hp => ?_)
  obtain ⟨rfl, ha, rfl, hRm⟩ := hp
  have h := kk ad' M1 ha hRm
  rw [(hag _ ha).1, (hag _ ha).2] at h
  exact h
end NF

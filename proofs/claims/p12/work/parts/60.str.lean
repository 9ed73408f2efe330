/-! the String constants of Tokens: where they lie, what they hold -/
def lenJ : List Nat := [5, 5, 5, 2, 4, 2, 3, 4, 4, 4, 4, 4, 5, 4, 0]
def bytJ : List (List Int32) := [[108, 105, 109, 105, 116], [100, 101, 112, 116, 104], [99, 108, 111, 115, 101], [116, 111], [102, 114, 111, 109], [105, 102], [97, 110, 100], [116, 104, 101, 110], [116, 117, 114, 110], [115, 101, 110, 100], [107, 101, 101, 112], [104, 101, 97, 116], [119, 101, 101, 107, 115], [116, 111, 110, 115], []]
def ixJ : List Nat := [79, 81, 83, 85, 87, 89, 91, 93, 95, 97, 99, 100, 102, 104, 106]
def txJ : List String := ["limit", "depth", "close", "to", "from", "if", "and", "then", "turn", "send", "keep", "heat", "weeks", "tons", ""]
/-- cs: the constants, cv: their bytes, z: what the JDK's static holds that nobody asks -/
def SW (cs cv : Nat → Nat) (z : Value) (A : Nat → Prop) (U : State) : Prop :=
  vk_S 15 lenJ bytJ cs cv A U U.heap ∧ (∀ i, i < 15 → vk_R RX7 (ixJ.getD i 0) (txJ.getD i "") (cs i) U) ∧ va_Z "java/lang/String" "COMPACT_STRINGS" "Z" (.int 1) A U U.heap ∧ va_Z "jdk/internal/util/Preconditions" "SIOOBE_FORMATTER" "Ljava/util/function/BiFunction;" z A U U.heap ∧ (z = .null ∨ ∃ t, z = .ref t)
theorem SW.calling {cs cv : Nat → Nat} {z : Value} {A : Nat → Prop} {U : State} {g : JFrame} {mk : MethodId} {a : Array Value} (h : SW cs cv z A U) : SW cs cv z A (U.calling g mk a) :=
  ⟨vk_S.moved (u := U) (U := U.calling g mk a) (Vm.Alike.refl U.vm) h.1, fun i hi => vk_R.same (u := U) rfl (h.2.1 i hi), va_Z.moved (u := U) (U := U.calling g mk a) (Vm.Alike.refl U.vm) h.2.2.1, va_Z.moved (u := U) (U := U.calling g mk a) (Vm.Alike.refl U.vm) h.2.2.2.1, h.2.2.2.2⟩
theorem SW.go {cs cv : Nat → Nat} {z : Value} {A B : Nat → Prop} {s U : State} {H : Heap} {locs : List Loc} (h : SW cs cv z A s) (hS : va_S A s.heap H locs) (hU : U.heap = H) (hW : s.WarmedH U.vm) (hAB : ∀ q, B q → A q) : SW cs cv z B U := by
  obtain ⟨h1, h2, h3, h4, h5⟩ := h
  subst hU
  exact ⟨((h1.kept hS.2.1).moved hW.alike).narrow hAB, fun i hi => (h2 i hi).warm hW, ((h3.kept hS.2.1).moved hW.alike).narrow hAB, ((h4.kept hS.2.1).moved hW.alike).narrow hAB, h5⟩
def PFS (cs cv : Nat → Nat) (z : Value) (D : va_G) (cy : Nat → ClassId) (X : va_W) (sz : Nat) (as : List Value) (ad : Nat → Nat) (Z : ZT) (M : MT) : Array Value → State → Prop := va_Pc as (fun U => U.heap.size = sz ∧ KK D cy U ∧ zok Z ∧ va_P D vwCl (X ++ wl cy ad Z M) U.heap ∧ va_D (fun _ => True) (X ++ wl cy ad Z M) ∧ SW cs cv z (va_A (X ++ wl cy ad Z M) sz) U)
/-- a contract that needs the String constants -/
def CtS (cs cv : Nat → Nat) (z : Value) (l : Launch) (y : MethodName) (cc : ByteArray) (nL : Nat) (ret : Option FieldType) (rm : Room) (D : va_G) (cy : Nat → ClassId) (X : va_W) (ad : Nat → Nat) (Z : ZT) (M : MT) (as : List Value) (post : Option Value → MT → Prop) : Prop :=
  ∀ sz : Nat, Met l y (.code y cc nL ret :: tbG) rm (PFS cs cv z D cy X sz as ad Z M) (QF D cy X (va_A (X ++ wl cy ad Z M) sz) (fun v ad' Z' M1 => ad' = ad ∧ Z' = Z ∧ post v M1)) rm.cells rm.slots (va_A (X ++ wl cy ad Z M) sz)
theorem CtS.of {cs cv : Nat → Nat} {z : Value} {l : Launch} {y : MethodName} {cc : ByteArray} {nL : Nat} {ret : Option FieldType} {rm : Room} {D : va_G} {cy : Nat → ClassId} {X : va_W} {ad : Nat → Nat} {Z : ZT} {M : MT} {as : List Value} {post : Option Value → MT → Prop} (hy : plainName y.cls = true) (ha : (lg_sl as).length ≤ nL)
    (body : ∀ K : KT, SW cs cv z (kA K) (ks K) → Fx K cc y.cls nL rm → FQ K ret rm (fun v ad' Z' M1 => ad' = ad ∧ Z' = Z ∧ post v M1) → (kmt K).name = y.name → kl K = l → kD K = D → ky K = cy → kX K = X → V K ad 0 0 Z M 0 (lv_args 0 as) []) : CtS cs cv z l y cc nL ret rm D cy X ad Z M as post := by
  intro sz
  refine Met.ofW (cc := cc) (maxL := nL) (ret := ret) hy rfl ?_
  intro p e s m args below meth c s₁ B hml hv
  obtain ⟨rfl, hsz, hK, hz, hP, hD0, hw⟩ := hv
  subst hsz
  have hts := atoms_spec (ws := .code y cc nL ret :: tbG) B.pre
  have hb := body (p, l, e, (headSpec (.code y cc nL ret :: tbG) rm).room, s, m, as.toArray, below, meth, c, MQ below (QF D cy X (va_A (X ++ wl cy ad Z M) s.heap.size) (fun v ad' Z' M1 => ad' = ad ∧ Z' = Z ∧ post v M1)) as.toArray s rm.cells rm.slots (va_A (X ++ wl cy ad Z M) s.heap.size), D, cy, va_A (X ++ wl cy ad Z M) s.heap.size, nL, X) hw
    ⟨B.exec, B.bytes, hml, rfl, findClass_of_methodNamed B.named, fun w h => hts w (List.mem_cons_of_mem _ h), hK, fun q h => Or.inr h, rfl, B.notSynchronized⟩ ⟨B.returns, rfl⟩ (name_of_methodNamed B.named B.method).1 rfl rfl rfl rfl
  have hl := lv_entry as (n := nL) ha
  rw [lg_entry_eq]
  exact hb s.heap [] _ hz hP hD0.self va_S.rf hl
theorem CtS.mono {cs cv : Nat → Nat} {z : Value} {l : Launch} {y : MethodName} {cc : ByteArray} {nL : Nat} {ret : Option FieldType} {rm : Room} {D : va_G} {cy : Nat → ClassId} {X : va_W} {ad : Nat → Nat} {Z : ZT} {M : MT} {as : List Value} {post post2 : Option Value → MT → Prop} (h : CtS cs cv z l y cc nL ret rm D cy X ad Z M as post) (hp : ∀ v M', post v M' → post2 v M') : CtS cs cv z l y cc nL ret rm D cy X ad Z M as post2 := by
  intro sz
  have h1 := h sz
  intro p e ha hc hk s m args below hf happ hP hT
  obtain ⟨k, o, g1, g2, g3, ⟨⟨v, ad', Z', M', e1, ⟨e2, e3, e4⟩, e5, e6, e7⟩, g5⟩, g6⟩ := h1 p e ha hc hk s m args below hf happ hP hT
  exact ⟨k, o, g1, g2, g3, ⟨⟨v, ad', Z', M', e1, ⟨e2, e3, hp _ _ e4⟩, e5, e6, e7⟩, g5⟩, g6⟩
section SR
variable {cs cv : Nat → Nat} {z : Value} {K : KT} {cc : ByteArray} {own : String} {nL : Nat} {rm : Room} {ad : Nat → Nat} {n1 n2 : Nat} {Z : ZT} {M : MT} {pc : Nat} {lv : List (Nat × Value)} {st : List Value} {y : MethodName} {bytes : ByteArray} {maxL idx n : Nat} {ret : Option FieldType} {rm2 : Room} {As rest as : List Value} {post : Option Value → MT → Prop}
theorem PFS.blind {D : va_G} {cy : Nat → ClassId} {X : va_W} {sz : Nat} : FrameBlind (PFS cs cv z D cy X sz as ad Z M) := fun a U g mk q => by
  obtain ⟨q0, q1, q2, q3, q4, q5, q6⟩ := q
  exact ⟨q0, q1, q2.calling, q3, q4, q5, q6.calling⟩
theorem PFS.pre (f : Fx K cc own nL rm) (hw : SW cs cv z (kA K) (ks K)) {H : Heap} {locs : List Loc} (hz : zok Z) (hP : va_P (kD K) vwCl (kX K ++ wl (ky K) ad Z M) H) (hD : va_D (kA K) (kX K ++ wl (ky K) ad Z M)) (hS : va_S (kA K) (ks K).heap H locs) : ∀ U : State, U.heap = H → (ks K).WarmedH U.vm → PFS cs cv z (kD K) (ky K) (kX K) H.size as ad Z M as.toArray U := fun U hU hW => ⟨rfl, by rw [hU], f.2.2.2.2.2.2.1.warm hW, hz, by rw [hU]; exact hP, hD.weaken (fun _ _ _ _ => trivial), hw.go hS hU hW (by
    intro q hq
    rcases hq with ⟨k, e, h⟩ | h
    · exact hD.2 k (q, e) h
    · exact f.2.2.2.2.2.2.2.1 q (Nat.le_trans hS.1 h))⟩
theorem V_cVs (f : Fx K cc own nL rm) (hw : SW cs cv z (kA K) (ks K)) (hd : decode cc pc = .ok (.invokevirtual idx, 3)) (lk : LK own idx y bytes maxL ret n) (hl1 : Cond.methodLink own idx y ∈ tbG) (hin : Cond.instanceMethod y ∈ tbG) (hse : Cond.selects y.cls y y ∈ tbG) {i ci zn : Nat} {rs : List (Option Nat)} {T : u_T} {N : Nat} (hi : Z[i]? = some (ci, zn, rs)) (hci : ci < 10) (hc : vwCl[ci]? = some (y.cls, T, N)) (hM : CtS cs cv z (kl K) y bytes maxL ret rm2 (kD K) (ky K) (kX K) ad Z M (.ref (ad i) :: As) post) (hn : As.length = n) (hcat : (rest.map fun v => v.category).sum ≤ 8) (hst : st = As.reverse ++ .ref (ad i) :: rest) (hR : rm2.frames + 1 ≤ rm.frames ∧ 8 + (maxL + 11) + rm2.locals ≤ rm.locals) (hC : n1 ≤ rm.cells ∧ n2 ≤ rm.slots) (z1 : rm2.cells = 0) (z2 : rm2.slots = 0) (kk : ∀ v M1, post v M1 → V K ad n1 n2 Z M1 (pc + 3) lv (v.toList ++ rest)) : V K ad n1 n2 Z M pc lv st := fun H locs ls hz hP hD hS hl => by
  subst hst
  have ht := f.2.2.2.2.2.1
  have hRm := f.2.2.2.2.2.2.2.2.1
  have he := wl_get (cy := ky K) (ad := ad) (M := M) (X := kX K) hi
  rw [cE_obj hci] at he
  refine V_behind f (va_runV (C := y.cls) (As := As) (b := ad i) (n := n) (index := idx) (ret := ret) (maxL := maxL) (bytes := bytes) (nL := kn K) (Ts := tbG) ⟨f.1, f.2.1, f.2.2.1, f.2.2.2.2.1, ht⟩ (hM H.size) ⟨callB_of n ht (goodW lk.1) rfl rfl rfl (ht _ lk.2.1) (ht _ hl1) lk.2.2 (by rw [hRm]; exact hR), ht _ hin, ht _ hse⟩ ⟨PFS.blind, va_recv f.2.2.2.2.2.2.1.1 hP hc he, PFS.pre f hw hz hP hD hS⟩ rfl hn hl.1 rfl (lv_room hcat) hd (by rw [hRm, z1, z2]; exact hC)) hD hS hl (fun v ad' Z' M1 hp => by obtain ⟨rfl, rfl, hp⟩ := hp; rw [z1, z2]; exact kk v M1 hp)
theorem V_cSs (f : Fx K cc own nL rm) (hw : SW cs cv z (kA K) (ks K)) (hd : decode cc pc = .ok (.invokestatic idx, 3)) (lk : LK own idx y bytes maxL ret n) (hl1 : Cond.methodLink own idx y ∈ tbG) (hsta : Cond.static y ∈ tbG) (hM : CtS cs cv z (kl K) y bytes maxL ret rm2 (kD K) (ky K) (kX K) ad Z M As post) (hn : As.length = n) (hcat : (rest.map fun v => v.category).sum ≤ 8) (hst : st = As.reverse ++ rest) (hR : rm2.frames + 1 ≤ rm.frames ∧ 8 + (maxL + 11) + rm2.locals ≤ rm.locals) (hC : n1 ≤ rm.cells ∧ n2 ≤ rm.slots) (z1 : rm2.cells = 0) (z2 : rm2.slots = 0) (kk : ∀ v M1, post v M1 → V K ad n1 n2 Z M1 (pc + 3) lv (v.toList ++ rest)) : V K ad n1 n2 Z M pc lv st := fun H locs ls hz hP hD hS hl => by
  subst hst
  have ht := f.2.2.2.2.2.1
  have hRm := f.2.2.2.2.2.2.2.2.1
  refine V_behind f (va_runS (As := As) (n := n) (index := idx) (ret := ret) (maxL := maxL) (bytes := bytes) (nL := kn K) (Ts := tbG) ⟨f.1, f.2.1, f.2.2.1, f.2.2.2.2.1, ht⟩ (hM H.size) ⟨callB_of n ht (goodW lk.1) rfl rfl rfl (ht _ lk.2.1) (ht _ hl1) lk.2.2 (by rw [hRm]; exact hR), ht _ hsta⟩ ⟨PFS.blind, PFS.pre f hw hz hP hD hS⟩ rfl hn hl.1 rfl (lv_room hcat) hd (by rw [hRm, z1, z2]; exact hC)) hD hS hl (fun v ad' Z' M1 hp => by obtain ⟨rfl, rfl, hp⟩ := hp; rw [z1, z2]; exact kk v M1 hp)
/-- a call on a String constant -/
theorem V_cJs (f : Fx K cc own nL rm) (hw : SW cs cv z (kA K) (ks K)) (hd : decode cc pc = .ok (.invokevirtual idx, 3)) (lk : LK own idx y bytes maxL ret n) (hl1 : Cond.methodLink own idx y ∈ tbG) (hin : Cond.instanceMethod y ∈ tbG) (hse : Cond.selects y.cls y y ∈ tbG) (hy : y.cls = "java/lang/String") {i : Nat} (hi : i < 15) (hM : CtS cs cv z (kl K) y bytes maxL ret rm2 (kD K) (ky K) (kX K) ad Z M (.ref (cs i) :: As) post) (hn : As.length = n) (hcat : (rest.map fun v => v.category).sum ≤ 8) (hst : st = As.reverse ++ .ref (cs i) :: rest) (hR : rm2.frames + 1 ≤ rm.frames ∧ 8 + (maxL + 11) + rm2.locals ≤ rm.locals) (hC : n1 ≤ rm.cells ∧ n2 ≤ rm.slots) (z1 : rm2.cells = 0) (z2 : rm2.slots = 0) (kk : ∀ v M1, post v M1 → V K ad n1 n2 Z M1 (pc + 3) lv (v.toList ++ rest)) : V K ad n1 n2 Z M pc lv st := fun H locs ls hz hP hD hS hl => by
  subst hst
  have ht := f.2.2.2.2.2.1
  have hRm := f.2.2.2.2.2.2.2.2.1
  refine V_behind f (va_runV (C := y.cls) (As := As) (b := cs i) (n := n) (index := idx) (ret := ret) (maxL := maxL) (bytes := bytes) (nL := kn K) (Ts := tbG) ⟨f.1, f.2.1, f.2.2.1, f.2.2.2.2.1, ht⟩ (hM H.size) ⟨callB_of n ht (goodW lk.1) rfl rfl rfl (ht _ lk.2.1) (ht _ hl1) lk.2.2 (by rw [hRm]; exact hR), ht _ hin, ht _ hse⟩ ⟨PFS.blind, by rw [hy]; exact vk_recv hw.1 hi hS, PFS.pre f hw hz hP hD hS⟩ rfl hn hl.1 rfl (lv_room hcat) hd (by rw [hRm, z1, z2]; exact hC)) hD hS hl (fun v ad' Z' M1 hp => by obtain ⟨rfl, rfl, hp⟩ := hp; rw [z1, z2]; exact kk v M1 hp)
theorem V_ldcS (f : Fx K cc own nL rm) (hw : SW cs cv z (kA K) (ks K)) (ho : own = RX7) (i : Nat) (hi : i < 15) {idx : Nat} (hx : ixJ.getD i 0 = idx) (hd : decode cc pc = .ok (.ldc idx, 2)) (k : V K ad n1 n2 Z M (pc + 2) lv (.ref (cs i) :: st)) : V K ad n1 n2 Z M pc lv st := fun H locs ls hz hP hD hS hl => by
  have h := hw.2.1 i hi
  rw [hx, ← ho] at h
  exact va_ldcS f.1 f.2.1 f.2.2.2.2.1 h hd (k H locs ls hz hP hD hS hl)
theorem V_strV (f : Fx K cc own nL rm) (hw : SW cs cv z (kA K) (ks K)) {i : Nat} (hi : i < 15) (hlk : Cond.fieldLink own idx "java/lang/String" "value" "[B" ∈ tbG) (hd : decode cc pc = .ok (.getfield idx, 3)) (k : V K ad n1 n2 Z M (pc + 3) lv (.ref (cv i) :: st)) : V K ad n1 n2 Z M pc lv (.ref (cs i) :: st) := fun H locs ls hz hP hD hS hl => vk_getf f.1 f.2.1 (hw.1.1 i hi).2.2.1 hS f.2.2.2.2.1 (f.2.2.2.2.2.1 _ hlk) (fun _ h => h) hd (k H locs ls hz hP hD hS hl)
theorem V_strC (f : Fx K cc own nL rm) (hw : SW cs cv z (kA K) (ks K)) {i : Nat} (hi : i < 15) (hlk : Cond.fieldLink own idx "java/lang/String" "coder" "B" ∈ tbG) (hd : decode cc pc = .ok (.getfield idx, 3)) (k : V K ad n1 n2 Z M (pc + 3) lv (.int 0 :: st)) : V K ad n1 n2 Z M pc lv (.ref (cs i) :: st) := fun H locs ls hz hP hD hS hl => vk_getf f.1 f.2.1 (hw.1.1 i hi).2.1 hS f.2.2.2.2.1 (f.2.2.2.2.2.1 _ hlk) (fun _ h => h) hd (k H locs ls hz hP hD hS hl)
theorem V_strS (f : Fx K cc own nL rm) (hw : SW cs cv z (kA K) (ks K)) (hlk : Cond.fieldLink own idx "java/lang/String" "COMPACT_STRINGS" "Z" ∈ tbG) (hd : decode cc pc = .ok (.getstatic idx, 3)) (k : V K ad n1 n2 Z M (pc + 3) lv (.int 1 :: st)) : V K ad n1 n2 Z M pc lv st := fun H locs ls hz hP hD hS hl => va_gets f.1 f.2.1 hw.2.2.1 hS f.2.2.2.2.1 (f.2.2.2.2.2.1 _ hlk) (fun _ h => h) hd (k H locs ls hz hP hD hS hl)
theorem V_strZ (f : Fx K cc own nL rm) (hw : SW cs cv z (kA K) (ks K)) (hlk : Cond.fieldLink own idx "jdk/internal/util/Preconditions" "SIOOBE_FORMATTER" "Ljava/util/function/BiFunction;" ∈ tbG) (hd : decode cc pc = .ok (.getstatic idx, 3)) (k : V K ad n1 n2 Z M (pc + 3) lv (z :: st)) : V K ad n1 n2 Z M pc lv st := fun H locs ls hz hP hD hS hl => va_gets f.1 f.2.1 hw.2.2.2.1 hS f.2.2.2.2.1 (f.2.2.2.2.2.1 _ hlk) (fun _ h => h) hd (k H locs ls hz hP hD hS hl)
theorem V_strL (f : Fx K cc own nL rm) (hw : SW cs cv z (kA K) (ks K)) {i : Nat} (hi : i < 15) (hd : decode cc pc = .ok (.arraylength, 1)) (k : V K ad n1 n2 Z M (pc + 1) lv (.int (Int32.ofNat (lenJ.getD i 0)) :: st)) : V K ad n1 n2 Z M pc lv (.ref (cv i) :: st) := fun H locs ls hz hP hD hS hl => va_tlen f.1 f.2.1 (hw.1.1 i hi).2.2.2 hS rfl hd (k H locs ls hz hP hD hS hl)
theorem V_strB (f : Fx K cc own nL rm) (hw : SW cs cv z (kA K) (ks K)) {i : Nat} (hi : i < 15) {j : Int32} (hj : vp_in j (lenJ.getD i 0)) (hd : decode cc pc = .ok (.baload, 1)) (k : V K ad n1 n2 Z M (pc + 1) lv (.int ((bytJ.getD i []).getD j.toNatClampNeg 0) :: st)) : V K ad n1 n2 Z M pc lv (.int j :: .ref (cv i) :: st) := fun H locs ls hz hP hD hS hl => va_tb f.1 f.2.1 (hw.1.1 i hi).2.2.2 hS hj rfl hd (k H locs ls hz hP hD hS hl)
theorem V_i2c (f : Fx K cc own nL rm) {x v : Int32} (hd : decode cc pc = .ok (.i2c, 1)) (hv : (x.toUInt32 % 65536).toInt32 = v) (k : V K ad n1 n2 Z M (pc + 1) lv (.int v :: st)) : V K ad n1 n2 Z M pc lv (.int x :: st) := fun H locs ls hz hP hD hS hl => lv_i2c f.1 f.2.1 hd hv (k H locs ls hz hP hD hS hl)
theorem V_pop (f : Fx K cc own nL rm) {va : Value} (hd : decode cc pc = .ok (.pop, 1)) (hv : va.category = 1) (k : V K ad n1 n2 Z M (pc + 1) lv st) : V K ad n1 n2 Z M pc lv (va :: st) := fun H locs ls hz hP hD hS hl => lv_pop f.1 f.2.1 hd hv (k H locs ls hz hP hD hS hl)
end SR
theorem jini_0 : Cond.initialized RJ0 ∈ tbG := tbG_in 53 (by decide +kernel) (by decide +kernel)
theorem jini_1 : Cond.initialized RJ1 ∈ tbG := tbG_in 54 (by decide +kernel) (by decide +kernel)
theorem jini_3 : Cond.initialized RJ3 ∈ tbG := tbG_in 55 (by decide +kernel) (by decide +kernel)
theorem lk_J0_335 : LK RJ0 335 yJ0_coder_7d493 cJ0_coder_7d493 1 (some .byte) 0 := ⟨tbG_in 579 (by decide +kernel) (by decide +kernel), jini_0, by decide +kernel⟩
theorem ml_J0_335 : Cond.methodLink RJ0 335 yJ0_coder_7d493 ∈ tbG := tbG_in 576 (by decide +kernel) (by decide +kernel)
theorem lk_J0_492 : LK RJ0 492 yJ0_isLatin1_aae02 cJ0_isLatin1_aae02 1 (some .boolean) 0 := ⟨tbG_in 589 (by decide +kernel) (by decide +kernel), jini_0, by decide +kernel⟩
theorem ml_J0_492 : Cond.methodLink RJ0 492 yJ0_isLatin1_aae02 ∈ tbG := tbG_in 586 (by decide +kernel) (by decide +kernel)
theorem lk_J0_495 : LK RJ0 495 yJ1_charAt_3b067 cJ1_charAt_3b067 2 (some .char) 2 := ⟨tbG_in 592 (by decide +kernel) (by decide +kernel), jini_1, by decide +kernel⟩
theorem ml_J0_495 : Cond.methodLink RJ0 495 yJ1_charAt_3b067 ∈ tbG := tbG_in 590 (by decide +kernel) (by decide +kernel)
theorem lk_J1_9 : LK RJ1 9 yJ0_checkIndex_df160 cJ0_checkIndex_df160 2 none 2 := ⟨tbG_in 595 (by decide +kernel) (by decide +kernel), jini_0, by decide +kernel⟩
theorem ml_J1_9 : Cond.methodLink RJ1 9 yJ0_checkIndex_df160 ∈ tbG := tbG_in 593 (by decide +kernel) (by decide +kernel)
theorem lk_J0_1059 : LK RJ0 1059 yJ3_checkIndex_8e157 cJ3_checkIndex_8e157 3 (some .int) 3 := ⟨tbG_in 600 (by decide +kernel) (by decide +kernel), jini_3, by decide +kernel⟩
theorem ml_J0_1059 : Cond.methodLink RJ0 1059 yJ3_checkIndex_8e157 ∈ tbG := tbG_in 598 (by decide +kernel) (by decide +kernel)
theorem lk_X7_69 : LK RX7 69 yJ0_length_8abf5 cJ0_length_8abf5 1 (some .int) 0 := ⟨tbG_in 575 (by decide +kernel) (by decide +kernel), jini_0, by decide +kernel⟩
theorem ml_X7_69 : Cond.methodLink RX7 69 yJ0_length_8abf5 ∈ tbG := tbG_in 572 (by decide +kernel) (by decide +kernel)
theorem lk_X7_75 : LK RX7 75 yJ0_charAt_5068e cJ0_charAt_5068e 2 (some .char) 1 := ⟨tbG_in 585 (by decide +kernel) (by decide +kernel), jini_0, by decide +kernel⟩
theorem ml_X7_75 : Cond.methodLink RX7 75 yJ0_charAt_5068e ∈ tbG := tbG_in 582 (by decide +kernel) (by decide +kernel)
theorem ins_J0_length_8abf5 : Cond.instanceMethod yJ0_length_8abf5 ∈ tbG := tbG_in 573 (by decide +kernel) (by decide +kernel)
theorem sel_J0_length_8abf5 : Cond.selects yJ0_length_8abf5.cls yJ0_length_8abf5 yJ0_length_8abf5 ∈ tbG := tbG_in 574 (by decide +kernel) (by decide +kernel)
theorem ins_J0_charAt_5068e : Cond.instanceMethod yJ0_charAt_5068e ∈ tbG := tbG_in 583 (by decide +kernel) (by decide +kernel)
theorem sel_J0_charAt_5068e : Cond.selects yJ0_charAt_5068e.cls yJ0_charAt_5068e yJ0_charAt_5068e ∈ tbG := tbG_in 584 (by decide +kernel) (by decide +kernel)
theorem ins_J0_coder_7d493 : Cond.instanceMethod yJ0_coder_7d493 ∈ tbG := tbG_in 577 (by decide +kernel) (by decide +kernel)
theorem sel_J0_coder_7d493 : Cond.selects yJ0_coder_7d493.cls yJ0_coder_7d493 yJ0_coder_7d493 ∈ tbG := tbG_in 578 (by decide +kernel) (by decide +kernel)
theorem ins_J0_isLatin1_aae02 : Cond.instanceMethod yJ0_isLatin1_aae02 ∈ tbG := tbG_in 587 (by decide +kernel) (by decide +kernel)
theorem sel_J0_isLatin1_aae02 : Cond.selects yJ0_isLatin1_aae02.cls yJ0_isLatin1_aae02 yJ0_isLatin1_aae02 ∈ tbG := tbG_in 588 (by decide +kernel) (by decide +kernel)
theorem sta_J0_checkIndex_df160 : Cond.static yJ0_checkIndex_df160 ∈ tbG := tbG_in 594 (by decide +kernel) (by decide +kernel)
theorem sta_J1_charAt_3b067 : Cond.static yJ1_charAt_3b067 ∈ tbG := tbG_in 591 (by decide +kernel) (by decide +kernel)
theorem sta_J3_checkIndex_8e157 : Cond.static yJ3_checkIndex_8e157 ∈ tbG := tbG_in 599 (by decide +kernel) (by decide +kernel)
theorem jf_9 : Cond.fieldLink RJ0 9 "java/lang/String" "value" "[B" ∈ tbG := tbG_in 1096 (by decide +kernel) (by decide +kernel)
theorem jf_15 : Cond.fieldLink RJ0 15 "java/lang/String" "coder" "B" ∈ tbG := tbG_in 1097 (by decide +kernel) (by decide +kernel)
theorem jf_38 : Cond.fieldLink RJ0 38 "java/lang/String" "COMPACT_STRINGS" "Z" ∈ tbG := tbG_in 580 (by decide +kernel) (by decide +kernel)
theorem jf_1053 : Cond.fieldLink RJ0 1053 "jdk/internal/util/Preconditions" "SIOOBE_FORMATTER" "Ljava/util/function/BiFunction;" ∈ tbG := tbG_in 596 (by decide +kernel) (by decide +kernel)
set_option maxHeartbeats 4000000 in
set_option maxRecDepth 100000 in
theorem c_J0_coder_7d493 (cs cv : Nat → Nat) (z : Value) (l : Launch) (D : va_G) (cy : Nat → ClassId) (X : va_W) (ad : Nat → Nat) {Z : ZT} (M : MT) (i : Nat) (hi : i < 15) : CtS cs cv z l yJ0_coder_7d493 cJ0_coder_7d493 1 (some .byte) (rK 0) D cy X ad Z M [.ref (cs i)] (fun v M1 => v = some (.int 0) ∧ M1 = M) := by
  refine CtS.of (by decide +kernel) (Nat.le_of_ble_eq_true rfl) ?_
  intro K hw f q hnm hl0 hD0 hy0 hX0
  show V K ad 0 0 Z M 0 [(0, .ref (cs i))] []
  refine V_strS f hw jf_38 dJ0_coder_7d493_0 ?_
  refine V_if_eq (tgt := 13) f dJ0_coder_7d493_3 (by decide) (fun h => absurd h (by decide)) (fun _ => ?_)
  refine V_aload_n f dJ0_coder_7d493_6 0 rfl ?_
  refine V_strC f hw hi jf_15 dJ0_coder_7d493_7 ?_
  refine V_goto (tgt := 14) f dJ0_coder_7d493_10 (by decide) ?_
  exact V_iret f q dJ0_coder_7d493_14 rfl (Nat.zero_le _) (Nat.zero_le _) ⟨rfl, rfl, rfl, rfl⟩
set_option maxHeartbeats 4000000 in
set_option maxRecDepth 100000 in
theorem c_J0_isLatin1_aae02 (cs cv : Nat → Nat) (z : Value) (l : Launch) (D : va_G) (cy : Nat → ClassId) (X : va_W) (ad : Nat → Nat) {Z : ZT} (M : MT) (i : Nat) (hi : i < 15) : CtS cs cv z l yJ0_isLatin1_aae02 cJ0_isLatin1_aae02 1 (some .boolean) (rK 0) D cy X ad Z M [.ref (cs i)] (fun v M1 => v = some (.int 1) ∧ M1 = M) := by
  refine CtS.of (by decide +kernel) (Nat.le_of_ble_eq_true rfl) ?_
  intro K hw f q hnm hl0 hD0 hy0 hX0
  show V K ad 0 0 Z M 0 [(0, .ref (cs i))] []
  refine V_strS f hw jf_38 dJ0_isLatin1_aae02_0 ?_
  refine V_if_eq (tgt := 17) f dJ0_isLatin1_aae02_3 (by decide) (fun h => absurd h (by decide)) (fun _ => ?_)
  refine V_aload_n f dJ0_isLatin1_aae02_6 0 rfl ?_
  refine V_strC f hw hi jf_15 dJ0_isLatin1_aae02_7 ?_
  refine V_if_ne (tgt := 17) f dJ0_isLatin1_aae02_10 (by decide) (fun h => absurd rfl h) (fun _ => ?_)
  refine V_iconst (v := 1) f dJ0_isLatin1_aae02_13 (by decide) ?_
  refine V_goto (tgt := 18) f dJ0_isLatin1_aae02_14 (by decide) ?_
  exact V_iret f q dJ0_isLatin1_aae02_18 rfl (Nat.zero_le _) (Nat.zero_le _) ⟨rfl, rfl, rfl, rfl⟩
theorem sh0 : ∀ i, i < 15 → Int32.ofNat (lenJ.getD i 0) >>> ((0 : Int32) &&& 31) = Int32.ofNat (lenJ.getD i 0) := by decide +kernel
theorem ch0 : ∀ i, i < 15 → ∀ k, k < lenJ.getD i 0 → ((((bytJ.getD i []).getD k 0) &&& 255).toUInt32 % 65536).toInt32 = (bytJ.getD i []).getD k 0 ∧ narrow .char (.int ((bytJ.getD i []).getD k 0)) = .int ((bytJ.getD i []).getD k 0) := by decide +kernel
set_option maxHeartbeats 4000000 in
set_option maxRecDepth 100000 in
theorem c_J0_length_8abf5 (cs cv : Nat → Nat) (z : Value) (l : Launch) (D : va_G) (cy : Nat → ClassId) (X : va_W) (ad : Nat → Nat) {Z : ZT} (M : MT) (i : Nat) (hi : i < 15) : CtS cs cv z l yJ0_length_8abf5 cJ0_length_8abf5 1 (some .int) (rK 1) D cy X ad Z M [.ref (cs i)] (fun v M1 => v = some (.int (Int32.ofNat (lenJ.getD i 0))) ∧ M1 = M) := by
  refine CtS.of (by decide +kernel) (Nat.le_of_ble_eq_true rfl) ?_
  intro K hw f q hnm hl0 hD0 hy0 hX0
  show V K ad 0 0 Z M 0 [(0, .ref (cs i))] []
  refine V_aload_n f dJ0_length_8abf5_0 0 rfl ?_
  refine V_strV f hw hi jf_9 dJ0_length_8abf5_1 ?_
  refine V_strL f hw hi dJ0_length_8abf5_4 ?_
  refine V_aload_n f dJ0_length_8abf5_5 0 rfl ?_
  refine V_cJs (As := []) (rest := [.int (Int32.ofNat (lenJ.getD i 0))]) f hw dJ0_length_8abf5_6 lk_J0_335 ml_J0_335 ins_J0_coder_7d493 sel_J0_coder_7d493 rfl hi (c_J0_coder_7d493 cs cv z _ _ _ _ ad M i hi) rfl (Nat.le_of_ble_eq_true rfl) rfl ⟨by decide, by decide⟩ ⟨Nat.zero_le _, Nat.zero_le _⟩ rfl rfl (fun v1 M1 hp => ?_)
  obtain ⟨rfl, e⟩ := hp
  rw [e]
  show V K ad 0 0 Z M 9 [(0, .ref (cs i))] [.int 0, .int (Int32.ofNat (lenJ.getD i 0))]
  refine V_ishr f dJ0_length_8abf5_9 ?_
  rw [sh0 i hi]
  exact V_iret f q dJ0_length_8abf5_10 rfl (Nat.zero_le _) (Nat.zero_le _) ⟨rfl, rfl, rfl, rfl⟩
set_option maxHeartbeats 4000000 in
set_option maxRecDepth 100000 in
theorem c_J3_checkIndex_8e157 (cs cv : Nat → Nat) (z : Value) (l : Launch) (D : va_G) (cy : Nat → ClassId) (X : va_W) (ad : Nat → Nat) {Z : ZT} (M : MT) (a b : Int32) (ha : ¬ a < 0) (hb : a < b) (hz : z = .null ∨ ∃ t, z = .ref t) : CtS cs cv z l yJ3_checkIndex_8e157 cJ3_checkIndex_8e157 3 (some .int) (rK 0) D cy X ad Z M [.int a, .int b, z] (fun v M1 => v = some (.int a) ∧ M1 = M) := by
  rcases hz with rfl | ⟨t, rfl⟩
  all_goals refine CtS.of (by decide +kernel) (Nat.le_of_ble_eq_true rfl) ?_
  all_goals intro K hw f q hnm hl0 hD0 hy0 hX0
  · show V K ad 0 0 Z M 0 [(0, .int a), (1, .int b), (2, .null)] []
    refine V_iload_n f dJ3_checkIndex_8e157_0 0 rfl ?_
    refine V_if_lt (tgt := 9) f dJ3_checkIndex_8e157_1 (by decide) (fun h => absurd h ha) (fun _ => ?_)
    refine V_iload_n f dJ3_checkIndex_8e157_4 0 rfl ?_
    refine V_iload_n f dJ3_checkIndex_8e157_5 1 rfl ?_
    refine V_icmp_lt (tgt := 16) f dJ3_checkIndex_8e157_6 (by decide) (fun _ => ?_) (fun h => absurd hb h)
    refine V_iload_n f dJ3_checkIndex_8e157_16 0 rfl ?_
    exact V_iret f q dJ3_checkIndex_8e157_17 rfl (Nat.zero_le _) (Nat.zero_le _) ⟨rfl, rfl, rfl, rfl⟩
  · show V K ad 0 0 Z M 0 [(0, .int a), (1, .int b), (2, .ref t)] []
    refine V_iload_n f dJ3_checkIndex_8e157_0 0 rfl ?_
    refine V_if_lt (tgt := 9) f dJ3_checkIndex_8e157_1 (by decide) (fun h => absurd h ha) (fun _ => ?_)
    refine V_iload_n f dJ3_checkIndex_8e157_4 0 rfl ?_
    refine V_iload_n f dJ3_checkIndex_8e157_5 1 rfl ?_
    refine V_icmp_lt (tgt := 16) f dJ3_checkIndex_8e157_6 (by decide) (fun _ => ?_) (fun h => absurd hb h)
    refine V_iload_n f dJ3_checkIndex_8e157_16 0 rfl ?_
    exact V_iret f q dJ3_checkIndex_8e157_17 rfl (Nat.zero_le _) (Nat.zero_le _) ⟨rfl, rfl, rfl, rfl⟩
set_option maxHeartbeats 4000000 in
set_option maxRecDepth 100000 in
theorem c_J0_checkIndex_df160 (cs cv : Nat → Nat) (z : Value) (l : Launch) (D : va_G) (cy : Nat → ClassId) (X : va_W) (ad : Nat → Nat) {Z : ZT} (M : MT) (a b : Int32) (ha : ¬ a < 0) (hb : a < b) : CtS cs cv z l yJ0_checkIndex_df160 cJ0_checkIndex_df160 2 none (rK 1) D cy X ad Z M [.int a, .int b] (fun v M1 => v = none ∧ M1 = M) := by
  refine CtS.of (by decide +kernel) (Nat.le_of_ble_eq_true rfl) ?_
  intro K hw f q hnm hl0 hD0 hy0 hX0
  show V K ad 0 0 Z M 0 [(0, .int a), (1, .int b)] []
  refine V_iload_n f dJ0_checkIndex_df160_0 0 rfl ?_
  refine V_iload_n f dJ0_checkIndex_df160_1 1 rfl ?_
  refine V_strZ f hw jf_1053 dJ0_checkIndex_df160_2 ?_
  refine V_cSs (As := [.int a, .int b, z]) (rest := []) f hw dJ0_checkIndex_df160_5 lk_J0_1059 ml_J0_1059 sta_J3_checkIndex_8e157 (c_J3_checkIndex_8e157 cs cv z _ _ _ _ ad M a b ha hb hw.2.2.2.2) rfl (Nat.le_of_ble_eq_true rfl) rfl ⟨by decide, by decide⟩ ⟨Nat.zero_le _, Nat.zero_le _⟩ rfl rfl (fun v1 M1 hp => ?_)
  obtain ⟨rfl, e⟩ := hp
  rw [e]
  show V K ad 0 0 Z M 8 [(0, .int a), (1, .int b)] [.int a]
  refine V_pop f dJ0_checkIndex_df160_8 rfl ?_
  exact V_vret f q dJ0_checkIndex_df160_9 (Nat.zero_le _) (Nat.zero_le _) ⟨rfl, rfl, rfl, rfl⟩
theorem vin_lt {k : Int32} : ∀ i, i < 15 → vp_in k (lenJ.getD i 0) → ¬ k < 0 ∧ k < Int32.ofNat (lenJ.getD i 0) := by
  have hl : ∀ i, i < 15 → lenJ.getD i 0 ≤ 5 := by decide +kernel
  intro i hi h
  have h5 := hl i hi
  rw [vp_in_iff] at h
  have e0 : (0 : Int32).toInt = 0 := by decide
  have en : (Int32.ofNat (lenJ.getD i 0)).toInt = lenJ.getD i 0 := nI_toInt (by omega)
  refine ⟨by rw [Int32.lt_iff_toInt_lt]; omega, by rw [Int32.lt_iff_toInt_lt, en]; omega⟩
set_option maxHeartbeats 4000000 in
set_option maxRecDepth 100000 in
theorem c_J1_charAt_3b067 (cs cv : Nat → Nat) (z : Value) (l : Launch) (D : va_G) (cy : Nat → ClassId) (X : va_W) (ad : Nat → Nat) {Z : ZT} (M : MT) (i : Nat) (hi : i < 15) (k : Int32) (hk : vp_in k (lenJ.getD i 0)) : CtS cs cv z l yJ1_charAt_3b067 cJ1_charAt_3b067 2 (some .char) (rK 2) D cy X ad Z M [.ref (cv i), .int k] (fun v M1 => v = some (.int ((bytJ.getD i []).getD k.toNatClampNeg 0)) ∧ M1 = M) := by
  refine CtS.of (by decide +kernel) (Nat.le_of_ble_eq_true rfl) ?_
  intro K hw f q hnm hl0 hD0 hy0 hX0
  show V K ad 0 0 Z M 0 [(0, .ref (cv i)), (1, .int k)] []
  refine V_iload_n f dJ1_charAt_3b067_0 1 rfl ?_
  refine V_aload_n f dJ1_charAt_3b067_1 0 rfl ?_
  refine V_strL f hw hi dJ1_charAt_3b067_2 ?_
  refine V_cSs (As := [.int k, .int (Int32.ofNat (lenJ.getD i 0))]) (rest := []) f hw dJ1_charAt_3b067_3 lk_J1_9 ml_J1_9 sta_J0_checkIndex_df160 (c_J0_checkIndex_df160 cs cv z _ _ _ _ ad M _ _ (vin_lt i hi hk).1 (vin_lt i hi hk).2) rfl (Nat.le_of_ble_eq_true rfl) rfl ⟨by decide, by decide⟩ ⟨Nat.zero_le _, Nat.zero_le _⟩ rfl rfl (fun v1 M1 hp => ?_)
  obtain ⟨rfl, e⟩ := hp
  rw [e]
  show V K ad 0 0 Z M 6 [(0, .ref (cv i)), (1, .int k)] []
  refine V_aload_n f dJ1_charAt_3b067_6 0 rfl ?_
  refine V_iload_n f dJ1_charAt_3b067_7 1 rfl ?_
  refine V_strB f hw hi hk dJ1_charAt_3b067_8 ?_
  refine V_sipush (v := 255) f dJ1_charAt_3b067_9 (by decide) ?_
  refine V_iand f dJ1_charAt_3b067_12 ?_
  refine V_i2c f dJ1_charAt_3b067_13 (ch0 i hi _ (vlt hk)).1 ?_
  exact V_iret f q dJ1_charAt_3b067_14 (ch0 i hi _ (vlt hk)).2 (Nat.zero_le _) (Nat.zero_le _) ⟨rfl, rfl, rfl, rfl⟩
set_option maxHeartbeats 4000000 in
set_option maxRecDepth 100000 in
theorem c_J0_charAt_5068e (cs cv : Nat → Nat) (z : Value) (l : Launch) (D : va_G) (cy : Nat → ClassId) (X : va_W) (ad : Nat → Nat) {Z : ZT} (M : MT) (i : Nat) (hi : i < 15) (k : Int32) (hk : vp_in k (lenJ.getD i 0)) : CtS cs cv z l yJ0_charAt_5068e cJ0_charAt_5068e 2 (some .char) (rK 3) D cy X ad Z M [.ref (cs i), .int k] (fun v M1 => v = some (.int ((bytJ.getD i []).getD k.toNatClampNeg 0)) ∧ M1 = M) := by
  refine CtS.of (by decide +kernel) (Nat.le_of_ble_eq_true rfl) ?_
  intro K hw f q hnm hl0 hD0 hy0 hX0
  show V K ad 0 0 Z M 0 [(0, .ref (cs i)), (1, .int k)] []
  refine V_aload_n f dJ0_charAt_5068e_0 0 rfl ?_
  refine V_cJs (As := []) (rest := []) f hw dJ0_charAt_5068e_1 lk_J0_492 ml_J0_492 ins_J0_isLatin1_aae02 sel_J0_isLatin1_aae02 rfl hi (c_J0_isLatin1_aae02 cs cv z _ _ _ _ ad M i hi) rfl (Nat.le_of_ble_eq_true rfl) rfl ⟨by decide, by decide⟩ ⟨Nat.zero_le _, Nat.zero_le _⟩ rfl rfl (fun v1 M1 hp => ?_)
  obtain ⟨rfl, e⟩ := hp
  rw [e]
  show V K ad 0 0 Z M 4 [(0, .ref (cs i)), (1, .int k)] [.int 1]
  refine V_if_eq (tgt := 16) f dJ0_charAt_5068e_4 (by decide) (fun h => absurd h (by decide)) (fun _ => ?_)
  refine V_aload_n f dJ0_charAt_5068e_7 0 rfl ?_
  refine V_strV f hw hi jf_9 dJ0_charAt_5068e_8 ?_
  refine V_iload_n f dJ0_charAt_5068e_11 1 rfl ?_
  refine V_cSs (As := [.ref (cv i), .int k]) (rest := []) f hw dJ0_charAt_5068e_12 lk_J0_495 ml_J0_495 sta_J1_charAt_3b067 (c_J1_charAt_3b067 cs cv z _ _ _ _ ad M i hi k hk) rfl (Nat.le_of_ble_eq_true rfl) rfl ⟨by decide, by decide⟩ ⟨Nat.zero_le _, Nat.zero_le _⟩ rfl rfl (fun v1 M1 hp => ?_)
  obtain ⟨rfl, e⟩ := hp
  rw [e]
  show V K ad 0 0 Z M 15 [(0, .ref (cs i)), (1, .int k)] [.int ((bytJ.getD i []).getD k.toNatClampNeg 0)]
  exact V_iret f q dJ0_charAt_5068e_15 (ch0 i hi _ (vlt hk)).2 (Nat.zero_le _) (Nat.zero_le _) ⟨rfl, rfl, rfl, rfl⟩

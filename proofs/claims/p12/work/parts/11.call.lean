/-! contracts over (Z, M), their entry, their end, calls, new cells -/
def PF (D : va_G) (cy : Nat → ClassId) (X : va_W) (sz : Nat) (as : List Value) (ad : Nat → Nat) (Z : ZT) (M : MT) : Array Value → State → Prop := va_Pc as (fun U => U.heap.size = sz ∧ KK D cy U ∧ zok Z ∧ va_P D vwCl (X ++ wl cy ad Z M) U.heap ∧ va_D (fun _ => True) (X ++ wl cy ad Z M))
def QF (D : va_G) (cy : Nat → ClassId) (X : va_W) (A : Nat → Prop) (post : Option Value → (Nat → Nat) → ZT → MT → Prop) : Array Value → State → Outcome → State → Prop := fun _ st oc t => (∃ (v : Option Value) (ad' : Nat → Nat) (Z' : ZT) (M' : MT), oc = .returned v ∧ post v ad' Z' M' ∧ zok Z' ∧ va_P D vwCl (X ++ wl cy ad' Z' M') t.heap ∧ va_D A (X ++ wl cy ad' Z' M')) ∧ va_F A st t
/-- a method's contract: from the cells (Z, M) at 'ad', with the arguments 'as', it ends with 'post' -/
def Ctr (l : Launch) (y : MethodName) (cc : ByteArray) (nL : Nat) (ret : Option FieldType) (rm : Room) (D : va_G) (cy : Nat → ClassId) (X : va_W) (ad : Nat → Nat) (Z : ZT) (M : MT) (as : List Value) (post : Option Value → (Nat → Nat) → ZT → MT → Prop) : Prop :=
  ∀ sz : Nat, Met l y (.code y cc nL ret :: tbG) rm (PF D cy X sz as ad Z M) (QF D cy X (va_A (X ++ wl cy ad Z M) sz) post) rm.cells rm.slots (va_A (X ++ wl cy ad Z M) sz)
/-- the goal of a walk is a contract's end -/
def FQ (K : KT) (ret : Option FieldType) (rm : Room) (post : Option Value → (Nat → Nat) → ZT → MT → Prop) : Prop :=
  (kmt K).sig.returnType = ret ∧ kQ K = MQ (kb K) (QF (kD K) (ky K) (kX K) (kA K) post) (ka K) (ks K) rm.cells rm.slots (kA K)
theorem Ctr.of {l : Launch} {y : MethodName} {cc : ByteArray} {nL : Nat} {ret : Option FieldType} {rm : Room} {D : va_G} {cy : Nat → ClassId} {X : va_W} {ad : Nat → Nat} {Z : ZT} {M : MT} {as : List Value} {post : Option Value → (Nat → Nat) → ZT → MT → Prop} (hy : plainName y.cls = true) (ha : (lg_sl as).length ≤ nL)
    (body : ∀ K : KT, Fx K cc y.cls nL rm → FQ K ret rm post → (kmt K).name = y.name → kl K = l → kD K = D → ky K = cy → kX K = X → V K ad 0 0 Z M 0 (lv_args 0 as) []) : Ctr l y cc nL ret rm D cy X ad Z M as post := by
  intro sz
  refine Met.ofW (cc := cc) (maxL := nL) (ret := ret) hy rfl ?_
  intro p e s m args below meth c s₁ B hml hv
  obtain ⟨rfl, hsz, hK, hz, hP, hD0⟩ := hv
  subst hsz
  have hts := atoms_spec (ws := .code y cc nL ret :: tbG) B.pre
  have hb := body (p, l, e, (headSpec (.code y cc nL ret :: tbG) rm).room, s, m, as.toArray, below, meth, c, MQ below (QF D cy X (va_A (X ++ wl cy ad Z M) s.heap.size) post) as.toArray s rm.cells rm.slots (va_A (X ++ wl cy ad Z M) s.heap.size), D, cy, va_A (X ++ wl cy ad Z M) s.heap.size, nL, X)
    ⟨B.exec, B.bytes, hml, rfl, findClass_of_methodNamed B.named, fun w h => hts w (List.mem_cons_of_mem _ h), hK, fun q h => Or.inr h, rfl, B.notSynchronized⟩ ⟨B.returns, rfl⟩ (name_of_methodNamed B.named B.method).1 rfl rfl rfl rfl
  have hl := lv_entry as (n := nL) ha
  rw [lg_entry_eq]
  exact hb s.heap [] _ hz hP hD0.self va_S.rf hl
section CR
variable {K : KT} {cc : ByteArray} {own : String} {nL : Nat} {rm : Room} {ad : Nat → Nat} {n1 n2 : Nat} {Z : ZT} {M : MT} {pc : Nat} {lv : List (Nat × Value)} {st : List Value} {post : Option Value → (Nat → Nat) → ZT → MT → Prop}
theorem FQ.qc {ret : Option FieldType} {H : Heap} {v : Option Value} (hp : post v ad Z M) (hz : zok Z) (hP : va_P (kD K) vwCl (kX K ++ wl (ky K) ad Z M) H) (hD : va_D (kA K) (kX K ++ wl (ky K) ad Z M)) {locs : List Loc} (hS : va_S (kA K) (ks K).heap H locs) (t : State) (ht : t.heap = H) : QF (kD K) (ky K) (kX K) (kA K) post (ka K) (ks K) (.returned v) t := ⟨⟨v, ad, Z, M, rfl, hp, hz, by rw [ht]; exact hP, hD⟩, hS.F ht⟩
theorem V_iret (f : Fx K cc own nL rm) {ty : FieldType} (q : FQ K (some ty) rm post) {x : Int32} (hd : decode cc pc = .ok (.ireturn, 1)) (hn : narrow ty (.int x) = .int x) (h1 : n1 ≤ rm.cells) (h2 : n2 ≤ rm.slots) (hp : post (some (.int x)) ad Z M) : V K ad n1 n2 Z M pc lv [.int x] := fun H locs ls hz hP hD hS hl => by
  refine W.widen h1 h2 ?_
  rw [q.2]
  exact W.zret f.1 f.2.1 q.1 hn (fun t ht _ => FQ.qc (ret := some ty) hp hz hP hD hS t ht) hS.2.2 hd f.2.2.2.2.2.2.2.2.2
theorem V_lret (f : Fx K cc own nL rm) (q : FQ K (some .long) rm post) {x : Int64} (hd : decode cc pc = .ok (.lreturn, 1)) (h1 : n1 ≤ rm.cells) (h2 : n2 ≤ rm.slots) (hp : post (some (.long x)) ad Z M) : V K ad n1 n2 Z M pc lv [.long x] := fun H locs ls hz hP hD hS hl => by
  refine W.widen h1 h2 ?_
  rw [q.2]
  exact W.lret f.1 f.2.1 q.1 (fun t ht _ => FQ.qc (ret := some .long) hp hz hP hD hS t ht) hS.2.2 hd f.2.2.2.2.2.2.2.2.2
theorem V_vret (f : Fx K cc own nL rm) (q : FQ K none rm post) (hd : decode cc pc = .ok (.return_, 1)) (h1 : n1 ≤ rm.cells) (h2 : n2 ≤ rm.slots) (hp : post none ad Z M) : V K ad n1 n2 Z M pc lv [] := fun H locs ls hz hP hD hS hl => by
  refine W.widen h1 h2 ?_
  rw [q.2]
  exact W.vret f.1 f.2.1 q.1 (fun t ht _ => FQ.qc (ret := none) hp hz hP hD hS t ht) hS.2.2 hd f.2.2.2.2.2.2.2.2.2
theorem V_aret (f : Fx K cc own nL rm) {C : String} (q : FQ K (some (.object C)) rm post) {a : Nat} (hd : decode cc pc = .ok (.areturn, 1)) (h1 : n1 ≤ rm.cells) (h2 : n2 ≤ rm.slots) (hp : post (some (.ref a)) ad Z M) : V K ad n1 n2 Z M pc lv [.ref a] := fun H locs ls hz hP hD hS hl => by
  refine W.widen h1 h2 ?_
  rw [q.2]
  exact W.aret f.1 f.2.1 q.1 (Or.inl ⟨_, rfl⟩) (Or.inr ⟨_, rfl⟩) (fun t ht _ => FQ.qc (ret := some (.object C)) hp hz hP hD hS t ht) hS.2.2 hd f.2.2.2.2.2.2.2.2.2
/-- what a call of y needs of the words -/
def LK (own : String) (idx : Nat) (y : MethodName) (bytes : ByteArray) (maxL : Nat) (ret : Option FieldType) (n : Nat) : Prop := Cond.code y bytes maxL ret ∈ tbG ∧ Cond.initialized y.cls ∈ tbG ∧ (y.cls ≠ "java/lang/invoke/MethodHandle" ∧ y.cls ≠ "java/lang/invoke/VarHandle" ∧ (parseMethodDescriptor y.desc).map (fun d => d.parameters.length) = some n)
theorem goodW {c : Cond} (h : c ∈ tbG) : GoodIn tbG (c :: tbG) := fun w hw => by
  rcases List.mem_cons.mp hw with rfl | hw
  · exact tbG_good _ h
  · exact tbG_good _ hw
variable {y : MethodName} {bytes : ByteArray} {maxL idx n : Nat} {ret : Option FieldType} {rm2 : Room} {As rest : List Value} {post2 : Option Value → (Nat → Nat) → ZT → MT → Prop} {as : List Value}
/-- behind a call -/
theorem V_behind {H : Heap} {locs : List Loc} {ls : Array Slot} {st0 : List Value} {a : Array Value} {ad0 : Nat → Nat} (f : Fx K cc own nL rm)
    (hr : va_Run (kp K) (kl K) (ke K) (kR K) (ks K) (km K) (ka K) (kb K) (kmt K) (kc K) H locs n1 n2 rm2.cells rm2.slots (F0 (km K) pc ls st0) rest (QF (kD K) (ky K) (kX K) (va_A (kX K ++ wl (ky K) ad0 Z M) H.size) post2 a) (va_A (kX K ++ wl (ky K) ad0 Z M) H.size))
    (hD : va_D (kA K) (kX K ++ wl (ky K) ad0 Z M)) (hS : va_S (kA K) (ks K).heap H locs) (hl : lv_has ls (kn K) lv)
    (kk : ∀ (v : Option Value) (ad' : Nat → Nat) (Z' : ZT) (M' : MT), post2 v ad' Z' M' → V K ad' (n1 + rm2.cells) (n2 + rm2.slots) Z' M' (pc + 3) lv (v.toList ++ rest)) :
    W (kp K) (kl K) (ke K) (kR K) (ks K) (km K) (ka K) (kb K) (kmt K) (kc K) H locs n1 n2 (kQ K) (F0 (km K) pc ls st0) := by
  have hFc : ∀ q, va_A (kX K ++ wl (ky K) ad0 Z M) H.size q → kA K q := by
    intro q hq
    rcases hq with ⟨k, e, h⟩ | h
    · exact hD.2 k (q, e) h
    · exact f.2.2.2.2.2.2.2.1 q (Nat.le_trans hS.1 h)
  intro T hT X
  obtain ⟨v0, st₀, t, T', L, h0, X', hL, e1, e2, ⟨⟨v, ad', Z', M', hv, hp, hz', hP', hD'⟩, hz1, hk1⟩, st9⟩ := hr T hT X
  cases hv
  rw [h0] at hz1 hk1
  have hS' : va_S (kA K) (ks K).heap T'.heap (locs ++ L) := ⟨Nat.le_trans hS.1 (by rw [e1]; exact hz1), fun q h1 h2 => by rw [e1, hk1 q (Nat.lt_of_lt_of_le h1 hS.1) (fun z => h2 (hFc q z))]; exact hS.2.1 q h1 h2, fun q hq => by
      rcases List.mem_append.mp hq with h | h
      · exact hS.2.2 q h
      · exact hFc _ (hL q h)⟩
  obtain ⟨t2, a1, b1⟩ := kk v0 ad' Z' M' hp T'.heap (locs ++ L) ls hz' (by rw [e1]; exact hP') (hD'.weaken (fun k q _ h => hFc q.1 h)) hS' hl T' rfl X'
  exact ⟨t2, st9 t2 a1, b1⟩
theorem PF.blind {D : va_G} {cy : Nat → ClassId} {X : va_W} {sz : Nat} : FrameBlind (PF D cy X sz as ad Z M) := fun a U g mk q => by
  obtain ⟨q0, q1, q2, q3, q4, q5⟩ := q
  exact ⟨q0, q1, q2.calling, q3, q4, q5⟩
theorem PF.pre {s : State} {H : Heap} {D : va_G} {cy : Nat → ClassId} {X : va_W} (hK : KK D cy s) (hz : zok Z) {A : Nat → Prop} (hP : va_P D vwCl (X ++ wl cy ad Z M) H) (hD : va_D A (X ++ wl cy ad Z M)) : ∀ U : State, U.heap = H → s.WarmedH U.vm → PF D cy X H.size as ad Z M as.toArray U := fun U hU hW => ⟨rfl, by rw [hU], hK.warm hW, hz, by rw [hU]; exact hP, hD.weaken (fun _ _ _ _ => trivial)⟩
theorem V_callV (f : Fx K cc own nL rm) (hd : decode cc pc = .ok (.invokevirtual idx, 3)) (lk : LK own idx y bytes maxL ret n) (hl1 : Cond.methodLink own idx y ∈ tbG) (hin : Cond.instanceMethod y ∈ tbG) (hse : Cond.selects y.cls y y ∈ tbG)
    {i ci zn : Nat} {rs : List (Option Nat)} {T : u_T} {N : Nat} (hM : Ctr (kl K) y bytes maxL ret rm2 (kD K) (ky K) (kX K) ad Z M (.ref (ad i) :: As) post2)
    (hi : Z[i]? = some (ci, zn, rs)) (hci : ci < 10) (hc : vwCl[ci]? = some (y.cls, T, N)) (hn : As.length = n) (hst : st = As.reverse ++ .ref (ad i) :: rest) (hcat : (rest.map fun v => v.category).sum ≤ 8)
    (hR : rm2.frames + 1 ≤ rm.frames ∧ 8 + (maxL + 11) + rm2.locals ≤ rm.locals) (hC : n1 + rm2.cells ≤ rm.cells ∧ n2 + rm2.slots ≤ rm.slots)
    (kk : ∀ (v : Option Value) (ad' : Nat → Nat) (Z' : ZT) (M' : MT), post2 v ad' Z' M' → V K ad' (n1 + rm2.cells) (n2 + rm2.slots) Z' M' (pc + 3) lv (v.toList ++ rest)) : V K ad n1 n2 Z M pc lv st := fun H locs ls hz hP hD hS hl => by
  subst hst
  have ht := f.2.2.2.2.2.1
  have hRm := f.2.2.2.2.2.2.2.2.1
  have he := wl_get (cy := ky K) (ad := ad) (M := M) (X := kX K) hi
  rw [cE_obj hci] at he
  refine V_behind f (va_runV (C := y.cls) (As := As) (b := ad i) (n := n) (index := idx) (ret := ret) (maxL := maxL) (bytes := bytes) (nL := kn K) (Ts := tbG) ⟨f.1, f.2.1, f.2.2.1, f.2.2.2.2.1, ht⟩ (hM H.size) ⟨callB_of n ht (goodW lk.1) rfl rfl rfl (ht _ lk.2.1) (ht _ hl1) lk.2.2 (by rw [hRm]; exact hR), ht _ hin, ht _ hse⟩ ⟨PF.blind, va_recv f.2.2.2.2.2.2.1.1 hP hc he, PF.pre f.2.2.2.2.2.2.1 hz hP hD⟩ rfl hn hl.1 rfl (lv_room hcat) hd (by rw [hRm]; exact hC)) hD hS hl kk
theorem V_callS (f : Fx K cc own nL rm) (hd : decode cc pc = .ok (.invokestatic idx, 3)) (lk : LK own idx y bytes maxL ret n) (hl1 : Cond.methodLink own idx y ∈ tbG) (hsta : Cond.static y ∈ tbG)
    (hM : Ctr (kl K) y bytes maxL ret rm2 (kD K) (ky K) (kX K) ad Z M As post2) (hn : As.length = n) (hst : st = As.reverse ++ rest) (hcat : (rest.map fun v => v.category).sum ≤ 8)
    (hR : rm2.frames + 1 ≤ rm.frames ∧ 8 + (maxL + 11) + rm2.locals ≤ rm.locals) (hC : n1 + rm2.cells ≤ rm.cells ∧ n2 + rm2.slots ≤ rm.slots)
    (kk : ∀ (v : Option Value) (ad' : Nat → Nat) (Z' : ZT) (M' : MT), post2 v ad' Z' M' → V K ad' (n1 + rm2.cells) (n2 + rm2.slots) Z' M' (pc + 3) lv (v.toList ++ rest)) : V K ad n1 n2 Z M pc lv st := fun H locs ls hz hP hD hS hl => by
  subst hst
  have ht := f.2.2.2.2.2.1
  have hRm := f.2.2.2.2.2.2.2.2.1
  refine V_behind f (va_runS (As := As) (n := n) (index := idx) (ret := ret) (maxL := maxL) (bytes := bytes) (nL := kn K) (Ts := tbG) ⟨f.1, f.2.1, f.2.2.1, f.2.2.2.2.1, ht⟩ (hM H.size) ⟨callB_of n ht (goodW lk.1) rfl rfl rfl (ht _ lk.2.1) (ht _ hl1) lk.2.2 (by rw [hRm]; exact hR), ht _ hsta⟩ ⟨PF.blind, PF.pre f.2.2.2.2.2.2.1 hz hP hD⟩ rfl hn hl.1 rfl (lv_room hcat) hd (by rw [hRm]; exact hC)) hD hS hl kk
theorem V_callSN (f : Fx K cc own nL rm) (hd : decode cc pc = .ok (.invokestatic idx, 3)) (lk : LK own idx y bytes maxL ret n) {host : String} (hl1 : (own, idx, y, host) ∈ nestL) (hsta : Cond.static y ∈ tbG)
    (hM : Ctr (kl K) y bytes maxL ret rm2 (kD K) (ky K) (kX K) ad Z M As post2) (hn : As.length = n) (hst : st = As.reverse ++ rest) (hcat : (rest.map fun v => v.category).sum ≤ 8)
    (hR : rm2.frames + 1 ≤ rm.frames ∧ 8 + (maxL + 11) + rm2.locals ≤ rm.locals) (hC : n1 + rm2.cells ≤ rm.cells ∧ n2 + rm2.slots ≤ rm.slots)
    (kk : ∀ (v : Option Value) (ad' : Nat → Nat) (Z' : ZT) (M' : MT), post2 v ad' Z' M' → V K ad' (n1 + rm2.cells) (n2 + rm2.slots) Z' M' (pc + 3) lv (v.toList ++ rest)) : V K ad n1 n2 Z M pc lv st := fun H locs ls hz hP hD hS hl => by
  subst hst
  have ht := f.2.2.2.2.2.1
  have hRm := f.2.2.2.2.2.2.2.2.1
  refine V_behind f (va_runSN (As := As) (n := n) (index := idx) (ret := ret) (maxL := maxL) (bytes := bytes) (nL := kn K) (Ts := tbG) (host := host) ⟨f.1, f.2.1, f.2.2.1, f.2.2.2.2.1, ht⟩ (hM H.size) ⟨va_cnB n ht (goodW lk.1) rfl rfl rfl (f.2.2.2.2.2.2.1.2.2 _ hl1) (ht _ lk.2.1) lk.2.2 (by rw [hRm]; exact hR), ht _ hsta, trivial⟩ ⟨PF.blind, PF.pre f.2.2.2.2.2.2.1 hz hP hD⟩ rfl hn hl.1 rfl (lv_room hcat) hd (by rw [hRm]; exact hC)) hD hS hl kk
theorem V_callI (f : Fx K cc own nL rm) (hd : decode cc pc = .ok (.invokespecial idx, 3)) (lk : LK own idx y bytes maxL none n) (hl1 : Cond.methodLink own idx y ∈ tbG) (hin : Cond.instanceMethod y ∈ tbG) (hy1 : y.name = "<init>")
    {i : Nat} (hM : Ctr (kl K) y bytes maxL none rm2 (kD K) (ky K) (kX K) ad Z M (.ref (ad i) :: As) post2)
    (hn : As.length = n) (hst : st = As.reverse ++ .ref (ad i) :: rest) (hcat : (rest.map fun v => v.category).sum ≤ 8)
    (hR : rm2.frames + 1 ≤ rm.frames ∧ 8 + (maxL + 11) + rm2.locals ≤ rm.locals) (hC : n1 + rm2.cells ≤ rm.cells ∧ n2 + rm2.slots ≤ rm.slots)
    (kk : ∀ (v : Option Value) (ad' : Nat → Nat) (Z' : ZT) (M' : MT), post2 v ad' Z' M' → V K ad' (n1 + rm2.cells) (n2 + rm2.slots) Z' M' (pc + 3) lv (v.toList ++ rest)) : V K ad n1 n2 Z M pc lv st := fun H locs ls hz hP hD hS hl => by
  subst hst
  have ht := f.2.2.2.2.2.1
  have hRm := f.2.2.2.2.2.2.2.2.1
  refine V_behind f (va_runI (As := As) (b := ad i) (n := n) (index := idx) (maxL := maxL) (bytes := bytes) (nL := kn K) (Ts := tbG) ⟨f.1, f.2.1, f.2.2.1, f.2.2.2.2.1, ht⟩ (hM H.size) ⟨callB_of n ht (goodW lk.1) rfl rfl rfl (ht _ lk.2.1) (ht _ hl1) lk.2.2 (by rw [hRm]; exact hR), hy1, ht _ hin⟩ ⟨PF.blind, PF.pre f.2.2.2.2.2.2.1 hz hP hD⟩ rfl hn hl.1 rfl (lv_room hcat) hd (by rw [hRm]; exact hC)) hD hS hl kk
theorem V_callIN (f : Fx K cc own nL rm) (hd : decode cc pc = .ok (.invokespecial idx, 3)) (lk : LK own idx y bytes maxL none n) {host : String} (hl1 : (own, idx, y, host) ∈ nestL) (hin : Cond.instanceMethod y ∈ tbG) (hy1 : y.name = "<init>")
    {i : Nat} (hM : Ctr (kl K) y bytes maxL none rm2 (kD K) (ky K) (kX K) ad Z M (.ref (ad i) :: As) post2)
    (hn : As.length = n) (hst : st = As.reverse ++ .ref (ad i) :: rest) (hcat : (rest.map fun v => v.category).sum ≤ 8)
    (hR : rm2.frames + 1 ≤ rm.frames ∧ 8 + (maxL + 11) + rm2.locals ≤ rm.locals) (hC : n1 + rm2.cells ≤ rm.cells ∧ n2 + rm2.slots ≤ rm.slots)
    (kk : ∀ (v : Option Value) (ad' : Nat → Nat) (Z' : ZT) (M' : MT), post2 v ad' Z' M' → V K ad' (n1 + rm2.cells) (n2 + rm2.slots) Z' M' (pc + 3) lv (v.toList ++ rest)) : V K ad n1 n2 Z M pc lv st := fun H locs ls hz hP hD hS hl => by
  subst hst
  have ht := f.2.2.2.2.2.1
  have hRm := f.2.2.2.2.2.2.2.2.1
  refine V_behind f (va_runIN (As := As) (b := ad i) (n := n) (index := idx) (maxL := maxL) (bytes := bytes) (nL := kn K) (Ts := tbG) (host := host) ⟨f.1, f.2.1, f.2.2.1, f.2.2.2.2.1, ht⟩ (hM H.size) ⟨va_cnB n ht (goodW lk.1) rfl rfl rfl (f.2.2.2.2.2.2.1.2.2 _ hl1) (ht _ lk.2.1) lk.2.2 (by rw [hRm]; exact hR), hy1, ht _ hin⟩ ⟨PF.blind, PF.pre f.2.2.2.2.2.2.1 hz hP hD⟩ rfl hn hl.1 rfl (lv_room hcat) hd (by rw [hRm]; exact hC)) hD hS hl kk
theorem wl_push1 {cy : Nat → ClassId} {ad : Nat → Nat} {Z : ZT} {M : MT} {X : va_W} {q : Nat} {e : va_E} {z : ZC} {m : Nat → Int32} (hz : zok Z) (he : e = cE cy (va_up ad Z.length q) z m) : (X ++ wl cy ad Z M) ++ [(q, e)] = X ++ wl cy (va_up ad Z.length q) (Z ++ [z]) (va_up M Z.length m) := by rw [he]; exact wl_push hz
theorem kV_new {ad : Nat → Nat} {n : Nat} : ∀ (bs : List Bool) (k : Nat), kV ad (List.replicate n none) (fun _ => 0) bs k = bs.map (fun b => if b then .null else .int 0) := by
  intro bs
  induction bs with
  | nil => intro k; rfl
  | cons c bs ih =>
    intro k
    have : (List.replicate n (none : Option Nat)).getD k none = none := by
      rw [List.getD_eq_getElem?_getD]
      cases h : (List.replicate n (none : Option Nat))[k]? with
      | none => rfl
      | some r => exact (List.mem_replicate.mp (List.mem_of_getElem? h)).2
    simp only [kV, List.map_cons, this, ih]
    rfl
/-- a new object of the class of number ci -/
theorem V_new (f : Fx K cc own nL rm) {index ci : Nat} {C : String} {T : u_T} {N : Nat} (hd : decode cc pc = .ok (.new index, 3)) (hci : ci < 10) (hc : vwCl[ci]? = some (C, T, N)) (hin : ∀ w ∈ u_ws C T N, w ∈ tbG) (ty : Nat → FieldType) (hty : ∀ k, k < N → parseFieldDescriptor (T k).2.2.1 = some (ty k)) (hcl : Cond.classLink own index C ∈ tbG) (hinst : Cond.instantiable C N ∈ tbG) (hini : Cond.initialized C ∈ tbG)
    (hfs : ∀ j, j < N → defaultValue (ty j) = vp_V ((kFl ci).map (fun b => if b then .null else .int 0)) j) (h1 : n1 + 1 ≤ rm.cells) (h2 : n2 + N ≤ rm.slots) (kk : ∀ q : Nat, V K (va_up ad Z.length q) (n1 + 1) (n2 + N) (Z ++ [(ci, 0, List.replicate N none)]) (va_up M Z.length (fun _ => 0)) (pc + 3) lv (.ref (va_up ad Z.length q Z.length) :: st)) : V K ad n1 n2 Z M pc lv st := fun H locs ls hz hP hD hS hl => by
  have hRm := f.2.2.2.2.2.2.2.2.1
  have ht := f.2.2.2.2.2.1
  refine va_new (C := C) (T := T) (N := N) (ci := ci) (fs := (kFl ci).map (fun b => if b then .null else .int 0)) f.1 f.2.1 ht hin ty hty f.2.2.2.2.1 (ht _ hcl) (ht _ hinst) (ht _ hini) f.2.2.2.2.2.2.1.1 hP hD hS f.2.2.2.2.2.2.2.1 hc hfs (by rw [hRm]; exact h1) (by rw [hRm]; exact h2) hd (fun q H1 hP1 hD1 hS1 => ?_)
  have he : (Sum.inr (ci, (kFl ci).map (fun b => if b then Value.null else Value.int 0)) : va_E) = cE (ky K) (va_up ad Z.length q) (ci, 0, List.replicate N none) (fun _ => 0) := by rw [cE_obj hci, kV_new]
  rw [wl_push1 hz he] at hP1 hD1
  have := kk q H1 locs ls (zok_push hz (fun j hj => by have := (List.mem_replicate.mp hj).2; cases this)) hP1 hD1 hS1 hl
  simpa [va_up] using this
theorem ArrCy {D : va_G} {cy : Nat → ClassId} {s : State} {ty : FieldType} {cA : ClassId} (hK : va_K D vwCl (tyL cy ++ [(cA, ty)]) s) (t0 : Nat) {c0 : ClassId} (h0 : (tyL cy)[t0]? = some (c0, ty)) (hno : ∀ C, ty ≠ .object C) : cA = c0 := by
  have a1 := (hK.2 6 (cA, ty) rfl).2
  have a2 := (hK.2 t0 (c0, ty) (by rw [List.getElem?_append_left (List.getElem?_eq_some_iff.mp h0).1]; exact h0)).2
  have b1 : s.vm.findClass ("[" ++ ty.toString) = some cA := by cases ty <;> first | exact a1 | exact absurd rfl (hno _)
  have b2 : s.vm.findClass ("[" ++ ty.toString) = some c0 := by cases ty <;> first | exact a2 | exact absurd rfl (hno _)
  rw [b1] at b2
  exact Option.some.inj b2
theorem ArrCyO {D : va_G} {cy : Nat → ClassId} {s : State} {C : String} {cA : ClassId} (hK : va_K D vwCl (tyL cy ++ [(cA, .object C)]) s) (t0 : Nat) {c0 : ClassId} (h0 : (tyL cy)[t0]? = some (c0, .object C)) : cA = c0 := by
  obtain ⟨-, -, -, -, -, b1⟩ := (hK.2 6 (cA, .object C) rfl).2
  obtain ⟨-, -, -, -, -, b2⟩ := (hK.2 t0 (c0, .object C) (by rw [List.getElem?_append_left (List.getElem?_eq_some_iff.mp h0).1]; exact h0)).2
  rw [b1] at b2
  exact Option.some.inj b2
/-- a new array of ints, bytes or booleans -/
theorem V_newa (f : Fx K cc own nL rm) {atype : ArrayType} {ty : FieldType} {t0 ci : Nat} (hd : decode cc pc = .ok (.newarray atype, 2)) (harr : Cond.arrayClass (newarray.typeOf atype) ∈ tbG) (hty : newarray.typeOf atype = ty) (hc1 : ¬ ci < 10) (hc2 : ci < 13) (h0 : ∀ cy : Nat → ClassId, (tyL cy)[t0]? = some (cy ci, ty)) (hno : ∀ C, ty ≠ .object C) {x : Int32} {N : Nat} (ha : ∀ cA : ClassId, vp_cell cA (N, .inl (fun _ => 0)) = arrV cA N (fun _ => defaultValue ty)) (hn : ¬ x < 0) (hN : x.toNatClampNeg = N) (hbytes : N * componentBytes ty ≤ 536870912) (h1 : n1 + 1 ≤ rm.cells) (h2 : n2 + N ≤ rm.slots)
    (kk : ∀ q : Nat, V K (va_up ad Z.length q) (n1 + 1) (n2 + N) (Z ++ [(ci, N, [])]) (va_up M Z.length (fun _ => 0)) (pc + 2) lv (.ref (va_up ad Z.length q Z.length) :: st)) : V K ad n1 n2 Z M pc lv (.int x :: st) := fun H locs ls hz hP hD hS hl => by
  have hRm := f.2.2.2.2.2.2.2.2.1
  have ht := f.2.2.2.2.2.1
  refine va_newa (ty := ty) (N' := N) (a0 := (N, .inl (fun _ => 0))) f.1 f.2.1 (ht _ harr) hty f.2.2.2.2.2.2.1.1 hP hD hS f.2.2.2.2.2.2.2.1 ha hn hN hbytes (by rw [hRm]; exact h1) (by rw [hRm]; exact h2) hd (fun q cA H1 hK1 hP1 hD1 hS1 => ?_)
  have hcA := ArrCy hK1 t0 (h0 (ky K)) hno
  subst hcA
  have he : (Sum.inl (ky K ci, N, Sum.inl (fun _ => 0)) : va_E) = cE (ky K) (va_up ad Z.length q) (ci, N, []) (fun _ => 0) := by rw [cE_int hc1 hc2]
  rw [wl_push1 hz he] at hP1 hD1
  have := kk q H1 locs ls (zok_push hz (fun j hj => by cases hj)) hP1 hD1 hS1 hl
  simpa [va_up] using this
/-- a new array of references -/
theorem V_newq (f : Fx K cc own nL rm) {index t0 ci : Nat} {C : String} (hd : decode cc pc = .ok (.anewarray index, 3)) (hcl : Cond.classLink own index C ∈ tbG) (hC : C ∈ ["PeatBog$Bay", "PeatBog$Law", "PeatBog$Stack"]) (hc2 : ¬ ci < 13) (h0 : ∀ cy : Nat → ClassId, (tyL cy)[t0]? = some (cy ci, .object C)) {x : Int32} {N : Nat} (hn : ¬ x < 0) (hN : x.toNatClampNeg = N) (hbytes : N * 4 ≤ 536870912) (h1 : n1 + 1 ≤ rm.cells) (h2 : n2 + N ≤ rm.slots)
    (kk : ∀ q : Nat, V K (va_up ad Z.length q) (n1 + 1) (n2 + N) (Z ++ [(ci, N, List.replicate N none)]) (va_up M Z.length (fun _ => 0)) (pc + 3) lv (.ref (va_up ad Z.length q Z.length) :: st)) : V K ad n1 n2 Z M pc lv (.int x :: st) := fun H locs ls hz hP hD hS hl => by
  have hRm := f.2.2.2.2.2.2.2.2.1
  have ht := f.2.2.2.2.2.1
  refine va_newq (C := C) (N' := N) f.1 f.2.1 f.2.2.2.2.1 (ht _ hcl) (f.2.2.2.2.2.2.1.2.1 C hC) f.2.2.2.2.2.2.1.1 hP hD hS f.2.2.2.2.2.2.2.1 hn hN hbytes (by rw [hRm]; exact h1) (by rw [hRm]; exact h2) hd (fun q cA H1 hK1 hP1 hD1 hS1 => ?_)
  have hcA := ArrCyO hK1 t0 (h0 (ky K))
  subst hcA
  have he : (Sum.inl (ky K ci, N, Sum.inr (Sum.inr (Sum.inr (Sum.inr (fun _ => none))))) : va_E) = cE (ky K) (va_up ad Z.length q) (ci, N, List.replicate N none) (fun _ => 0) := by
    rw [cE_ref hc2]
    congr 7
    funext k
    have : (List.replicate N (none : Option Nat)).getD k none = none := by
      rw [List.getD_eq_getElem?_getD]
      cases h : (List.replicate N (none : Option Nat))[k]? with
      | none => rfl
      | some r => exact (List.mem_replicate.mp (List.mem_of_getElem? h)).2
    rw [this]
    rfl
  rw [wl_push1 hz he] at hP1 hD1
  have := kk q H1 locs ls (zok_push hz (fun j hj => by have := (List.mem_replicate.mp hj).2; cases this)) hP1 hD1 hS1 hl
  simpa [va_up] using this
end CR

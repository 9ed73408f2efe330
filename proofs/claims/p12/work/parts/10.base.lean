/-! THE JUDGEMENT V: cells by numbers (Z: kind, length, references; M: ints by cell and slot), real addresses by 'ad' -/
abbrev MT : Type := Nat → Nat → Int32
abbrev ZC : Type := Nat × Nat × List (Option Nat)
abbrev ZT : Type := List ZC
def tbG : List Cond := lw_tbl.filter goodWord
theorem tbG_in {w : Cond} (i : Nat) (h : lw_tbl[i]? = some w) (g : goodWord w = true) : w ∈ tbG := List.mem_filter.mpr ⟨List.mem_of_getElem? h, g⟩
theorem tbG_good : ∀ w ∈ tbG, w ∈ tbG ∧ ((w.onTables && w.keeps) = true ∨ ∃ ty, w = .arrayClass ty) := fun w h => ⟨h, good_of_word (List.mem_filter.mp h).2⟩
def kFl : Nat → List Bool
  | 0 => [false, false, false, false, false, false, false]
  | 1 => [false, false, false, false, false, true, true, true, true, false, true, true, true, true, true]
  | 2 => [true, false]
  | 3 => [true, true, true, true, true, false, false, false]
  | 4 => [false, false, false, false, false]
  | 5 => [false, false, false, false, false, false, false, false, false]
  | 6 => [true, false]
  | 7 => [true, false, true, true, true, false]
  | 8 => [true, true, true, true, true, true, true, true, false, false, false, false, false, false, false]
  | 9 => [false, false, false, false, false, false, false, false, false, false, true, true, true, true, true, true, true, true, true, true, true, true, true, true, true, true, true, false, false, false, false, false, true, true, true, true, true, true, true, true, true, true, true, false, false, true, true, true]
  | _ => []
def kV (ad : Nat → Nat) (rs : List (Option Nat)) (m : Nat → Int32) : List Bool → Nat → List Value
  | [], _ => []
  | b :: bs, k => (if b then va_rf ((rs.getD k none).map ad) else .int (m k)) :: kV ad rs m bs (k + 1)
theorem kV_get (ad : Nat → Nat) (rs : List (Option Nat)) (m : Nat → Int32) : ∀ (bs : List Bool) (k j : Nat) (b : Bool), bs[j]? = some b → (kV ad rs m bs k)[j]? = some (if b then va_rf ((rs.getD (k + j) none).map ad) else .int (m (k + j))) := by
  intro bs
  induction bs with
  | nil => intro k j b h; simp at h
  | cons c bs ih =>
    intro k j b h
    cases j with
    | zero => simp only [List.getElem?_cons_zero, Option.some.injEq] at h; subst h; simp [kV]
    | succ j =>
      simp only [List.getElem?_cons_succ] at h
      simp only [kV, List.getElem?_cons_succ]
      rw [ih (k + 1) j b h, show k + 1 + j = k + (j + 1) by omega]
theorem kV_len (ad : Nat → Nat) (rs : List (Option Nat)) (m : Nat → Int32) : ∀ (bs : List Bool) (k : Nat), (kV ad rs m bs k).length = bs.length := by
  intro bs
  induction bs with
  | nil => intro k; rfl
  | cons c bs ih => intro k; simp [kV, ih]
theorem kV_congr {ad ad' : Nat → Nat} {rs rs' : List (Option Nat)} {m m' : Nat → Int32} : ∀ (bs : List Bool) (k : Nat), (∀ i, k ≤ i → m i = m' i) → (∀ i, k ≤ i → (rs.getD i none).map ad = (rs'.getD i none).map ad') → kV ad rs m bs k = kV ad' rs' m' bs k := by
  intro bs
  induction bs with
  | nil => intro k _ _; rfl
  | cons c bs ih =>
    intro k h1 h2
    simp only [kV]
    rw [h1 k (Nat.le_refl _), h2 k (Nat.le_refl _), ih (k + 1) (fun i hi => h1 i (by omega)) (fun i hi => h2 i (by omega))]
theorem kV_setI {ad : Nat → Nat} {rs : List (Option Nat)} {v : Int32} : ∀ (bs : List Bool) (m : Nat → Int32) (k j : Nat), bs[j]? = some false → (kV ad rs m bs k).set j (.int v) = kV ad rs (va_up m (k + j) v) bs k := by
  intro bs
  induction bs with
  | nil => intro m k j h; simp at h
  | cons c bs ih =>
    intro m k j h
    cases j with
    | zero =>
      simp only [List.getElem?_cons_zero, Option.some.injEq] at h
      subst h
      simp only [kV, List.set_cons_zero]
      rw [kV_congr bs (k + 1) (m' := va_up m (k + 0) v) (fun i hi => by simp only [va_up]; rw [if_neg (by omega)]) (fun i _ => rfl)]
      simp [va_up]
    | succ j =>
      simp only [List.getElem?_cons_succ] at h
      simp only [kV, List.set_cons_succ]
      rw [ih m (k + 1) j h, show k + 1 + j = k + (j + 1) by omega]
      have : va_up m (k + (j + 1)) v k = m k := by simp only [va_up]; rw [if_neg (by omega)]
      rw [this]
theorem kV_setR {ad : Nat → Nat} {m : Nat → Int32} {r : Nat} : ∀ (bs : List Bool) (rs : List (Option Nat)) (k j : Nat), bs[j]? = some true → k + j < rs.length → (kV ad rs m bs k).set j (.ref (ad r)) = kV ad (rs.set (k + j) (some r)) m bs k := by
  intro bs
  induction bs with
  | nil => intro rs k j h; simp at h
  | cons c bs ih =>
    intro rs k j h hl
    cases j with
    | zero =>
      simp only [List.getElem?_cons_zero, Option.some.injEq] at h
      subst h
      simp only [kV, List.set_cons_zero]
      rw [kV_congr bs (k + 1) (rs' := rs.set (k + 0) (some r)) (fun i hi => rfl) (fun i hi => by simp only [List.getD_eq_getElem?_getD]; rw [List.getElem?_set_ne (by omega)])]
      simp only [Nat.add_zero, List.getD_eq_getElem?_getD, if_true]
      rw [List.getElem?_set_self (by omega)]
      simp [va_rf]
    | succ j =>
      simp only [List.getElem?_cons_succ] at h
      simp only [kV, List.set_cons_succ]
      rw [ih rs (k + 1) j h (by omega), show k + 1 + j = k + (j + 1) by omega]
      have : (rs.set (k + (j + 1)) (some r)).getD k none = rs.getD k none := by simp only [List.getD_eq_getElem?_getD]; rw [List.getElem?_set_ne (by omega)]
      rw [this]
/-- what a cell holds -/
def cE (cy : Nat → ClassId) (ad : Nat → Nat) (z : ZC) (m : Nat → Int32) : va_E :=
  if z.1 < 10 then .inr (z.1, kV ad z.2.2 m (kFl z.1) 0) else if z.1 < 13 then .inl (cy z.1, z.2.1, .inl m) else .inl (cy z.1, z.2.1, .inr (.inr (.inr (.inr (fun k => (z.2.2.getD k none).map ad)))))
def wl (cy : Nat → ClassId) (ad : Nat → Nat) (Z : ZT) (M : MT) : va_W := Z.mapIdx (fun i z => (ad i, cE cy ad z (M i)))
def zok (Z : ZT) : Prop := ∀ z ∈ Z, ∀ j, some j ∈ z.2.2 → j < Z.length
def up2 (M : MT) (i k : Nat) (v : Int32) : MT := va_up M i (va_up (M i) k v)
theorem wl_get {cy : Nat → ClassId} {ad : Nat → Nat} {Z : ZT} {M : MT} {X : va_W} {i : Nat} {z : ZC} (h : Z[i]? = some z) : (X ++ wl cy ad Z M)[X.length + i]? = some (ad i, cE cy ad z (M i)) := by
  rw [List.getElem?_append_right (by omega), show X.length + i - X.length = i by omega]
  simp [wl, List.getElem?_mapIdx, h]
theorem wl_setM {cy : Nat → ClassId} {ad : Nat → Nat} {Z : ZT} {M : MT} {X : va_W} {i : Nat} {z : ZC} {m : Nat → Int32} (h : Z[i]? = some z) : (X ++ wl cy ad Z M).set (X.length + i) (ad i, cE cy ad z m) = X ++ wl cy ad Z (va_up M i m) := by
  rw [List.set_append_right _ _ (by omega), show X.length + i - X.length = i by omega]
  congr 1
  apply List.ext_getElem?
  intro j
  by_cases hj : j = i
  · subst hj
    have hl : j < Z.length := (List.getElem?_eq_some_iff.mp h).1
    rw [List.getElem?_set_self (by simp [wl, hl])]
    simp [wl, List.getElem?_mapIdx, h, va_up]
  · rw [List.getElem?_set_ne (fun q => hj q.symm)]
    simp only [wl, List.getElem?_mapIdx, va_up, if_neg hj]
theorem wl_setZ {cy : Nat → ClassId} {ad : Nat → Nat} {Z : ZT} {M : MT} {X : va_W} {i : Nat} {z z' : ZC} (h : Z[i]? = some z) : (X ++ wl cy ad Z M).set (X.length + i) (ad i, cE cy ad z' (M i)) = X ++ wl cy ad (Z.set i z') M := by
  rw [List.set_append_right _ _ (by omega), show X.length + i - X.length = i by omega]
  congr 1
  apply List.ext_getElem?
  intro j
  by_cases hj : j = i
  · subst hj
    have hl : j < Z.length := (List.getElem?_eq_some_iff.mp h).1
    rw [List.getElem?_set_self (by simp [wl, hl])]
    simp only [wl, List.getElem?_mapIdx, List.getElem?_set_self hl, Option.map_some]
  · rw [List.getElem?_set_ne (fun q => hj q.symm)]
    simp only [wl, List.getElem?_mapIdx, List.getElem?_set_ne (fun q => hj q.symm)]
theorem cE_ad {cy : Nat → ClassId} {ad ad' : Nat → Nat} {z : ZC} {m : Nat → Int32} {n : Nat} (h : ∀ j, some j ∈ z.2.2 → j < n) (ha : ∀ j, j < n → ad j = ad' j) : cE cy ad z m = cE cy ad' z m := by
  have key : ∀ k, (z.2.2.getD k none).map ad = (z.2.2.getD k none).map ad' := by
    intro k
    cases hk : z.2.2.getD k none with
    | none => rfl
    | some j =>
      have : some j ∈ z.2.2 := by
        rw [List.getD_eq_getElem?_getD] at hk
        cases h2 : z.2.2[k]? with
        | none => rw [h2] at hk; cases hk
        | some r => rw [h2] at hk; cases hk; exact List.mem_of_getElem? h2
      simp [ha j (h j this)]
  unfold cE
  rw [kV_congr (ad' := ad') (rs' := z.2.2) (m' := m) _ _ (fun _ _ => rfl) (fun k _ => key k)]
  simp only [key]
theorem wl_push {cy : Nat → ClassId} {ad : Nat → Nat} {Z : ZT} {M : MT} {X : va_W} {q : Nat} {z : ZC} {m : Nat → Int32} (hz : zok Z) : (X ++ wl cy ad Z M) ++ [(q, cE cy (va_up ad Z.length q) z m)] = X ++ wl cy (va_up ad Z.length q) (Z ++ [z]) (va_up M Z.length m) := by
  rw [List.append_assoc]
  congr 1
  apply List.ext_getElem?
  intro j
  have hlen : (wl cy ad Z M).length = Z.length := by simp [wl]
  rcases Nat.lt_trichotomy j Z.length with hj | hj | hj
  · rw [List.getElem?_append_left (by omega)]
    simp only [wl, List.getElem?_mapIdx, List.getElem?_append_left hj]
    cases h2 : Z[j]? with
    | none => rfl
    | some y =>
      simp only [Option.map_some, va_up, if_neg (Nat.ne_of_lt hj)]
      rw [cE_ad (ad' := fun j => if j = Z.length then q else ad j) (hz y (List.mem_of_getElem? h2)) (fun j hj => by simp [Nat.ne_of_lt hj])]
      rfl
  · subst hj
    rw [List.getElem?_append_right (by omega), hlen]
    simp [wl, List.getElem?_mapIdx, va_up]
  · rw [List.getElem?_eq_none (by simp [hlen]; omega), List.getElem?_eq_none (by simp [wl]; omega)]
theorem zok_push {Z : ZT} {z : ZC} (h : zok Z) (hn : ∀ j, some j ∈ z.2.2 → j < Z.length + 1) : zok (Z ++ [z]) := by
  intro y hy j hj
  simp only [List.length_append, List.length_cons, List.length_nil]
  rcases List.mem_append.mp hy with h1 | h1
  · have := h y h1 j hj; omega
  · rw [List.mem_singleton] at h1; subst h1; have := hn j hj; omega
theorem zok_setR {Z : ZT} {i k r : Nat} {ci n : Nat} {rs : List (Option Nat)} (h : zok Z) (hi : Z[i]? = some (ci, n, rs)) (hr : r < Z.length) : zok (Z.set i (ci, n, rs.set k (some r))) := by
  intro y hy j hj
  rw [List.length_set]
  rcases List.mem_or_eq_of_mem_set hy with h1 | h1
  · exact h y h1 j hj
  · subst h1
    rcases List.mem_or_eq_of_mem_set hj with h2 | h2
    · exact h _ (List.mem_of_getElem? hi) j h2
    · cases h2; exact hr
abbrev tyL (cy : Nat → ClassId) : List (ClassId × FieldType) := [(cy 10, .byte), (cy 11, .int), (cy 12, .boolean), (cy 13, .object "PeatBog$Bay"), (cy 14, .object "PeatBog$Law"), (cy 15, .object "PeatBog$Stack")]
abbrev nestL : List (String × Nat × MethodName × String) := [("PeatBog", 27, ⟨"PeatBog$Law", "<init>", "()V"⟩, "PeatBog"), ("PeatBog", 34, ⟨"PeatBog$PowerHouse", "<init>", "()V"⟩, "PeatBog"), ("PeatBog", 41, ⟨"PeatBog$Tape", "<init>", "()V"⟩, "PeatBog"), ("PeatBog", 57, ⟨"PeatBog$Laying", "<init>", "()V"⟩, "PeatBog"), ("PeatBog", 84, ⟨"PeatBog$Bay", "<init>", "()V"⟩, "PeatBog"), ("PeatBog", 85, ⟨"PeatBog$Stack", "<init>", "()V"⟩, "PeatBog"), ("PeatBog$Law", 58, ⟨"PeatBog", "within", "(III)Z"⟩, "PeatBog"), ("PeatBog$Laying", 37, ⟨"PeatBog", "within", "(III)Z"⟩, "PeatBog"), ("PeatBog$Laying", 64, ⟨"PeatBog", "isBay", "(I)Z"⟩, "PeatBog")]
/-- what the tables say beside the words: classes, array classes, private members of nest mates -/
def KK (D : va_G) (cy : Nat → ClassId) (U : State) : Prop := va_K D vwCl (tyL cy) U ∧ (∀ C ∈ ["PeatBog$Bay", "PeatBog$Law", "PeatBog$Stack"], va_AO C U) ∧ ∀ q ∈ nestL, va_Nw (.methodLinkNest q.1 q.2.1 q.2.2.1 q.2.2.2) U
theorem KK.warm {D : va_G} {cy : Nat → ClassId} {s U : State} (hW : s.WarmedH U.vm) (h : KK D cy s) : KK D cy U := ⟨va_K.moved hW.alike h.1, fun C hC => va_AO.moved hW.alike (h.2.1 C hC), fun q hq => va_Nw.warmM hW (h.2.2 q hq)⟩
theorem KK.calling {D : va_G} {cy : Nat → ClassId} {U : State} {g : JFrame} {mk : MethodId} {a : Array Value} (h : KK D cy U) : KK D cy (U.calling g mk a) := ⟨va_K.moved (u := U) (U := U.calling g mk a) (Vm.Alike.refl U.vm) h.1, fun C hC => va_AO.moved (u := U) (U := U.calling g mk a) (Vm.Alike.refl U.vm) (h.2.1 C hC), fun q hq => va_Nw.same (u := U) rfl rfl (h.2.2 q hq)⟩
abbrev KT : Type := Program × Launch × Env × Room × State × MethodId × Array Value × List Frame × Method × Code × (State → Prop) × va_G × (Nat → ClassId) × (Nat → Prop) × Nat × va_W
abbrev kp (K : KT) := K.1
abbrev kl (K : KT) := K.2.1
abbrev ke (K : KT) := K.2.2.1
abbrev kR (K : KT) := K.2.2.2.1
abbrev ks (K : KT) := K.2.2.2.2.1
abbrev km (K : KT) := K.2.2.2.2.2.1
abbrev ka (K : KT) := K.2.2.2.2.2.2.1
abbrev kb (K : KT) := K.2.2.2.2.2.2.2.1
abbrev kmt (K : KT) := K.2.2.2.2.2.2.2.2.1
abbrev kc (K : KT) := K.2.2.2.2.2.2.2.2.2.1
abbrev kQ (K : KT) := K.2.2.2.2.2.2.2.2.2.2.1
abbrev kD (K : KT) := K.2.2.2.2.2.2.2.2.2.2.2.1
abbrev ky (K : KT) := K.2.2.2.2.2.2.2.2.2.2.2.2.1
abbrev kA (K : KT) := K.2.2.2.2.2.2.2.2.2.2.2.2.2.1
abbrev kn (K : KT) := K.2.2.2.2.2.2.2.2.2.2.2.2.2.2.1
abbrev kX (K : KT) := K.2.2.2.2.2.2.2.2.2.2.2.2.2.2.2
/-- from frame (pc, lv, st) with the cells (Z, M): the machine comes to its goal -/
def V (K : KT) (ad : Nat → Nat) (n1 n2 : Nat) (Z : ZT) (M : MT) (pc : Nat) (lv : List (Nat × Value)) (st : List Value) : Prop :=
  ∀ (H : Heap) (locs : List Loc) (ls : Array Slot), zok Z → va_P (kD K) vwCl (kX K ++ wl (ky K) ad Z M) H → va_D (kA K) (kX K ++ wl (ky K) ad Z M) → va_S (kA K) (ks K).heap H locs → lv_has ls (kn K) lv →
    W (kp K) (kl K) (ke K) (kR K) (ks K) (km K) (ka K) (kb K) (kmt K) (kc K) H locs n1 n2 (kQ K) (F0 (km K) pc ls st)
/-- what is fixed through a method's walk -/
def Fx (K : KT) (cc : ByteArray) (own : String) (nL : Nat) (rm : Room) : Prop :=
  (kp K).tables.exec = Jvm.exec ∧ (kc K).code = cc ∧ (kc K).maxLocals = kn K ∧ kn K = nL ∧ (ks K).vm.findClass own = some (km K).cls ∧ (∀ w ∈ tbG, w.before (ka K) (ks K) = true) ∧ KK (kD K) (ky K) (ks K) ∧ (∀ q, (ks K).heap.size ≤ q → kA K q) ∧ kR K = rm ∧ (kmt K).locks = false
section VR
variable {K : KT} {cc : ByteArray} {own : String} {nL : Nat} {rm : Room} {ad : Nat → Nat} {n1 n2 : Nat} {Z : ZT} {M : MT} {pc : Nat} {lv : List (Nat × Value)} {st : List Value}
theorem V.sub {lv' : List (Nat × Value)} (ks : List Nat) (h : lv_pick lv ks = lv') (k : V K ad n1 n2 Z M pc lv' st) : V K ad n1 n2 Z M pc lv st := fun H locs ls hz hP hD hS hl => k H locs ls hz hP hD hS (lv_sub hl ks h)
theorem V.widen {k n : Nat} (h1 : n1 ≤ k) (h2 : n2 ≤ n) (kk : V K ad k n Z M pc lv st) : V K ad n1 n2 Z M pc lv st := fun H locs ls hz hP hD hS hl => W.widen h1 h2 (kk H locs ls hz hP hD hS hl)
theorem V_iload_n (f : Fx K cc own nL rm) {k : Fin 4} {x : Int32} (hd : decode cc pc = .ok (.iload_n k, 1)) (j : Nat) (hj : lv[j]? = some ((k : Nat), .int x)) (k : V K ad n1 n2 Z M (pc + 1) lv (.int x :: st)) : V K ad n1 n2 Z M pc lv (st) := fun H locs ls hz hP hD hS hl => lv_iload_n f.1 f.2.1 hd rfl (lv_at hl j hj) (k H locs ls hz hP hD hS hl)
theorem V_iload (f : Fx K cc own nL rm) {i : Nat} {x : Int32} (hd : decode cc pc = .ok (.iload i, 2)) (j : Nat) (hj : lv[j]? = some (i, .int x)) (k : V K ad n1 n2 Z M (pc + 2) lv (.int x :: st)) : V K ad n1 n2 Z M pc lv (st) := fun H locs ls hz hP hD hS hl => lv_iload f.1 f.2.1 hd (lv_at hl j hj) (k H locs ls hz hP hD hS hl)
theorem V_istore_n (f : Fx K cc own nL rm) {k : Fin 4} {i : Nat} {x : Int32} (hd : decode cc pc = .ok (.istore_n k, 1)) (hi : (k : Nat) = i) (hn : i < nL) {lv' : List (Nat × Value)} (hl : (i, Value.int x) :: lv.filter (fun q => !(q.1 == i) && !(q.1 + 1 == i && q.2.category == 2)) = lv') (k : V K ad n1 n2 Z M (pc + 1) lv' st) : V K ad n1 n2 Z M pc lv (.int x :: st) := fun H locs ls hz hP hD hS h9 => lv_istore_n f.1 f.2.1 hd hi h9 (by rw [f.2.2.2.1]; exact hn) hl (fun ls' hl' => k H locs ls' hz hP hD hS hl')
theorem V_istore (f : Fx K cc own nL rm) {i : Nat} {x : Int32} (hd : decode cc pc = .ok (.istore i, 2)) (hn : i < nL) {lv' : List (Nat × Value)} (hl : (i, Value.int x) :: lv.filter (fun q => !(q.1 == i) && !(q.1 + 1 == i && q.2.category == 2)) = lv') (k : V K ad n1 n2 Z M (pc + 2) lv' st) : V K ad n1 n2 Z M pc lv (.int x :: st) := fun H locs ls hz hP hD hS h9 => lv_istore f.1 f.2.1 hd h9 (by rw [f.2.2.2.1]; exact hn) hl (fun ls' hl' => k H locs ls' hz hP hD hS hl')
theorem V_aload_n (f : Fx K cc own nL rm) {k : Fin 4} {x : Nat} (hd : decode cc pc = .ok (.aload_n k, 1)) (j : Nat) (hj : lv[j]? = some ((k : Nat), .ref x)) (k : V K ad n1 n2 Z M (pc + 1) lv (.ref x :: st)) : V K ad n1 n2 Z M pc lv (st) := fun H locs ls hz hP hD hS hl => lv_aload_n f.1 f.2.1 hd rfl (lv_at hl j hj) (k H locs ls hz hP hD hS hl)
theorem V_aload (f : Fx K cc own nL rm) {i : Nat} {x : Nat} (hd : decode cc pc = .ok (.aload i, 2)) (j : Nat) (hj : lv[j]? = some (i, .ref x)) (k : V K ad n1 n2 Z M (pc + 2) lv (.ref x :: st)) : V K ad n1 n2 Z M pc lv (st) := fun H locs ls hz hP hD hS hl => lv_aload f.1 f.2.1 hd (lv_at hl j hj) (k H locs ls hz hP hD hS hl)
theorem V_astore_n (f : Fx K cc own nL rm) {k : Fin 4} {i : Nat} {x : Nat} (hd : decode cc pc = .ok (.astore_n k, 1)) (hi : (k : Nat) = i) (hn : i < nL) {lv' : List (Nat × Value)} (hl : (i, Value.ref x) :: lv.filter (fun q => !(q.1 == i) && !(q.1 + 1 == i && q.2.category == 2)) = lv') (k : V K ad n1 n2 Z M (pc + 1) lv' st) : V K ad n1 n2 Z M pc lv (.ref x :: st) := fun H locs ls hz hP hD hS h9 => lv_astore_n f.1 f.2.1 hd hi h9 (by rw [f.2.2.2.1]; exact hn) hl (fun ls' hl' => k H locs ls' hz hP hD hS hl')
theorem V_astore (f : Fx K cc own nL rm) {i : Nat} {x : Nat} (hd : decode cc pc = .ok (.astore i, 2)) (hn : i < nL) {lv' : List (Nat × Value)} (hl : (i, Value.ref x) :: lv.filter (fun q => !(q.1 == i) && !(q.1 + 1 == i && q.2.category == 2)) = lv') (k : V K ad n1 n2 Z M (pc + 2) lv' st) : V K ad n1 n2 Z M pc lv (.ref x :: st) := fun H locs ls hz hP hD hS h9 => lv_astore f.1 f.2.1 hd h9 (by rw [f.2.2.2.1]; exact hn) hl (fun ls' hl' => k H locs ls' hz hP hD hS hl')
theorem V_lload_n (f : Fx K cc own nL rm) {k : Fin 4} {x : Int64} (hd : decode cc pc = .ok (.lload_n k, 1)) (j : Nat) (hj : lv[j]? = some ((k : Nat), .long x)) (k : V K ad n1 n2 Z M (pc + 1) lv (.long x :: st)) : V K ad n1 n2 Z M pc lv (st) := fun H locs ls hz hP hD hS hl => lv_lload_n f.1 f.2.1 hd rfl (lv_at hl j hj) (k H locs ls hz hP hD hS hl)
theorem V_lload (f : Fx K cc own nL rm) {i : Nat} {x : Int64} (hd : decode cc pc = .ok (.lload i, 2)) (j : Nat) (hj : lv[j]? = some (i, .long x)) (k : V K ad n1 n2 Z M (pc + 2) lv (.long x :: st)) : V K ad n1 n2 Z M pc lv (st) := fun H locs ls hz hP hD hS hl => lv_lload f.1 f.2.1 hd (lv_at hl j hj) (k H locs ls hz hP hD hS hl)
theorem V_lstore_n (f : Fx K cc own nL rm) {k : Fin 4} {i : Nat} {x : Int64} (hd : decode cc pc = .ok (.lstore_n k, 1)) (hi : (k : Nat) = i) (hn : i + 1 < nL) {lv' : List (Nat × Value)} (hl : (i, Value.long x) :: lv.filter (fun q => !(q.1 == i) && (!(q.1 == i + 1) && !(q.1 + 1 == i && q.2.category == 2))) = lv') (k : V K ad n1 n2 Z M (pc + 1) lv' st) : V K ad n1 n2 Z M pc lv (.long x :: st) := fun H locs ls hz hP hD hS h9 => lv_lstore_n f.1 f.2.1 hd hi h9 (by rw [f.2.2.2.1]; exact hn) hl (fun ls' hl' => k H locs ls' hz hP hD hS hl')
theorem V_lstore (f : Fx K cc own nL rm) {i : Nat} {x : Int64} (hd : decode cc pc = .ok (.lstore i, 2)) (hn : i + 1 < nL) {lv' : List (Nat × Value)} (hl : (i, Value.long x) :: lv.filter (fun q => !(q.1 == i) && (!(q.1 == i + 1) && !(q.1 + 1 == i && q.2.category == 2))) = lv') (k : V K ad n1 n2 Z M (pc + 2) lv' st) : V K ad n1 n2 Z M pc lv (.long x :: st) := fun H locs ls hz hP hD hS h9 => lv_lstore f.1 f.2.1 hd h9 (by rw [f.2.2.2.1]; exact hn) hl (fun ls' hl' => k H locs ls' hz hP hD hS hl')
theorem V_iinc (f : Fx K cc own nL rm) {i : Nat} {n : Int} {x v : Int32} (hd : decode cc pc = .ok (.iinc i n, 3)) (j : Nat) (hj : lv[j]? = some (i, .int x)) (hv : x + Int32.ofInt n = v) (hn : i < nL) {lv' : List (Nat × Value)} (hl : (i, Value.int v) :: lv.filter (fun q => !(q.1 == i) && !(q.1 + 1 == i && q.2.category == 2)) = lv') (k : V K ad n1 n2 Z M (pc + 3) lv' st) : V K ad n1 n2 Z M pc lv st := fun H locs ls hz hP hD hS h9 => lv_iinc f.1 f.2.1 hd h9 hj hv (by rw [f.2.2.2.1]; exact hn) hl (fun ls' hl' => k H locs ls' hz hP hD hS hl')
theorem V_iconst (f : Fx K cc own nL rm) {n : Int} {v : Int32} (hd : decode cc pc = .ok (.iconst n, 1)) (hv : Int32.ofInt n = v) (k : V K ad n1 n2 Z M (pc + 1) lv (.int v :: st)) : V K ad n1 n2 Z M pc lv (st) := fun H locs ls hz hP hD hS hl => lv_iconst f.1 f.2.1 hd hv (k H locs ls hz hP hD hS hl)
theorem V_bipush (f : Fx K cc own nL rm) {n : Int} {v : Int32} (hd : decode cc pc = .ok (.bipush n, 2)) (hv : (Int8.ofInt n).toInt32 = v) (k : V K ad n1 n2 Z M (pc + 2) lv (.int v :: st)) : V K ad n1 n2 Z M pc lv (st) := fun H locs ls hz hP hD hS hl => lv_bipush f.1 f.2.1 hd hv (k H locs ls hz hP hD hS hl)
theorem V_sipush (f : Fx K cc own nL rm) {n : Int} {v : Int32} (hd : decode cc pc = .ok (.sipush n, 3)) (hv : (Int16.ofInt n).toInt32 = v) (k : V K ad n1 n2 Z M (pc + 3) lv (.int v :: st)) : V K ad n1 n2 Z M pc lv (st) := fun H locs ls hz hP hD hS hl => lv_sipush f.1 f.2.1 hd hv (k H locs ls hz hP hD hS hl)
theorem V_lconst (f : Fx K cc own nL rm) {n : Fin 2} {v : Int64} (hd : decode cc pc = .ok (.lconst n, 1)) (hv : Int64.ofNat (n : Nat) = v) (k : V K ad n1 n2 Z M (pc + 1) lv (.long v :: st)) : V K ad n1 n2 Z M pc lv (st) := fun H locs ls hz hP hD hS hl => lv_lconst f.1 f.2.1 hd hv (k H locs ls hz hP hD hS hl)
theorem V_iadd (f : Fx K cc own nL rm) {x y : Int32} (hd : decode cc pc = .ok (.iadd, 1)) (k : V K ad n1 n2 Z M (pc + 1) lv (.int (x + y) :: st)) : V K ad n1 n2 Z M pc lv (.int y :: .int x :: st) := fun H locs ls hz hP hD hS hl => lv_iadd f.1 f.2.1 hd (k H locs ls hz hP hD hS hl)
theorem V_isub (f : Fx K cc own nL rm) {x y : Int32} (hd : decode cc pc = .ok (.isub, 1)) (k : V K ad n1 n2 Z M (pc + 1) lv (.int (x - y) :: st)) : V K ad n1 n2 Z M pc lv (.int y :: .int x :: st) := fun H locs ls hz hP hD hS hl => lv_isub f.1 f.2.1 hd (k H locs ls hz hP hD hS hl)
theorem V_imul (f : Fx K cc own nL rm) {x y : Int32} (hd : decode cc pc = .ok (.imul, 1)) (k : V K ad n1 n2 Z M (pc + 1) lv (.int (x * y) :: st)) : V K ad n1 n2 Z M pc lv (.int y :: .int x :: st) := fun H locs ls hz hP hD hS hl => lv_imul f.1 f.2.1 hd (k H locs ls hz hP hD hS hl)
theorem V_iand (f : Fx K cc own nL rm) {x y : Int32} (hd : decode cc pc = .ok (.iand, 1)) (k : V K ad n1 n2 Z M (pc + 1) lv (.int (x &&& y) :: st)) : V K ad n1 n2 Z M pc lv (.int y :: .int x :: st) := fun H locs ls hz hP hD hS hl => lv_iand f.1 f.2.1 hd (k H locs ls hz hP hD hS hl)
theorem V_ior (f : Fx K cc own nL rm) {x y : Int32} (hd : decode cc pc = .ok (.ior, 1)) (k : V K ad n1 n2 Z M (pc + 1) lv (.int (x ||| y) :: st)) : V K ad n1 n2 Z M pc lv (.int y :: .int x :: st) := fun H locs ls hz hP hD hS hl => lv_ior f.1 f.2.1 hd (k H locs ls hz hP hD hS hl)
theorem V_ishl (f : Fx K cc own nL rm) {x y : Int32} (hd : decode cc pc = .ok (.ishl, 1)) (k : V K ad n1 n2 Z M (pc + 1) lv (.int (x <<< (y &&& 31)) :: st)) : V K ad n1 n2 Z M pc lv (.int y :: .int x :: st) := fun H locs ls hz hP hD hS hl => lv_ishl f.1 f.2.1 hd (k H locs ls hz hP hD hS hl)
theorem V_ishr (f : Fx K cc own nL rm) {x y : Int32} (hd : decode cc pc = .ok (.ishr, 1)) (k : V K ad n1 n2 Z M (pc + 1) lv (.int (x >>> (y &&& 31)) :: st)) : V K ad n1 n2 Z M pc lv (.int y :: .int x :: st) := fun H locs ls hz hP hD hS hl => lv_ishr f.1 f.2.1 hd (k H locs ls hz hP hD hS hl)
theorem V_idiv (f : Fx K cc own nL rm) {x y : Int32} (hd : decode cc pc = .ok (.idiv, 1)) (hne : ¬ y = 0) (k : V K ad n1 n2 Z M (pc + 1) lv (.int (x / y) :: st)) : V K ad n1 n2 Z M pc lv (.int y :: .int x :: st) := fun H locs ls hz hP hD hS hl => lv_idiv f.1 f.2.1 hd hne (k H locs ls hz hP hD hS hl)
theorem V_irem (f : Fx K cc own nL rm) {x y : Int32} (hd : decode cc pc = .ok (.irem, 1)) (hne : ¬ y = 0) (k : V K ad n1 n2 Z M (pc + 1) lv (.int (x - x / y * y) :: st)) : V K ad n1 n2 Z M pc lv (.int y :: .int x :: st) := fun H locs ls hz hP hD hS hl => lv_irem f.1 f.2.1 hd hne (k H locs ls hz hP hD hS hl)
theorem V_i2b (f : Fx K cc own nL rm) {x : Int32} (hd : decode cc pc = .ok (.i2b, 1)) (k : V K ad n1 n2 Z M (pc + 1) lv (.int (x.toInt8.toInt32) :: st)) : V K ad n1 n2 Z M pc lv (.int x :: st) := fun H locs ls hz hP hD hS hl => lv_i2b f.1 f.2.1 hd rfl (k H locs ls hz hP hD hS hl)
theorem V_i2l (f : Fx K cc own nL rm) {x : Int32} (hd : decode cc pc = .ok (.i2l, 1)) (k : V K ad n1 n2 Z M (pc + 1) lv (.long (x.toInt64) :: st)) : V K ad n1 n2 Z M pc lv (.int x :: st) := fun H locs ls hz hP hD hS hl => lv_i2l f.1 f.2.1 hd rfl (k H locs ls hz hP hD hS hl)
theorem V_lor (f : Fx K cc own nL rm) {x y : Int64} (hd : decode cc pc = .ok (.lor, 1)) (k : V K ad n1 n2 Z M (pc + 1) lv (.long (x ||| y) :: st)) : V K ad n1 n2 Z M pc lv (.long y :: .long x :: st) := fun H locs ls hz hP hD hS hl => lv_lor f.1 f.2.1 hd (k H locs ls hz hP hD hS hl)
theorem V_lshl (f : Fx K cc own nL rm) {x : Int64} {y : Int32} (hd : decode cc pc = .ok (.lshl, 1)) (k : V K ad n1 n2 Z M (pc + 1) lv (.long (x <<< (y.toInt64 &&& 63)) :: st)) : V K ad n1 n2 Z M pc lv (.int y :: .long x :: st) := fun H locs ls hz hP hD hS hl => lv_lshl f.1 f.2.1 hd rfl (k H locs ls hz hP hD hS hl)
theorem V_lcmp (f : Fx K cc own nL rm) {x y : Int64} (hd : decode cc pc = .ok (.lcmp, 1)) (k : V K ad n1 n2 Z M (pc + 1) lv (.int (lg_cmp x y) :: st)) : V K ad n1 n2 Z M pc lv (.long y :: .long x :: st) := fun H locs ls hz hP hD hS hl => W.lcmp f.1 f.2.1 hd (k H locs ls hz hP hD hS hl)
theorem V_dup (f : Fx K cc own nL rm) {v : Value} (hd : decode cc pc = .ok (.dup, 1)) (hv : v.category = 1) (k : V K ad n1 n2 Z M (pc + 1) lv (v :: v :: st)) : V K ad n1 n2 Z M pc lv (v :: st) := fun H locs ls hz hP hD hS hl => lv_dup f.1 f.2.1 hd hv (k H locs ls hz hP hD hS hl)
theorem V_dup2 (f : Fx K cc own nL rm) {va vb : Value} (hd : decode cc pc = .ok (.dup2, 1)) (hva : va.category = 1) (hvb : vb.category = 1) (k : V K ad n1 n2 Z M (pc + 1) lv (va :: vb :: va :: vb :: st)) : V K ad n1 n2 Z M pc lv (va :: vb :: st) := fun H locs ls hz hP hD hS hl => lv_dup2_11 f.1 f.2.1 hd hva hvb (k H locs ls hz hP hD hS hl)
theorem V_goto (f : Fx K cc own nL rm) {off : Int} {tgt : Nat} (hd : decode cc pc = .ok (.goto off, 3)) (ht : (pc : Int) + off = (tgt : Int)) (k : V K ad n1 n2 Z M tgt lv st) : V K ad n1 n2 Z M pc lv st := fun H locs ls hz hP hD hS hl => lv_goto f.1 f.2.1 hd ht (k H locs ls hz hP hD hS hl)
theorem V_if_eq (f : Fx K cc own nL rm) {x : Int32} {off : Int} {tgt : Nat} (hd : decode cc pc = .ok (.ifCond .eq off, 3)) (ht : (pc : Int) + off = (tgt : Int)) (kt : x = 0 → V K ad n1 n2 Z M tgt lv st) (kf : ¬ x = 0 → V K ad n1 n2 Z M (pc + 3) lv st) : V K ad n1 n2 Z M pc lv (.int x :: st) := fun H locs ls hz hP hD hS hl => lv_if_eq f.1 f.2.1 hd ht (fun q => kt q H locs ls hz hP hD hS hl) (fun q => kf q H locs ls hz hP hD hS hl)
theorem V_icmp_eq (f : Fx K cc own nL rm) {x y : Int32} {off : Int} {tgt : Nat} (hd : decode cc pc = .ok (.if_icmp .eq off, 3)) (ht : (pc : Int) + off = (tgt : Int)) (kt : x = y → V K ad n1 n2 Z M tgt lv st) (kf : ¬ x = y → V K ad n1 n2 Z M (pc + 3) lv st) : V K ad n1 n2 Z M pc lv (.int y :: .int x :: st) := fun H locs ls hz hP hD hS hl => lv_icmp_eq f.1 f.2.1 hd ht (fun q => kt q H locs ls hz hP hD hS hl) (fun q => kf q H locs ls hz hP hD hS hl)
theorem V_if_ne (f : Fx K cc own nL rm) {x : Int32} {off : Int} {tgt : Nat} (hd : decode cc pc = .ok (.ifCond .ne off, 3)) (ht : (pc : Int) + off = (tgt : Int)) (kt : ¬ x = 0 → V K ad n1 n2 Z M tgt lv st) (kf : x = 0 → V K ad n1 n2 Z M (pc + 3) lv st) : V K ad n1 n2 Z M pc lv (.int x :: st) := fun H locs ls hz hP hD hS hl => lv_if_ne f.1 f.2.1 hd ht (fun q => kt q H locs ls hz hP hD hS hl) (fun q => kf q H locs ls hz hP hD hS hl)
theorem V_icmp_ne (f : Fx K cc own nL rm) {x y : Int32} {off : Int} {tgt : Nat} (hd : decode cc pc = .ok (.if_icmp .ne off, 3)) (ht : (pc : Int) + off = (tgt : Int)) (kt : ¬ x = y → V K ad n1 n2 Z M tgt lv st) (kf : x = y → V K ad n1 n2 Z M (pc + 3) lv st) : V K ad n1 n2 Z M pc lv (.int y :: .int x :: st) := fun H locs ls hz hP hD hS hl => lv_icmp_ne f.1 f.2.1 hd ht (fun q => kt q H locs ls hz hP hD hS hl) (fun q => kf q H locs ls hz hP hD hS hl)
theorem V_if_lt (f : Fx K cc own nL rm) {x : Int32} {off : Int} {tgt : Nat} (hd : decode cc pc = .ok (.ifCond .lt off, 3)) (ht : (pc : Int) + off = (tgt : Int)) (kt : x < 0 → V K ad n1 n2 Z M tgt lv st) (kf : ¬ x < 0 → V K ad n1 n2 Z M (pc + 3) lv st) : V K ad n1 n2 Z M pc lv (.int x :: st) := fun H locs ls hz hP hD hS hl => lv_if_lt f.1 f.2.1 hd ht (fun q => kt q H locs ls hz hP hD hS hl) (fun q => kf q H locs ls hz hP hD hS hl)
theorem V_icmp_lt (f : Fx K cc own nL rm) {x y : Int32} {off : Int} {tgt : Nat} (hd : decode cc pc = .ok (.if_icmp .lt off, 3)) (ht : (pc : Int) + off = (tgt : Int)) (kt : x < y → V K ad n1 n2 Z M tgt lv st) (kf : ¬ x < y → V K ad n1 n2 Z M (pc + 3) lv st) : V K ad n1 n2 Z M pc lv (.int y :: .int x :: st) := fun H locs ls hz hP hD hS hl => lv_icmp_lt f.1 f.2.1 hd ht (fun q => kt q H locs ls hz hP hD hS hl) (fun q => kf q H locs ls hz hP hD hS hl)
theorem V_if_ge (f : Fx K cc own nL rm) {x : Int32} {off : Int} {tgt : Nat} (hd : decode cc pc = .ok (.ifCond .ge off, 3)) (ht : (pc : Int) + off = (tgt : Int)) (kt : 0 ≤ x → V K ad n1 n2 Z M tgt lv st) (kf : ¬ 0 ≤ x → V K ad n1 n2 Z M (pc + 3) lv st) : V K ad n1 n2 Z M pc lv (.int x :: st) := fun H locs ls hz hP hD hS hl => lv_if_ge f.1 f.2.1 hd ht (fun q => kt q H locs ls hz hP hD hS hl) (fun q => kf q H locs ls hz hP hD hS hl)
theorem V_icmp_ge (f : Fx K cc own nL rm) {x y : Int32} {off : Int} {tgt : Nat} (hd : decode cc pc = .ok (.if_icmp .ge off, 3)) (ht : (pc : Int) + off = (tgt : Int)) (kt : y ≤ x → V K ad n1 n2 Z M tgt lv st) (kf : ¬ y ≤ x → V K ad n1 n2 Z M (pc + 3) lv st) : V K ad n1 n2 Z M pc lv (.int y :: .int x :: st) := fun H locs ls hz hP hD hS hl => lv_icmp_ge f.1 f.2.1 hd ht (fun q => kt q H locs ls hz hP hD hS hl) (fun q => kf q H locs ls hz hP hD hS hl)
theorem V_if_gt (f : Fx K cc own nL rm) {x : Int32} {off : Int} {tgt : Nat} (hd : decode cc pc = .ok (.ifCond .gt off, 3)) (ht : (pc : Int) + off = (tgt : Int)) (kt : 0 < x → V K ad n1 n2 Z M tgt lv st) (kf : ¬ 0 < x → V K ad n1 n2 Z M (pc + 3) lv st) : V K ad n1 n2 Z M pc lv (.int x :: st) := fun H locs ls hz hP hD hS hl => lv_if_gt f.1 f.2.1 hd ht (fun q => kt q H locs ls hz hP hD hS hl) (fun q => kf q H locs ls hz hP hD hS hl)
theorem V_icmp_gt (f : Fx K cc own nL rm) {x y : Int32} {off : Int} {tgt : Nat} (hd : decode cc pc = .ok (.if_icmp .gt off, 3)) (ht : (pc : Int) + off = (tgt : Int)) (kt : y < x → V K ad n1 n2 Z M tgt lv st) (kf : ¬ y < x → V K ad n1 n2 Z M (pc + 3) lv st) : V K ad n1 n2 Z M pc lv (.int y :: .int x :: st) := fun H locs ls hz hP hD hS hl => lv_icmp_gt f.1 f.2.1 hd ht (fun q => kt q H locs ls hz hP hD hS hl) (fun q => kf q H locs ls hz hP hD hS hl)
theorem V_if_le (f : Fx K cc own nL rm) {x : Int32} {off : Int} {tgt : Nat} (hd : decode cc pc = .ok (.ifCond .le off, 3)) (ht : (pc : Int) + off = (tgt : Int)) (kt : x ≤ 0 → V K ad n1 n2 Z M tgt lv st) (kf : ¬ x ≤ 0 → V K ad n1 n2 Z M (pc + 3) lv st) : V K ad n1 n2 Z M pc lv (.int x :: st) := fun H locs ls hz hP hD hS hl => lv_if_le f.1 f.2.1 hd ht (fun q => kt q H locs ls hz hP hD hS hl) (fun q => kf q H locs ls hz hP hD hS hl)
theorem V_icmp_le (f : Fx K cc own nL rm) {x y : Int32} {off : Int} {tgt : Nat} (hd : decode cc pc = .ok (.if_icmp .le off, 3)) (ht : (pc : Int) + off = (tgt : Int)) (kt : x ≤ y → V K ad n1 n2 Z M tgt lv st) (kf : ¬ x ≤ y → V K ad n1 n2 Z M (pc + 3) lv st) : V K ad n1 n2 Z M pc lv (.int y :: .int x :: st) := fun H locs ls hz hP hD hS hl => lv_icmp_le f.1 f.2.1 hd ht (fun q => kt q H locs ls hz hP hD hS hl) (fun q => kf q H locs ls hz hP hD hS hl)
theorem V_tableIn (f : Fx K cc own nL rm) {dflt lo hi : Int} {offs : Array Int} {len : Nat} {x : Int32} {off : Int} {tgt : Nat} (hd : decode cc pc = .ok (.tableswitch dflt lo hi offs, len)) (h1 : ¬ x.toInt < lo) (h2 : ¬ hi < x.toInt) (ho : offs[(x.toInt - lo).toNat]? = some off) (ht : (pc : Int) + off = (tgt : Int)) (k : V K ad n1 n2 Z M tgt lv st) : V K ad n1 n2 Z M pc lv (.int x :: st) := fun H locs ls hz hP hD hS hl => lv_tableIn f.1 f.2.1 hd h1 h2 ho ht (k H locs ls hz hP hD hS hl)
theorem V_tableOut (f : Fx K cc own nL rm) {dflt lo hi : Int} {offs : Array Int} {len : Nat} {x : Int32} {tgt : Nat} (hd : decode cc pc = .ok (.tableswitch dflt lo hi offs, len)) (h : x.toInt < lo ∨ hi < x.toInt) (ht : (pc : Int) + dflt = (tgt : Int)) (k : V K ad n1 n2 Z M tgt lv st) : V K ad n1 n2 Z M pc lv (.int x :: st) := fun H locs ls hz hP hD hS hl => lv_tableOut f.1 f.2.1 hd h ht (k H locs ls hz hP hD hS hl)
theorem V_lookup (f : Fx K cc own nL rm) {dflt : Int} {ps : Array (Int × Int)} {len : Nat} {x : Int32} {off : Int} {tgt : Nat} (hd : decode cc pc = .ok (.lookupswitch dflt ps, len)) (hp : (ps.toList.zip (ps.toList.drop 1)).all (fun (a, next) => a.1 < next.1) = true) (ho : Op.lookupswitch.offset ps.toList dflt x.toInt = off) (ht : (pc : Int) + off = (tgt : Int)) (k : V K ad n1 n2 Z M tgt lv st) : V K ad n1 n2 Z M pc lv (.int x :: st) := fun H locs ls hz hP hD hS hl => lv_lookup f.1 f.2.1 hd hp ho ht (k H locs ls hz hP hD hS hl)
theorem V_ldc2 (f : Fx K cc own nL rm) {index : Nat} {v : Int64} (hd : decode cc pc = .ok (.ldc2_w index, 3)) (hc : Jvm.Cond.constantLong own index v ∈ tbG) (k : V K ad n1 n2 Z M (pc + 3) lv (.long v :: st)) : V K ad n1 n2 Z M pc lv st := fun H locs ls hz hP hD hS hl => lv_ldc2 f.1 f.2.1 f.2.2.2.2.1 (f.2.2.2.2.2.1 _ hc) hd (k H locs ls hz hP hD hS hl)
theorem V_objInit (f : Fx K cc own nL rm) {idx : Nat} {a : Nat} (hd : decode cc pc = .ok (.invokespecial idx, 3)) (h1 : Cond.methodLink own idx objectInit ∈ tbG) (h2 : Cond.instanceMethod objectInit ∈ tbG) (h3 : Cond.code objectInit ⟨#[0xb1]⟩ 1 none ∈ tbG) (hf : 1 ≤ rm.frames) (hl : (st.map fun v => v.category).sum + 12 ≤ rm.locals) (k : V K ad n1 n2 Z M (pc + 3) lv st) : V K ad n1 n2 Z M pc lv (.ref a :: st) := fun H locs ls hz hP hD hS h9 => by
  refine W.objInit f.1 f.2.1 f.2.2.2.2.1 (f.2.2.2.2.2.1 _ h1) (f.2.2.2.2.2.1 _ h2) (f.2.2.2.2.2.1 _ h3) rfl (by rw [f.2.2.1]; exact h9.1) rfl hd (by rw [f.2.2.2.2.2.2.2.2.1]; exact hf) (by rw [f.2.2.2.2.2.2.2.2.1]; show 2 * 0 + _ + 12 ≤ _; omega) ?_
  exact k H locs ls hz hP hD hS h9
/-- the field k of the class of number ci, as the instruction names it -/
def LF (own : String) (idx ci k : Nat) (C : String) (T : u_T) (N : Nat) : Prop := ci < 10 ∧ vwCl[ci]? = some (C, T, N) ∧ k < N ∧ Cond.fieldLink own idx (T k).1 (T k).2.1 (T k).2.2.1 ∈ tbG ∧ ∀ w ∈ u_ws C T N, w ∈ tbG
def LPf (k : Nat) (T : u_T) (N : Nat) (ty : FieldType) : Prop := (∃ ty0 : Nat → FieldType, ∀ k, k < N → parseFieldDescriptor (T k).2.2.1 = some (ty0 k)) ∧ (∀ a, a < N → ∀ b, b < N → a ≠ b → (T a).2.1 ≠ (T b).2.1) ∧ parseFieldDescriptor (T k).2.2.1 = some ty
theorem cE_obj {cy : Nat → ClassId} {ad : Nat → Nat} {ci n : Nat} {rs : List (Option Nat)} {m : Nat → Int32} (h : ci < 10) : cE cy ad (ci, n, rs) m = .inr (ci, kV ad rs m (kFl ci) 0) := by simp [cE, h]
theorem V_getI (f : Fx K cc own nL rm) {idx ci k : Nat} {C : String} {T : u_T} {N : Nat} (hd : decode cc pc = .ok (.getfield idx, 3)) (lf : LF own idx ci k C T N) (hfl : (kFl ci)[k]? = some false) {i n : Nat} {rs : List (Option Nat)} (hi : Z[i]? = some (ci, n, rs)) (kk : V K ad n1 n2 Z M (pc + 3) lv (.int (M i k) :: st)) : V K ad n1 n2 Z M pc lv (.ref (ad i) :: st) := fun H locs ls hz hP hD hS hl => by
  obtain ⟨hci, hc, hk, hlk, hin⟩ := lf
  have he := wl_get (cy := ky K) (ad := ad) (M := M) (X := kX K) hi
  rw [cE_obj hci] at he
  have hv := kV_get ad rs (M i) (kFl ci) 0 k false hfl
  simp only [Nat.zero_add] at hv
  exact va_get (C := C) (T := T) (N := N) f.1 f.2.1 f.2.2.2.2.2.1 hin f.2.2.2.2.1 f.2.2.2.2.2.2.1.1 hP _ he hc k hk (f.2.2.2.2.2.1 _ hlk) (fun _ h9 => h9) hv hd (kk H locs ls hz hP hD hS hl)
theorem V_getR (f : Fx K cc own nL rm) {idx ci k : Nat} {C : String} {T : u_T} {N : Nat} (hd : decode cc pc = .ok (.getfield idx, 3)) (lf : LF own idx ci k C T N) (hfl : (kFl ci)[k]? = some true) {i n j : Nat} {rs : List (Option Nat)} (hi : Z[i]? = some (ci, n, rs)) (hj : rs.getD k none = some j) (kk : V K ad n1 n2 Z M (pc + 3) lv (.ref (ad j) :: st)) : V K ad n1 n2 Z M pc lv (.ref (ad i) :: st) := fun H locs ls hz hP hD hS hl => by
  obtain ⟨hci, hc, hk, hlk, hin⟩ := lf
  have he := wl_get (cy := ky K) (ad := ad) (M := M) (X := kX K) hi
  rw [cE_obj hci] at he
  have hv := kV_get ad rs (M i) (kFl ci) 0 k true hfl
  simp only [Nat.zero_add, if_true, hj, Option.map_some, va_rf] at hv
  exact va_get (C := C) (T := T) (N := N) f.1 f.2.1 f.2.2.2.2.2.1 hin f.2.2.2.2.1 f.2.2.2.2.2.2.1.1 hP _ he hc k hk (f.2.2.2.2.2.1 _ hlk) (fun _ h9 => h9) hv hd (kk H locs ls hz hP hD hS hl)
theorem V_putI (f : Fx K cc own nL rm) {idx ci k : Nat} {C : String} {T : u_T} {N : Nat} {ty : FieldType} (hd : decode cc pc = .ok (.putfield idx, 3)) (lf : LF own idx ci k C T N) (lp : LPf k T N ty) (hfin : (T k).2.2.2 = false) (hfl : (kFl ci)[k]? = some false) {v : Int32} (hn : narrow ty (.int v) = .int v) (hfit : fits ty (.int v) = true) {i n : Nat} {rs : List (Option Nat)} (hi : Z[i]? = some (ci, n, rs)) (kk : V K ad n1 n2 Z (up2 M i k v) (pc + 3) lv st) : V K ad n1 n2 Z M pc lv (.int v :: .ref (ad i) :: st) := fun H locs ls hz hP hD hS hl => by
  obtain ⟨hci, hc, hk, hlk, hin⟩ := lf
  obtain ⟨⟨ty0, hty⟩, hnm, hpd⟩ := lp
  have he := wl_get (cy := ky K) (ad := ad) (M := M) (X := kX K) hi
  rw [cE_obj hci] at he
  refine va_put (C := C) (T := T) (N := N) f.1 f.2.1 f.2.2.2.2.2.1 hin ty0 hty hnm f.2.2.2.2.1 f.2.2.2.2.2.2.1.1 hP hD hS _ he hc k hk (f.2.2.2.2.2.1 _ hlk) (fun _ h9 => h9) hfin hpd hn hfit (by rw [kV_len]; exact (List.getElem?_eq_some_iff.mp hfl).1) hd (fun H1 locs1 hP1 hD1 hS1 => ?_)
  rw [kV_setI (kFl ci) (M i) 0 k hfl, Nat.zero_add, ← cE_obj (cy := ky K) (n := n) hci, wl_setM hi] at hP1 hD1
  exact kk H1 locs1 ls hz hP1 hD1 hS1 hl
theorem V_putF (f : Fx K cc own nL rm) {idx ci k : Nat} {C : String} {T : u_T} {N : Nat} {ty : FieldType} (hd : decode cc pc = .ok (.putfield idx, 3)) (lf : LF own idx ci k C T N) (lp : LPf k T N ty) (hfin : (T k).2.2.2 = true) (hin2 : (kmt K).name = "<init>") (hdecl : (T k).1 = own) (hfl : (kFl ci)[k]? = some true) {r : Nat} (hn : narrow ty (.ref (ad r)) = .ref (ad r)) (hfit : fits ty (.ref (ad r)) = true) (hr : r < Z.length) {i n : Nat} {rs : List (Option Nat)} (hi : Z[i]? = some (ci, n, rs)) (hk2 : k < rs.length) (kk : V K ad n1 n2 (Z.set i (ci, n, rs.set k (some r))) M (pc + 3) lv st) : V K ad n1 n2 Z M pc lv (.ref (ad r) :: .ref (ad i) :: st) := fun H locs ls hz hP hD hS hl => by
  obtain ⟨hci, hc, hk, hlk, hin⟩ := lf
  obtain ⟨⟨ty0, hty⟩, hnm, hpd⟩ := lp
  have he := wl_get (cy := ky K) (ad := ad) (M := M) (X := kX K) hi
  rw [cE_obj hci] at he
  refine va_putF (C := C) (T := T) (N := N) f.1 f.2.1 f.2.2.2.2.2.1 hin ty0 hty hnm f.2.2.2.2.1 f.2.2.2.2.2.2.1.1 hP hD hS _ he hc k hk (f.2.2.2.2.2.1 _ hlk) (fun _ h9 => h9) hfin hin2 hdecl hpd hn hfit (by rw [kV_len]; exact (List.getElem?_eq_some_iff.mp hfl).1) hd (fun H1 locs1 hP1 hD1 hS1 => ?_)
  rw [kV_setR (kFl ci) rs 0 k hfl (by omega), Nat.zero_add, ← cE_obj (cy := ky K) (n := n) hci, wl_setZ hi] at hP1 hD1
  exact kk H1 locs1 ls (zok_setR hz hi hr) hP1 hD1 hS1 hl
theorem cE_int {cy : Nat → ClassId} {ad : Nat → Nat} {ci n : Nat} {rs : List (Option Nat)} {m : Nat → Int32} (h : ¬ ci < 10) (h2 : ci < 13) : cE cy ad (ci, n, rs) m = .inl (cy ci, n, .inl m) := by simp [cE, h, h2]
theorem cE_ref {cy : Nat → ClassId} {ad : Nat → Nat} {ci n : Nat} {rs : List (Option Nat)} {m : Nat → Int32} (h2 : ¬ ci < 13) : cE cy ad (ci, n, rs) m = .inl (cy ci, n, .inr (.inr (.inr (.inr (fun k => (rs.getD k none).map ad))))) := by simp [cE, h2, show ¬ ci < 10 by omega]
theorem V_iald (f : Fx K cc own nL rm) (hd : decode cc pc = .ok (.iaload, 1)) {a n : Nat} {rs : List (Option Nat)} (hi : Z[a]? = some (11, n, rs)) {i : Int32} (hin : vp_in i n) (kk : V K ad n1 n2 Z M (pc + 1) lv (.int (M a i.toNatClampNeg) :: st)) : V K ad n1 n2 Z M pc lv (.int i :: .ref (ad a) :: st) := fun H locs ls hz hP hD hS hl => by
  have he := wl_get (cy := ky K) (ad := ad) (M := M) (X := kX K) hi
  rw [cE_int (by decide) (by decide)] at he
  exact va_iald f.1 f.2.1 f.2.2.2.2.2.2.1.1 hP _ 1 he rfl hin hd (kk H locs ls hz hP hD hS hl)
theorem V_iast (f : Fx K cc own nL rm) (hd : decode cc pc = .ok (.iastore, 1)) {a n : Nat} {rs : List (Option Nat)} (hi : Z[a]? = some (11, n, rs)) {i x : Int32} (hin : vp_in i n) (kk : V K ad n1 n2 Z (up2 M a i.toNatClampNeg x) (pc + 1) lv st) : V K ad n1 n2 Z M pc lv (.int x :: .int i :: .ref (ad a) :: st) := fun H locs ls hz hP hD hS hl => by
  have he := wl_get (cy := ky K) (ad := ad) (M := M) (X := kX K) hi
  rw [cE_int (by decide) (by decide)] at he
  refine va_iast f.1 f.2.1 f.2.2.2.2.2.2.1.1 hP hD hS _ 1 he rfl hin hd (fun H1 locs1 hP1 hD1 hS1 => ?_)
  have eq : upd (M a) i.toNatClampNeg x = va_up (M a) i.toNatClampNeg x := rfl
  rw [eq, ← cE_int (cy := ky K) (ad := ad) (rs := rs) (by decide) (by decide), wl_setM hi] at hP1 hD1
  exact kk H1 locs1 ls hz hP1 hD1 hS1 hl
theorem V_bald (f : Fx K cc own nL rm) (hd : decode cc pc = .ok (.baload, 1)) {a n : Nat} {rs : List (Option Nat)} (hi : Z[a]? = some (10, n, rs)) {i : Int32} (hin : vp_in i n) (kk : V K ad n1 n2 Z M (pc + 1) lv (.int (M a i.toNatClampNeg) :: st)) : V K ad n1 n2 Z M pc lv (.int i :: .ref (ad a) :: st) := fun H locs ls hz hP hD hS hl => by
  have he := wl_get (cy := ky K) (ad := ad) (M := M) (X := kX K) hi
  rw [cE_int (by decide) (by decide)] at he
  exact va_bald f.1 f.2.1 f.2.2.2.2.2.2.1.1 hP _ 0 he rfl hin hd (kk H locs ls hz hP hD hS hl)
theorem V_bast (f : Fx K cc own nL rm) (hd : decode cc pc = .ok (.bastore, 1)) {a n : Nat} {rs : List (Option Nat)} (hi : Z[a]? = some (10, n, rs)) {i x : Int32} (hin : vp_in i n) (kk : V K ad n1 n2 Z (up2 M a i.toNatClampNeg (vp_nar .byte x)) (pc + 1) lv st) : V K ad n1 n2 Z M pc lv (.int x :: .int i :: .ref (ad a) :: st) := fun H locs ls hz hP hD hS hl => by
  have he := wl_get (cy := ky K) (ad := ad) (M := M) (X := kX K) hi
  rw [cE_int (by decide) (by decide)] at he
  refine va_bast f.1 f.2.1 f.2.2.2.2.2.2.1.1 hP hD hS _ 0 he rfl hin hd (fun H1 locs1 hP1 hD1 hS1 => ?_)
  have eq : upd (M a) i.toNatClampNeg (vp_nar .byte x) = va_up (M a) i.toNatClampNeg (vp_nar .byte x) := rfl
  rw [eq, ← cE_int (cy := ky K) (ad := ad) (rs := rs) (by decide) (by decide), wl_setM hi] at hP1 hD1
  exact kk H1 locs1 ls hz hP1 hD1 hS1 hl
theorem V_zald (f : Fx K cc own nL rm) (hd : decode cc pc = .ok (.baload, 1)) {a n : Nat} {rs : List (Option Nat)} (hi : Z[a]? = some (12, n, rs)) {i : Int32} (hin : vp_in i n) (kk : V K ad n1 n2 Z M (pc + 1) lv (.int (M a i.toNatClampNeg) :: st)) : V K ad n1 n2 Z M pc lv (.int i :: .ref (ad a) :: st) := fun H locs ls hz hP hD hS hl => by
  have he := wl_get (cy := ky K) (ad := ad) (M := M) (X := kX K) hi
  rw [cE_int (by decide) (by decide)] at he
  exact va_zald f.1 f.2.1 f.2.2.2.2.2.2.1.1 hP _ 2 he rfl hin hd (kk H locs ls hz hP hD hS hl)
theorem V_zast (f : Fx K cc own nL rm) (hd : decode cc pc = .ok (.bastore, 1)) {a n : Nat} {rs : List (Option Nat)} (hi : Z[a]? = some (12, n, rs)) {i x : Int32} (hin : vp_in i n) (kk : V K ad n1 n2 Z (up2 M a i.toNatClampNeg (vp_nar .boolean x)) (pc + 1) lv st) : V K ad n1 n2 Z M pc lv (.int x :: .int i :: .ref (ad a) :: st) := fun H locs ls hz hP hD hS hl => by
  have he := wl_get (cy := ky K) (ad := ad) (M := M) (X := kX K) hi
  rw [cE_int (by decide) (by decide)] at he
  refine va_zast f.1 f.2.1 f.2.2.2.2.2.2.1.1 hP hD hS _ 2 he rfl hin hd (fun H1 locs1 hP1 hD1 hS1 => ?_)
  have eq : upd (M a) i.toNatClampNeg (vp_nar .boolean x) = va_up (M a) i.toNatClampNeg (vp_nar .boolean x) := rfl
  rw [eq, ← cE_int (cy := ky K) (ad := ad) (rs := rs) (by decide) (by decide), wl_setM hi] at hP1 hD1
  exact kk H1 locs1 ls hz hP1 hD1 hS1 hl
theorem V_aald (f : Fx K cc own nL rm) (hd : decode cc pc = .ok (.aaload, 1)) {a n ci t0 j : Nat} {C : String} {rs : List (Option Nat)} (hi : Z[a]? = some (ci, n, rs)) (hci : ¬ ci < 13) (ht : (tyL (ky K))[t0]? = some (ky K ci, .object C)) {i : Int32} (hin : vp_in i n) (hj : rs.getD i.toNatClampNeg none = some j) (kk : V K ad n1 n2 Z M (pc + 1) lv (.ref (ad j) :: st)) : V K ad n1 n2 Z M pc lv (.int i :: .ref (ad a) :: st) := fun H locs ls hz hP hD hS hl => by
  have he := wl_get (cy := ky K) (ad := ad) (M := M) (X := kX K) hi
  rw [cE_ref hci] at he
  refine va_aldq f.1 f.2.1 f.2.2.2.2.2.2.1.1 hP _ t0 he ht hin hd ?_
  have e9 : va_rf ((rs.getD i.toNatClampNeg none).map ad) = .ref (ad j) := by rw [hj]; rfl
  show W _ _ _ _ _ _ _ _ _ _ _ _ _ _ _ (F0 _ _ _ (va_rf ((rs.getD i.toNatClampNeg none).map ad) :: st))
  rw [e9]
  exact kk H locs ls hz hP hD hS hl
theorem V_aast (f : Fx K cc own nL rm) (hd : decode cc pc = .ok (.aastore, 1)) {a n ci t0 cj nj r : Nat} {q : vw_C} {rs rj : List (Option Nat)} (hi : Z[a]? = some (ci, n, rs)) (hci : ¬ ci < 13) (ht : (tyL (ky K))[t0]? = some (ky K ci, .object q.1)) (hr : Z[r]? = some (cj, nj, rj)) (hcj : cj < 10) (hc : vwCl[cj]? = some q) {i : Int32} (hin : vp_in i n) (hlen : i.toNatClampNeg < rs.length) (kk : V K ad n1 n2 (Z.set a (ci, n, rs.set i.toNatClampNeg (some r))) M (pc + 1) lv st) : V K ad n1 n2 Z M pc lv (.ref (ad r) :: .int i :: .ref (ad a) :: st) := fun H locs ls hz hP hD hS hl => by
  have he := wl_get (cy := ky K) (ad := ad) (M := M) (X := kX K) hi
  have hv := wl_get (cy := ky K) (ad := ad) (M := M) (X := kX K) hr
  rw [cE_ref hci] at he
  rw [cE_obj hcj] at hv
  refine va_astq f.1 f.2.1 f.2.2.2.2.2.2.1.1 hP hD hS _ t0 _ cj he ht hv hc hin hd (fun H1 locs1 hP1 hD1 hS1 => ?_)
  have e9 : va_up (fun k => (rs.getD k none).map ad) i.toNatClampNeg (some (ad r)) = fun k => ((rs.set i.toNatClampNeg (some r)).getD k none).map ad := by
    funext k
    by_cases hk : k = i.toNatClampNeg
    · subst hk
      simp only [va_up, if_true, List.getD_eq_getElem?_getD]
      rw [List.getElem?_set_self hlen]
      rfl
    · simp only [va_up, if_neg hk, List.getD_eq_getElem?_getD]
      rw [List.getElem?_set_ne (fun h => hk h.symm)]
  rw [e9, ← cE_ref (cy := ky K) (m := M a) hci, wl_setZ hi] at hP1 hD1
  exact kk H1 locs1 ls (zok_setR hz hi (List.getElem?_eq_some_iff.mp hr).1) hP1 hD1 hS1 hl
theorem V_alen (f : Fx K cc own nL rm) (hd : decode cc pc = .ok (.arraylength, 1)) {a n ci t0 : Nat} {ty : FieldType} {rs : List (Option Nat)} (hi : Z[a]? = some (ci, n, rs)) (hci : ¬ ci < 10) (ht : (tyL (ky K))[t0]? = some (ky K ci, ty)) (kk : V K ad n1 n2 Z M (pc + 1) lv (.int (Int32.ofNat n) :: st)) : V K ad n1 n2 Z M pc lv (.ref (ad a) :: st) := fun H locs ls hz hP hD hS hl => by
  have he := wl_get (cy := ky K) (ad := ad) (M := M) (X := kX K) hi
  by_cases h13 : ci < 13
  · rw [cE_int hci h13] at he
    exact va_alen f.1 f.2.1 f.2.2.2.2.2.2.1.1 hP _ t0 he ht rfl hd (kk H locs ls hz hP hD hS hl)
  · rw [cE_ref h13] at he
    exact va_alen f.1 f.2.1 f.2.2.2.2.2.2.1.1 hP _ t0 he ht rfl hd (kk H locs ls hz hP hD hS hl)
theorem V_mmax (f : Fx K cc own nL rm) {idx : Nat} {x y : Int32} (hd : decode cc pc = .ok (.invokestatic idx, 3)) (h1 : Cond.methodLink own idx Lib.Math.max.name ∈ tbG) (h2 : Cond.static Lib.Math.max.name ∈ tbG) (h3 : Cond.initialized "java/lang/Math" ∈ tbG) (h4 : Cond.code Lib.Math.max.name Lib.Math.max.code 2 (some .int) ∈ tbG) (hf : 1 ≤ rm.frames) (hl : (st.map fun v => v.category).sum + 13 ≤ rm.locals) (hc : n1 ≤ rm.cells) (hs : n2 ≤ rm.slots) (k : V K ad n1 n2 Z M (pc + 3) lv (.int (if x < y then y else x) :: st)) : V K ad n1 n2 Z M pc lv (.int y :: .int x :: st) := fun H locs ls hz hP hD hS h9 => va_mmax f.1 f.2.1 (by rw [f.2.2.1]; exact h9.1.symm) f.2.2.2.2.1 (f.2.2.2.2.2.1 _ h1) (f.2.2.2.2.2.1 _ h2) (f.2.2.2.2.2.1 _ h3) (f.2.2.2.2.2.1 _ h4) (by rw [f.2.2.2.2.2.2.2.2.1]; exact hf) (by rw [f.2.2.2.2.2.2.2.2.1]; exact hl) (by rw [f.2.2.2.2.2.2.2.2.1]; exact hc) (by rw [f.2.2.2.2.2.2.2.2.1]; exact hs) hd (k H locs ls hz hP hD hS h9)
theorem V_mmin (f : Fx K cc own nL rm) {idx : Nat} {x y : Int32} (hd : decode cc pc = .ok (.invokestatic idx, 3)) (h1 : Cond.methodLink own idx Lib.Math.min.name ∈ tbG) (h2 : Cond.static Lib.Math.min.name ∈ tbG) (h3 : Cond.initialized "java/lang/Math" ∈ tbG) (h4 : Cond.code Lib.Math.min.name Lib.Math.min.code 2 (some .int) ∈ tbG) (hf : 1 ≤ rm.frames) (hl : (st.map fun v => v.category).sum + 13 ≤ rm.locals) (hc : n1 ≤ rm.cells) (hs : n2 ≤ rm.slots) (k : V K ad n1 n2 Z M (pc + 3) lv (.int (if y < x then y else x) :: st)) : V K ad n1 n2 Z M pc lv (.int y :: .int x :: st) := fun H locs ls hz hP hD hS h9 => va_mmin f.1 f.2.1 (by rw [f.2.2.1]; exact h9.1.symm) f.2.2.2.2.1 (f.2.2.2.2.2.1 _ h1) (f.2.2.2.2.2.1 _ h2) (f.2.2.2.2.2.1 _ h3) (f.2.2.2.2.2.1 _ h4) (by rw [f.2.2.2.2.2.2.2.2.1]; exact hf) (by rw [f.2.2.2.2.2.2.2.2.1]; exact hl) (by rw [f.2.2.2.2.2.2.2.2.1]; exact hc) (by rw [f.2.2.2.2.2.2.2.2.1]; exact hs) hd (k H locs ls hz hP hD hS h9)
theorem V_mabs (f : Fx K cc own nL rm) {idx : Nat} {x : Int32} (hd : decode cc pc = .ok (.invokestatic idx, 3)) (h1 : Cond.methodLink own idx Lib.Math.abs.name ∈ tbG) (h2 : Cond.static Lib.Math.abs.name ∈ tbG) (h3 : Cond.initialized "java/lang/Math" ∈ tbG) (h4 : Cond.code Lib.Math.abs.name Lib.Math.abs.code 1 (some .int) ∈ tbG) (hf : 1 ≤ rm.frames) (hl : (st.map fun v => v.category).sum + 13 ≤ rm.locals) (hc : n1 ≤ rm.cells) (hs : n2 ≤ rm.slots) (k : V K ad n1 n2 Z M (pc + 3) lv (.int (if 0 ≤ x then x else 0 - x) :: st)) : V K ad n1 n2 Z M pc lv (.int x :: st) := fun H locs ls hz hP hD hS h9 => va_mabs f.1 f.2.1 (by rw [f.2.2.1]; exact h9.1.symm) f.2.2.2.2.1 (f.2.2.2.2.2.1 _ h1) (f.2.2.2.2.2.1 _ h2) (f.2.2.2.2.2.1 _ h3) (f.2.2.2.2.2.1 _ h4) (by rw [f.2.2.2.2.2.2.2.2.1]; exact hf) (by rw [f.2.2.2.2.2.2.2.2.1]; exact hl) (by rw [f.2.2.2.2.2.2.2.2.1]; exact hc) (by rw [f.2.2.2.2.2.2.2.2.1]; exact hs) hd (k H locs ls hz hP hD hS h9)
end VR

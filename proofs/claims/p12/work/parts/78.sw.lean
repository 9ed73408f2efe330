/-! the String constants at the law's entry -/
def tmJ (i : Nat) : Term := .string RX7 (ixJ.getD i 0)
theorem swj_n : ∀ i : Nat, i < 15 → lenJ.getD i 0 < 2 ^ 31 := by decide +kernel
def blkJ (j : Nat) : List Cond := Cond.exactly (tmJ j) "java/lang/String" :: Cond.eq (.field (tmJ j) "java/lang/String" "coder" "B") (.int 0) :: Cond.arrayOf (.field (tmJ j) "java/lang/String" "value" "[B") .byte :: Cond.eq (.length (.field (tmJ j) "java/lang/String" "value" "[B")) (.int (Int32.ofNat (lenJ.getD j 0))) :: ((List.range (lenJ.getD j 0)).map (fun k => Cond.eq (.elem (.field (tmJ j) "java/lang/String" "value" "[B") (.int (Int32.ofNat k))) (.int ((bytJ.getD j []).getD k 0))) ++ (List.range j).map (fun i => Cond.not (Cond.eq (tmJ i) (tmJ j))))
set_option maxRecDepth 100000 in
theorem flJ : (flatC (Jvm.Cond.and given_1 narrow_1)).drop 9 = (List.range 15).flatMap blkJ := by decide +kernel
theorem memJ {w : Cond} {i : Nat} (hi : i < 15) (h : w ∈ blkJ i) : w ∈ flatC (Jvm.Cond.and given_1 narrow_1) := List.mem_of_mem_drop (i := 9) (by rw [flJ]; exact List.mem_flatMap.mpr ⟨i, List.mem_range.mpr hi, h⟩)
theorem swj_ex (i : Nat) (hi : i < 15) : Cond.exactly (tmJ i) "java/lang/String" ∈ flatC (Jvm.Cond.and given_1 narrow_1) := memJ hi List.mem_cons_self
theorem swj_co (i : Nat) (hi : i < 15) : Cond.eq (.field (tmJ i) "java/lang/String" "coder" "B") (.int 0) ∈ flatC (Jvm.Cond.and given_1 narrow_1) := memJ hi (List.mem_cons_of_mem _ List.mem_cons_self)
theorem swj_ar (i : Nat) (hi : i < 15) : Cond.arrayOf (.field (tmJ i) "java/lang/String" "value" "[B") .byte ∈ flatC (Jvm.Cond.and given_1 narrow_1) := memJ hi (List.mem_cons_of_mem _ (List.mem_cons_of_mem _ List.mem_cons_self))
theorem swj_le (i : Nat) (hi : i < 15) : Cond.eq (.length (.field (tmJ i) "java/lang/String" "value" "[B")) (.int (Int32.ofNat (lenJ.getD i 0))) ∈ flatC (Jvm.Cond.and given_1 narrow_1) := memJ hi (List.mem_cons_of_mem _ (List.mem_cons_of_mem _ (List.mem_cons_of_mem _ List.mem_cons_self)))
theorem swj_el (i : Nat) (hi : i < 15) (j : Nat) (hj : j < lenJ.getD i 0) : Cond.eq (.elem (.field (tmJ i) "java/lang/String" "value" "[B") (.int (Int32.ofNat j))) (.int ((bytJ.getD i []).getD j 0)) ∈ flatC (Jvm.Cond.and given_1 narrow_1) := memJ hi (List.mem_cons_of_mem _ (List.mem_cons_of_mem _ (List.mem_cons_of_mem _ (List.mem_cons_of_mem _ (List.mem_append_left _ (List.mem_map.mpr ⟨j, List.mem_range.mpr hj, rfl⟩))))))
theorem swj_lt {i j : Nat} (hj : j < 15) (h : i < j) : Cond.not (Cond.eq (tmJ i) (tmJ j)) ∈ flatC (Jvm.Cond.and given_1 narrow_1) := memJ hj (List.mem_cons_of_mem _ (List.mem_cons_of_mem _ (List.mem_cons_of_mem _ (List.mem_cons_of_mem _ (List.mem_append_right _ (List.mem_map.mpr ⟨i, List.mem_range.mpr h, rfl⟩))))))
theorem swj_ne (i : Nat) (hi : i < 15) (j : Nat) (hj : j < 15) (h : i ≠ j) : Cond.not (Cond.eq (tmJ i) (tmJ j)) ∈ flatC (Jvm.Cond.and given_1 narrow_1) ∨ Cond.not (Cond.eq (tmJ j) (tmJ i)) ∈ flatC (Jvm.Cond.and given_1 narrow_1) := by
  rcases Nat.lt_or_ge i j with q | q
  · exact Or.inl (swj_lt hj q)
  · exact Or.inr (swj_lt hi (by omega))
theorem swj_cs : Cond.eq (.static "java/lang/String" "COMPACT_STRINGS" "Z") (.int 1) ∈ flatC (Jvm.Cond.and given_1 narrow_1) := by decide +kernel
theorem swj_sf : Cond.isRef (.static "jdk/internal/util/Preconditions" "SIOOBE_FORMATTER" "Ljava/util/function/BiFunction;") ∈ flatC (Jvm.Cond.and given_1 narrow_1) := by decide +kernel
theorem swj_t1 : Cond.laysStatic "java/lang/String" "COMPACT_STRINGS" "Z" ∈ lw_tbl := by decide +kernel
theorem swj_t2 : Cond.laysStatic "jdk/internal/util/Preconditions" "SIOOBE_FORMATTER" "Ljava/util/function/BiFunction;" ∈ lw_tbl := by decide +kernel
theorem swj_t3 : Cond.initialized "java/lang/String" ∈ lw_tbl := by decide +kernel
theorem swj_t4 : Cond.initialized "jdk/internal/util/Preconditions" ∈ lw_tbl := by decide +kernel
theorem swj_t5 : ∀ i : Nat, i < 15 → Cond.stringRef RX7 (ixJ.getD i 0) (txJ.getD i "") ∈ lw_tbl := by decide +kernel
theorem sw_start {args : Array Value} {s : State} (hts : ∀ w ∈ lw_tbl, w.before args s = true) (hgv : (Jvm.Cond.and given_1 narrow_1).before args s = true) : ∃ (cs cv : Nat → Nat) (z : Value), SW cs cv z (fun q : Nat => s.heap.size ≤ q) s := by
  have hs := flat_of_before _ hgv
  have hA : ∀ a : Nat, a < s.heap.size → ¬ (fun q : Nat => s.heap.size ≤ q) a := fun a h => Nat.not_le.mpr h
  obtain ⟨cs, cv, h1, h2⟩ := vk_Sof (args := args) (s := s) (N := 15) (tm := tmJ) (len := lenJ) (byt := bytJ) (A := fun q : Nat => s.heap.size ≤ q) swj_n (fun i hi => hs _ (swj_ex i hi)) (fun i hi => hs _ (swj_co i hi)) (fun i hi => hs _ (swj_ar i hi)) (fun i hi => hs _ (swj_le i hi)) (fun i hi j hj => hs _ (swj_el i hi j hj)) (fun i j hi hj hij => (swj_ne i hi j hj hij).imp (hs _) (hs _)) hA
  have h3 : va_Z "java/lang/String" "COMPACT_STRINGS" "Z" (.int 1) (fun q : Nat => s.heap.size ≤ q) s s.heap := va_Zof (hts _ swj_t1) (hts _ swj_t3) (va_eqt (hs _ swj_cs)) hA
  have h5 : ∀ i, i < 15 → vk_R RX7 (ixJ.getD i 0) (txJ.getD i "") (cs i) s := fun i hi => vk_R.of (hts _ (swj_t5 i hi)) (h2 i hi)
  rcases va_Zqof (hts _ swj_t2) (hts _ swj_t4) (hs _ swj_sf) hA with h4 | ⟨t, h4⟩
  · exact ⟨cs, cv, .null, h1, h5, h3, h4, Or.inl rfl⟩
  · exact ⟨cs, cv, .ref t, h1, h5, h3, h4, Or.inr ⟨t, rfl⟩⟩

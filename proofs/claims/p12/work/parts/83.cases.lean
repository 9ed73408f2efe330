set_option maxHeartbeats 4000000 in
set_option maxRecDepth 100000 in
theorem lwc_0 {p : Program} {l : Launch} {e : Env} {s : State} {m : MethodId} {b : Nat} {below : List Frame} {meth : Method} {c : Code} {D : va_G} {cy : Nat → ClassId} (f : ∀ X, Fx (kM p l e s m b below meth c D cy X) cL_law RL 4 room_1) {L : Nat} {xs : Nat → Int32} (hX : va_X b L xs s s.heap) (hbl : b < s.heap.size) (aB aM : Nat → Nat) (MB MM : MT) {n1 n2 : Nat} (h1 : n1 ≤ 600000) (h2 : n2 ≤ 7302250) {cs cv : Nat → Nat} {z : Value} (hw : SW cs cv z (fun q : Nat => s.heap.size ≤ q) s) {i : Int32} {cn : Nat} (hi : ∀ j : Int32, 0 ≤ j.toInt → j.toInt ≤ 5 → vp_in (i + j) L) (hR : Rl cn MB MM) (hcn : cn ≤ 511) (fin : ∀ B1 M1 : MT, Rl (cn + 1) B1 M1 → V (kM p l e s m b below meth c D cy ([] ++ wl cy aB ZB B1)) aM n1 n2 ZM M1 708 [(3, .int i), (2, .ref (aM 0)), (1, .ref (aB 0)), (0, .ref b)] []) : V (kM p l e s m b below meth c D cy ([] ++ wl cy aB ZB MB)) aM n1 n2 ZM MM 128 [(3, .int i), (2, .ref (aM 0)), (1, .ref (aB 0)), (0, .ref b)] [] := by
  refine V.exch (X0 := []) (M2 := MM) zokB ?_
  refine V_aload_n (f _) dL_law_128 2 rfl ?_
  refine V_aload_n (f _) dL_law_129 3 rfl ?_
  refine V_iload_n (f _) dL_law_130 0 rfl ?_
  refine V_iconst (v := 1) (f _) dL_law_131 (by decide) ?_
  refine V_iadd (f _) dL_law_132 ?_
  refine V_sld (f _) hX hbl (i := i + 1) (hi 1 (by decide) (by decide)) dL_law_133 ?_
  refine V_aload_n (f _) dL_law_134 3 rfl ?_
  refine V_iload_n (f _) dL_law_135 0 rfl ?_
  refine V_iconst (v := 2) (f _) dL_law_136 (by decide) ?_
  refine V_iadd (f _) dL_law_137 ?_
  refine V_sld (f _) hX hbl (i := i + 2) (hi 2 (by decide) (by decide)) dL_law_138 ?_
  refine V_cVi (As := [.int (xs (Int32.toNatClampNeg (i + 1))), .int (xs (Int32.toNatClampNeg (i + 2)))]) (rest := []) (f _) dL_law_139 lk_L_13 ml_L_13 ins_X8_depth sel_X8_depth zb_0 (by decide) rfl (c3_X8_depth _ _ _ _ aB MB (xs (Int32.toNatClampNeg (i + 1))) (xs (Int32.toNatClampNeg (i + 2))) hR.1) rfl (Nat.le_of_ble_eq_true rfl) rfl ⟨by decide, by decide⟩ ⟨h1, h2⟩ rfl rfl ?_
  refine V_pop (f _) dL_law_142 rfl ?_
  refine V.exch (X0 := []) (M2 := (s3_X8_depth MB (xs (Int32.toNatClampNeg (i + 1))) (xs (Int32.toNatClampNeg (i + 2)))).2) zokM ?_
  refine V_aload_n (f _) dL_law_143 1 rfl ?_
  refine V_aload_n (f _) dL_law_144 3 rfl ?_
  refine V_iload_n (f _) dL_law_145 0 rfl ?_
  refine V_iconst (v := 1) (f _) dL_law_146 (by decide) ?_
  refine V_iadd (f _) dL_law_147 ?_
  refine V_sld (f _) hX hbl (i := i + 1) (hi 1 (by decide) (by decide)) dL_law_148 ?_
  refine V_aload_n (f _) dL_law_149 3 rfl ?_
  refine V_iload_n (f _) dL_law_150 0 rfl ?_
  refine V_iconst (v := 2) (f _) dL_law_151 (by decide) ?_
  refine V_iadd (f _) dL_law_152 ?_
  refine V_sld (f _) hX hbl (i := i + 2) (hi 2 (by decide) (by decide)) dL_law_153 ?_
  refine V_cVi (As := [.int (xs (Int32.toNatClampNeg (i + 1))), .int (xs (Int32.toNatClampNeg (i + 2)))]) (rest := []) (f _) dL_law_154 lk_L_17 ml_L_17 ins_X9_depth sel_X9_depth zm_0 (by decide) rfl (c3_X9_depth _ _ _ _ aM MM (xs (Int32.toNatClampNeg (i + 1))) (xs (Int32.toNatClampNeg (i + 2))) hR.2.1.1) rfl (Nat.le_of_ble_eq_true rfl) rfl ⟨by decide, by decide⟩ ⟨h1, h2⟩ rfl rfl ?_
  refine V_pop (f _) dL_law_157 rfl ?_
  refine V_goto (tgt := 708) (f _) dL_law_158 (by decide) ?_
  exact fin _ _ (Rl_q hR (Kd_depth hR.1 _ _) (Km_up1 (Me_depth hR.2.1.1 hR.2.1.2 _ _)))
set_option maxHeartbeats 4000000 in
set_option maxRecDepth 100000 in
theorem lwc_1 {p : Program} {l : Launch} {e : Env} {s : State} {m : MethodId} {b : Nat} {below : List Frame} {meth : Method} {c : Code} {D : va_G} {cy : Nat → ClassId} (f : ∀ X, Fx (kM p l e s m b below meth c D cy X) cL_law RL 4 room_1) {L : Nat} {xs : Nat → Int32} (hX : va_X b L xs s s.heap) (hbl : b < s.heap.size) (aB aM : Nat → Nat) (MB MM : MT) {n1 n2 : Nat} (h1 : n1 ≤ 600000) (h2 : n2 ≤ 7302250) {cs cv : Nat → Nat} {z : Value} (hw : SW cs cv z (fun q : Nat => s.heap.size ≤ q) s) {i : Int32} {cn : Nat} (hi : ∀ j : Int32, 0 ≤ j.toInt → j.toInt ≤ 5 → vp_in (i + j) L) (hR : Rl cn MB MM) (hcn : cn ≤ 511) (fin : ∀ B1 M1 : MT, Rl (cn + 1) B1 M1 → V (kM p l e s m b below meth c D cy ([] ++ wl cy aB ZB B1)) aM n1 n2 ZM M1 708 [(3, .int i), (2, .ref (aM 0)), (1, .ref (aB 0)), (0, .ref b)] []) : V (kM p l e s m b below meth c D cy ([] ++ wl cy aB ZB MB)) aM n1 n2 ZM MM 161 [(3, .int i), (2, .ref (aM 0)), (1, .ref (aB 0)), (0, .ref b)] [] := by
  refine V.exch (X0 := []) (M2 := MM) zokB ?_
  refine V_aload_n (f _) dL_law_161 2 rfl ?_
  refine V_aload_n (f _) dL_law_162 3 rfl ?_
  refine V_iload_n (f _) dL_law_163 0 rfl ?_
  refine V_iconst (v := 1) (f _) dL_law_164 (by decide) ?_
  refine V_iadd (f _) dL_law_165 ?_
  refine V_sld (f _) hX hbl (i := i + 1) (hi 1 (by decide) (by decide)) dL_law_166 ?_
  refine V_aload_n (f _) dL_law_167 3 rfl ?_
  refine V_iload_n (f _) dL_law_168 0 rfl ?_
  refine V_iconst (v := 2) (f _) dL_law_169 (by decide) ?_
  refine V_iadd (f _) dL_law_170 ?_
  refine V_sld (f _) hX hbl (i := i + 2) (hi 2 (by decide) (by decide)) dL_law_171 ?_
  refine V_cVp (As := [.int (xs (Int32.toNatClampNeg (i + 1))), .int (xs (Int32.toNatClampNeg (i + 2)))]) (rest := []) (f _) dL_law_172 lk_L_18 ml_L_18 ins_X8_mill sel_X8_mill zb_0 (by decide) rfl (c3_X8_mill _ _ _ _ aB MB (xs (Int32.toNatClampNeg (i + 1))) (xs (Int32.toNatClampNeg (i + 2))) hR.1) rfl (Nat.le_of_ble_eq_true rfl) rfl ⟨by decide, by decide⟩ ⟨h1, h2⟩ rfl rfl (fun v1 B1 hp1 => ?_)
  obtain ⟨⟨r1, rfl⟩, k1⟩ := hp1
  show V _ _ _ _ _ _ _ _ [.int r1]
  refine V_pop (f _) dL_law_175 rfl ?_
  refine V.exch (X0 := []) (M2 := B1) zokM ?_
  refine V_aload_n (f _) dL_law_176 1 rfl ?_
  refine V_aload_n (f _) dL_law_177 3 rfl ?_
  refine V_iload_n (f _) dL_law_178 0 rfl ?_
  refine V_iconst (v := 1) (f _) dL_law_179 (by decide) ?_
  refine V_iadd (f _) dL_law_180 ?_
  refine V_sld (f _) hX hbl (i := i + 1) (hi 1 (by decide) (by decide)) dL_law_181 ?_
  refine V_aload_n (f _) dL_law_182 3 rfl ?_
  refine V_iload_n (f _) dL_law_183 0 rfl ?_
  refine V_iconst (v := 2) (f _) dL_law_184 (by decide) ?_
  refine V_iadd (f _) dL_law_185 ?_
  refine V_sld (f _) hX hbl (i := i + 2) (hi 2 (by decide) (by decide)) dL_law_186 ?_
  refine V_cVp (As := [.int (xs (Int32.toNatClampNeg (i + 1))), .int (xs (Int32.toNatClampNeg (i + 2)))]) (rest := []) (f _) dL_law_187 lk_L_22 ml_L_22 ins_X9_mill sel_X9_mill zm_0 (by decide) rfl (c3_X9_mill _ _ _ _ aM MM (xs (Int32.toNatClampNeg (i + 1))) (xs (Int32.toNatClampNeg (i + 2))) _ _ hR.2.1.1 hR.2.1.2) rfl (Nat.le_of_ble_eq_true rfl) rfl ⟨by decide, by decide⟩ ⟨h1, h2⟩ rfl rfl (fun v2 M1 hp2 => ?_)
  obtain ⟨⟨r2, rfl⟩, k2⟩ := hp2
  show V _ _ _ _ _ _ _ _ [.int r2]
  refine V_pop (f _) dL_law_190 rfl ?_
  refine V_goto (tgt := 708) (f _) dL_law_191 (by decide) ?_
  exact fin _ _ (Rl_q hR k1 (Km_up1 k2))
set_option maxHeartbeats 4000000 in
set_option maxRecDepth 100000 in
theorem lwc_2 {p : Program} {l : Launch} {e : Env} {s : State} {m : MethodId} {b : Nat} {below : List Frame} {meth : Method} {c : Code} {D : va_G} {cy : Nat → ClassId} (f : ∀ X, Fx (kM p l e s m b below meth c D cy X) cL_law RL 4 room_1) {L : Nat} {xs : Nat → Int32} (hX : va_X b L xs s s.heap) (hbl : b < s.heap.size) (aB aM : Nat → Nat) (MB MM : MT) {n1 n2 : Nat} (h1 : n1 ≤ 600000) (h2 : n2 ≤ 7302250) {cs cv : Nat → Nat} {z : Value} (hw : SW cs cv z (fun q : Nat => s.heap.size ≤ q) s) {i : Int32} {cn : Nat} (hi : ∀ j : Int32, 0 ≤ j.toInt → j.toInt ≤ 5 → vp_in (i + j) L) (hR : Rl cn MB MM) (hcn : cn ≤ 511) (fin : ∀ B1 M1 : MT, Rl (cn + 1) B1 M1 → V (kM p l e s m b below meth c D cy ([] ++ wl cy aB ZB B1)) aM n1 n2 ZM M1 708 [(3, .int i), (2, .ref (aM 0)), (1, .ref (aB 0)), (0, .ref b)] []) : V (kM p l e s m b below meth c D cy ([] ++ wl cy aB ZB MB)) aM n1 n2 ZM MM 194 [(3, .int i), (2, .ref (aM 0)), (1, .ref (aB 0)), (0, .ref b)] [] := by
  refine V.exch (X0 := []) (M2 := MM) zokB ?_
  refine V_aload_n (f _) dL_law_194 2 rfl ?_
  refine V_aload_n (f _) dL_law_195 3 rfl ?_
  refine V_iload_n (f _) dL_law_196 0 rfl ?_
  refine V_iconst (v := 1) (f _) dL_law_197 (by decide) ?_
  refine V_iadd (f _) dL_law_198 ?_
  refine V_sld (f _) hX hbl (i := i + 1) (hi 1 (by decide) (by decide)) dL_law_199 ?_
  refine V_cVi (As := [.int (xs (Int32.toNatClampNeg (i + 1)))]) (rest := []) (f _) dL_law_200 lk_L_23 ml_L_23 ins_X8_ridge sel_X8_ridge zb_0 (by decide) rfl (c3_X8_ridge _ _ _ _ aB MB (xs (Int32.toNatClampNeg (i + 1))) hR.1) rfl (Nat.le_of_ble_eq_true rfl) rfl ⟨by decide, by decide⟩ ⟨h1, h2⟩ rfl rfl ?_
  refine V_pop (f _) dL_law_203 rfl ?_
  refine V.exch (X0 := []) (M2 := (s3_X8_ridge MB (xs (Int32.toNatClampNeg (i + 1)))).2) zokM ?_
  refine V_aload_n (f _) dL_law_204 1 rfl ?_
  refine V_aload_n (f _) dL_law_205 3 rfl ?_
  refine V_iload_n (f _) dL_law_206 0 rfl ?_
  refine V_iconst (v := 1) (f _) dL_law_207 (by decide) ?_
  refine V_iadd (f _) dL_law_208 ?_
  refine V_sld (f _) hX hbl (i := i + 1) (hi 1 (by decide) (by decide)) dL_law_209 ?_
  refine V_cVi (As := [.int (xs (Int32.toNatClampNeg (i + 1)))]) (rest := []) (f _) dL_law_210 lk_L_27 ml_L_27 ins_X9_ridge sel_X9_ridge zm_0 (by decide) rfl (c3_X9_ridge _ _ _ _ aM MM (xs (Int32.toNatClampNeg (i + 1))) hR.2.1.1) rfl (Nat.le_of_ble_eq_true rfl) rfl ⟨by decide, by decide⟩ ⟨h1, h2⟩ rfl rfl ?_
  refine V_pop (f _) dL_law_213 rfl ?_
  refine V_goto (tgt := 708) (f _) dL_law_214 (by decide) ?_
  exact fin _ _ (Rl_q hR (Kd_ridge hR.1 _) (Km_up1 (Me_ridge hR.2.1.1 hR.2.1.2 _)))
set_option maxHeartbeats 4000000 in
set_option maxRecDepth 100000 in
theorem lwc_3 {p : Program} {l : Launch} {e : Env} {s : State} {m : MethodId} {b : Nat} {below : List Frame} {meth : Method} {c : Code} {D : va_G} {cy : Nat → ClassId} (f : ∀ X, Fx (kM p l e s m b below meth c D cy X) cL_law RL 4 room_1) {L : Nat} {xs : Nat → Int32} (hX : va_X b L xs s s.heap) (hbl : b < s.heap.size) (aB aM : Nat → Nat) (MB MM : MT) {n1 n2 : Nat} (h1 : n1 ≤ 600000) (h2 : n2 ≤ 7302250) {cs cv : Nat → Nat} {z : Value} (hw : SW cs cv z (fun q : Nat => s.heap.size ≤ q) s) {i : Int32} {cn : Nat} (hi : ∀ j : Int32, 0 ≤ j.toInt → j.toInt ≤ 5 → vp_in (i + j) L) (hR : Rl cn MB MM) (hcn : cn ≤ 511) (fin : ∀ B1 M1 : MT, Rl (cn + 1) B1 M1 → V (kM p l e s m b below meth c D cy ([] ++ wl cy aB ZB B1)) aM n1 n2 ZM M1 708 [(3, .int i), (2, .ref (aM 0)), (1, .ref (aB 0)), (0, .ref b)] []) : V (kM p l e s m b below meth c D cy ([] ++ wl cy aB ZB MB)) aM n1 n2 ZM MM 217 [(3, .int i), (2, .ref (aM 0)), (1, .ref (aB 0)), (0, .ref b)] [] := by
  refine V.exch (X0 := []) (M2 := MM) zokB ?_
  refine V_aload_n (f _) dL_law_217 2 rfl ?_
  refine V_aload_n (f _) dL_law_218 3 rfl ?_
  refine V_iload_n (f _) dL_law_219 0 rfl ?_
  refine V_iconst (v := 1) (f _) dL_law_220 (by decide) ?_
  refine V_iadd (f _) dL_law_221 ?_
  refine V_sld (f _) hX hbl (i := i + 1) (hi 1 (by decide) (by decide)) dL_law_222 ?_
  refine V_aload_n (f _) dL_law_223 3 rfl ?_
  refine V_iload_n (f _) dL_law_224 0 rfl ?_
  refine V_iconst (v := 2) (f _) dL_law_225 (by decide) ?_
  refine V_iadd (f _) dL_law_226 ?_
  refine V_sld (f _) hX hbl (i := i + 2) (hi 2 (by decide) (by decide)) dL_law_227 ?_
  refine V_cVi (As := [.int (xs (Int32.toNatClampNeg (i + 1))), .int (xs (Int32.toNatClampNeg (i + 2)))]) (rest := []) (f _) dL_law_228 lk_L_28 ml_L_28 ins_X8_probe sel_X8_probe zb_0 (by decide) rfl (c3_X8_probe _ _ _ _ aB MB (xs (Int32.toNatClampNeg (i + 1))) (xs (Int32.toNatClampNeg (i + 2))) hR.1) rfl (Nat.le_of_ble_eq_true rfl) rfl ⟨by decide, by decide⟩ ⟨h1, h2⟩ rfl rfl ?_
  refine V_pop (f _) dL_law_231 rfl ?_
  refine V.exch (X0 := []) (M2 := (s3_X8_probe MB (xs (Int32.toNatClampNeg (i + 1))) (xs (Int32.toNatClampNeg (i + 2)))).2) zokM ?_
  refine V_aload_n (f _) dL_law_232 1 rfl ?_
  refine V_aload_n (f _) dL_law_233 3 rfl ?_
  refine V_iload_n (f _) dL_law_234 0 rfl ?_
  refine V_iconst (v := 1) (f _) dL_law_235 (by decide) ?_
  refine V_iadd (f _) dL_law_236 ?_
  refine V_sld (f _) hX hbl (i := i + 1) (hi 1 (by decide) (by decide)) dL_law_237 ?_
  refine V_aload_n (f _) dL_law_238 3 rfl ?_
  refine V_iload_n (f _) dL_law_239 0 rfl ?_
  refine V_iconst (v := 2) (f _) dL_law_240 (by decide) ?_
  refine V_iadd (f _) dL_law_241 ?_
  refine V_sld (f _) hX hbl (i := i + 2) (hi 2 (by decide) (by decide)) dL_law_242 ?_
  refine V_cVi (As := [.int (xs (Int32.toNatClampNeg (i + 1))), .int (xs (Int32.toNatClampNeg (i + 2)))]) (rest := []) (f _) dL_law_243 lk_L_31 ml_L_31 ins_X9_probe sel_X9_probe zm_0 (by decide) rfl (c3_X9_probe _ _ _ _ aM MM (xs (Int32.toNatClampNeg (i + 1))) (xs (Int32.toNatClampNeg (i + 2))) hR.2.1.1) rfl (Nat.le_of_ble_eq_true rfl) rfl ⟨by decide, by decide⟩ ⟨h1, h2⟩ rfl rfl ?_
  refine V_pop (f _) dL_law_246 rfl ?_
  refine V_goto (tgt := 708) (f _) dL_law_247 (by decide) ?_
  exact fin _ _ (Rl_q hR (Kd_probe hR.1 _ _) (Km_up1 (Me_probe hR.2.1.1 hR.2.1.2 _ _)))
set_option maxHeartbeats 4000000 in
set_option maxRecDepth 100000 in
theorem lwc_4 {p : Program} {l : Launch} {e : Env} {s : State} {m : MethodId} {b : Nat} {below : List Frame} {meth : Method} {c : Code} {D : va_G} {cy : Nat → ClassId} (f : ∀ X, Fx (kM p l e s m b below meth c D cy X) cL_law RL 4 room_1) {L : Nat} {xs : Nat → Int32} (hX : va_X b L xs s s.heap) (hbl : b < s.heap.size) (aB aM : Nat → Nat) (MB MM : MT) {n1 n2 : Nat} (h1 : n1 ≤ 600000) (h2 : n2 ≤ 7302250) {cs cv : Nat → Nat} {z : Value} (hw : SW cs cv z (fun q : Nat => s.heap.size ≤ q) s) {i : Int32} {cn : Nat} (hi : ∀ j : Int32, 0 ≤ j.toInt → j.toInt ≤ 5 → vp_in (i + j) L) (hR : Rl cn MB MM) (hcn : cn ≤ 511) (fin : ∀ B1 M1 : MT, Rl (cn + 1) B1 M1 → V (kM p l e s m b below meth c D cy ([] ++ wl cy aB ZB B1)) aM n1 n2 ZM M1 708 [(3, .int i), (2, .ref (aM 0)), (1, .ref (aB 0)), (0, .ref b)] []) : V (kM p l e s m b below meth c D cy ([] ++ wl cy aB ZB MB)) aM n1 n2 ZM MM 250 [(3, .int i), (2, .ref (aM 0)), (1, .ref (aB 0)), (0, .ref b)] [] := by
  refine V.exch (X0 := []) (M2 := MM) zokB ?_
  refine V_aload_n (f _) dL_law_250 2 rfl ?_
  refine V_cVi (As := []) (rest := []) (f _) dL_law_251 lk_L_32 ml_L_32 ins_X8_stack sel_X8_stack zb_0 (by decide) rfl (c3_X8_stack _ _ _ _ aB MB  hR.1) rfl (Nat.le_of_ble_eq_true rfl) rfl ⟨by decide, by decide⟩ ⟨h1, h2⟩ rfl rfl ?_
  refine V_pop (f _) dL_law_254 rfl ?_
  refine V.exch (X0 := []) (M2 := (s3_X8_stack MB).2) zokM ?_
  refine V_aload_n (f _) dL_law_255 1 rfl ?_
  refine V_cVi (As := []) (rest := []) (f _) dL_law_256 lk_L_36 ml_L_36 ins_X9_stack sel_X9_stack zm_0 (by decide) rfl (c3_X9_stack _ _ _ _ aM MM  hR.2.1.1) rfl (Nat.le_of_ble_eq_true rfl) rfl ⟨by decide, by decide⟩ ⟨h1, h2⟩ rfl rfl ?_
  refine V_pop (f _) dL_law_259 rfl ?_
  refine V_goto (tgt := 708) (f _) dL_law_260 (by decide) ?_
  exact fin _ _ (R_stack hR).1
set_option maxHeartbeats 4000000 in
set_option maxRecDepth 100000 in
theorem lwc_5 {p : Program} {l : Launch} {e : Env} {s : State} {m : MethodId} {b : Nat} {below : List Frame} {meth : Method} {c : Code} {D : va_G} {cy : Nat → ClassId} (f : ∀ X, Fx (kM p l e s m b below meth c D cy X) cL_law RL 4 room_1) {L : Nat} {xs : Nat → Int32} (hX : va_X b L xs s s.heap) (hbl : b < s.heap.size) (aB aM : Nat → Nat) (MB MM : MT) {n1 n2 : Nat} (h1 : n1 ≤ 600000) (h2 : n2 ≤ 7302250) {cs cv : Nat → Nat} {z : Value} (hw : SW cs cv z (fun q : Nat => s.heap.size ≤ q) s) {i : Int32} {cn : Nat} (hi : ∀ j : Int32, 0 ≤ j.toInt → j.toInt ≤ 5 → vp_in (i + j) L) (hR : Rl cn MB MM) (hcn : cn ≤ 511) (fin : ∀ B1 M1 : MT, Rl (cn + 1) B1 M1 → V (kM p l e s m b below meth c D cy ([] ++ wl cy aB ZB B1)) aM n1 n2 ZM M1 708 [(3, .int i), (2, .ref (aM 0)), (1, .ref (aB 0)), (0, .ref b)] []) : V (kM p l e s m b below meth c D cy ([] ++ wl cy aB ZB MB)) aM n1 n2 ZM MM 263 [(3, .int i), (2, .ref (aM 0)), (1, .ref (aB 0)), (0, .ref b)] [] := by
  refine V.exch (X0 := []) (M2 := MM) zokB ?_
  refine V_aload_n (f _) dL_law_263 2 rfl ?_
  refine V_aload_n (f _) dL_law_264 3 rfl ?_
  refine V_iload_n (f _) dL_law_265 0 rfl ?_
  refine V_iconst (v := 1) (f _) dL_law_266 (by decide) ?_
  refine V_iadd (f _) dL_law_267 ?_
  refine V_sld (f _) hX hbl (i := i + 1) (hi 1 (by decide) (by decide)) dL_law_268 ?_
  refine V_cVp (As := [.int (xs (Int32.toNatClampNeg (i + 1)))]) (rest := []) (f _) dL_law_269 lk_L_37 ml_L_37 ins_X8_bars sel_X8_bars zb_0 (by decide) rfl (c3_X8_bars _ _ _ _ aB MB (xs (Int32.toNatClampNeg (i + 1))) hR.1) rfl (Nat.le_of_ble_eq_true rfl) rfl ⟨by decide, by decide⟩ ⟨h1, h2⟩ rfl rfl (fun v1 B1 hp1 => ?_)
  obtain ⟨⟨r1, rfl⟩, k1⟩ := hp1
  show V _ _ _ _ _ _ _ _ [.int r1]
  refine V_pop (f _) dL_law_272 rfl ?_
  refine V.exch (X0 := []) (M2 := B1) zokM ?_
  refine V_aload_n (f _) dL_law_273 1 rfl ?_
  refine V_aload_n (f _) dL_law_274 3 rfl ?_
  refine V_iload_n (f _) dL_law_275 0 rfl ?_
  refine V_iconst (v := 1) (f _) dL_law_276 (by decide) ?_
  refine V_iadd (f _) dL_law_277 ?_
  refine V_sld (f _) hX hbl (i := i + 1) (hi 1 (by decide) (by decide)) dL_law_278 ?_
  refine V_cVp (As := [.int (xs (Int32.toNatClampNeg (i + 1)))]) (rest := []) (f _) dL_law_279 lk_L_41 ml_L_41 ins_X9_bars sel_X9_bars zm_0 (by decide) rfl (c3_X9_bars _ _ _ _ aM MM (xs (Int32.toNatClampNeg (i + 1))) hR.2.1.1) rfl (Nat.le_of_ble_eq_true rfl) rfl ⟨by decide, by decide⟩ ⟨h1, h2⟩ rfl rfl (fun v2 M1 hp2 => ?_)
  obtain ⟨r2, rfl, k2, -⟩ := hp2
  show V _ _ _ _ _ _ _ _ [.int r2]
  refine V_pop (f _) dL_law_282 rfl ?_
  refine V_goto (tgt := 708) (f _) dL_law_283 (by decide) ?_
  exact fin _ _ (Rl_q hR (Kp_eq hR.1 k1) (Km_up1 (Km_eq hR.2.1.1 hR.2.1.2 k2)))
set_option maxHeartbeats 4000000 in
set_option maxRecDepth 100000 in
theorem lwc_6 {p : Program} {l : Launch} {e : Env} {s : State} {m : MethodId} {b : Nat} {below : List Frame} {meth : Method} {c : Code} {D : va_G} {cy : Nat → ClassId} (f : ∀ X, Fx (kM p l e s m b below meth c D cy X) cL_law RL 4 room_1) {L : Nat} {xs : Nat → Int32} (hX : va_X b L xs s s.heap) (hbl : b < s.heap.size) (aB aM : Nat → Nat) (MB MM : MT) {n1 n2 : Nat} (h1 : n1 ≤ 600000) (h2 : n2 ≤ 7302250) {cs cv : Nat → Nat} {z : Value} (hw : SW cs cv z (fun q : Nat => s.heap.size ≤ q) s) {i : Int32} {cn : Nat} (hi : ∀ j : Int32, 0 ≤ j.toInt → j.toInt ≤ 5 → vp_in (i + j) L) (hR : Rl cn MB MM) (hcn : cn ≤ 511) (fin : ∀ B1 M1 : MT, Rl (cn + 1) B1 M1 → V (kM p l e s m b below meth c D cy ([] ++ wl cy aB ZB B1)) aM n1 n2 ZM M1 708 [(3, .int i), (2, .ref (aM 0)), (1, .ref (aB 0)), (0, .ref b)] []) : V (kM p l e s m b below meth c D cy ([] ++ wl cy aB ZB MB)) aM n1 n2 ZM MM 286 [(3, .int i), (2, .ref (aM 0)), (1, .ref (aB 0)), (0, .ref b)] [] := by
  refine V.exch (X0 := []) (M2 := MM) zokB ?_
  refine V_aload_n (f _) dL_law_286 2 rfl ?_
  refine V_aload_n (f _) dL_law_287 3 rfl ?_
  refine V_iload_n (f _) dL_law_288 0 rfl ?_
  refine V_iconst (v := 1) (f _) dL_law_289 (by decide) ?_
  refine V_iadd (f _) dL_law_290 ?_
  refine V_sld (f _) hX hbl (i := i + 1) (hi 1 (by decide) (by decide)) dL_law_291 ?_
  refine V_aload_n (f _) dL_law_292 3 rfl ?_
  refine V_iload_n (f _) dL_law_293 0 rfl ?_
  refine V_iconst (v := 2) (f _) dL_law_294 (by decide) ?_
  refine V_iadd (f _) dL_law_295 ?_
  refine V_sld (f _) hX hbl (i := i + 2) (hi 2 (by decide) (by decide)) dL_law_296 ?_
  refine V_cVp (As := [.int (xs (Int32.toNatClampNeg (i + 1))), .int (xs (Int32.toNatClampNeg (i + 2)))]) (rest := []) (f _) dL_law_297 lk_L_42 ml_L_42 ins_X8_gather sel_X8_gather zb_0 (by decide) rfl (c3_X8_gather _ _ _ _ aB MB (xs (Int32.toNatClampNeg (i + 1))) (xs (Int32.toNatClampNeg (i + 2))) hR.1) rfl (Nat.le_of_ble_eq_true rfl) rfl ⟨by decide, by decide⟩ ⟨h1, h2⟩ rfl rfl (fun v1 B1 hp1 => ?_)
  obtain ⟨⟨r1, rfl⟩, k1⟩ := hp1
  show V _ _ _ _ _ _ _ _ [.int r1]
  refine V_pop (f _) dL_law_300 rfl ?_
  refine V.exch (X0 := []) (M2 := B1) zokM ?_
  refine V_aload_n (f _) dL_law_301 1 rfl ?_
  refine V_aload_n (f _) dL_law_302 3 rfl ?_
  refine V_iload_n (f _) dL_law_303 0 rfl ?_
  refine V_iconst (v := 1) (f _) dL_law_304 (by decide) ?_
  refine V_iadd (f _) dL_law_305 ?_
  refine V_sld (f _) hX hbl (i := i + 1) (hi 1 (by decide) (by decide)) dL_law_306 ?_
  refine V_aload_n (f _) dL_law_307 3 rfl ?_
  refine V_iload_n (f _) dL_law_308 0 rfl ?_
  refine V_iconst (v := 2) (f _) dL_law_309 (by decide) ?_
  refine V_iadd (f _) dL_law_310 ?_
  refine V_sld (f _) hX hbl (i := i + 2) (hi 2 (by decide) (by decide)) dL_law_311 ?_
  refine V_cVp (As := [.int (xs (Int32.toNatClampNeg (i + 1))), .int (xs (Int32.toNatClampNeg (i + 2)))]) (rest := []) (f _) dL_law_312 lk_L_45 ml_L_45 ins_X9_gather sel_X9_gather zm_0 (by decide) rfl (c3_X9_gather _ _ _ _ aM MM (xs (Int32.toNatClampNeg (i + 1))) (xs (Int32.toNatClampNeg (i + 2))) _ _ hR.2.1.1 hR.2.1.2 (wB_b hcn).1.2) rfl (Nat.le_of_ble_eq_true rfl) rfl ⟨by decide, by decide⟩ ⟨h1, h2⟩ rfl rfl (fun v2 M1 hp2 => ?_)
  obtain ⟨⟨r2, rfl⟩, k2⟩ := hp2
  show V _ _ _ _ _ _ _ _ [.int r2]
  refine V_pop (f _) dL_law_315 rfl ?_
  refine V_goto (tgt := 708) (f _) dL_law_316 (by decide) ?_
  exact fin _ _ (Rl_q hR k1 (Km_g k2))
set_option maxHeartbeats 4000000 in
set_option maxRecDepth 100000 in
theorem lwc_7 {p : Program} {l : Launch} {e : Env} {s : State} {m : MethodId} {b : Nat} {below : List Frame} {meth : Method} {c : Code} {D : va_G} {cy : Nat → ClassId} (f : ∀ X, Fx (kM p l e s m b below meth c D cy X) cL_law RL 4 room_1) {L : Nat} {xs : Nat → Int32} (hX : va_X b L xs s s.heap) (hbl : b < s.heap.size) (aB aM : Nat → Nat) (MB MM : MT) {n1 n2 : Nat} (h1 : n1 ≤ 600000) (h2 : n2 ≤ 7302250) {cs cv : Nat → Nat} {z : Value} (hw : SW cs cv z (fun q : Nat => s.heap.size ≤ q) s) {i : Int32} {cn : Nat} (hi : ∀ j : Int32, 0 ≤ j.toInt → j.toInt ≤ 5 → vp_in (i + j) L) (hR : Rl cn MB MM) (hcn : cn ≤ 511) (fin : ∀ B1 M1 : MT, Rl (cn + 1) B1 M1 → V (kM p l e s m b below meth c D cy ([] ++ wl cy aB ZB B1)) aM n1 n2 ZM M1 708 [(3, .int i), (2, .ref (aM 0)), (1, .ref (aB 0)), (0, .ref b)] []) : V (kM p l e s m b below meth c D cy ([] ++ wl cy aB ZB MB)) aM n1 n2 ZM MM 319 [(3, .int i), (2, .ref (aM 0)), (1, .ref (aB 0)), (0, .ref b)] [] := by
  refine V.exch (X0 := []) (M2 := MM) zokB ?_
  refine V_aload_n (f _) dL_law_319 2 rfl ?_
  refine V_aload_n (f _) dL_law_320 3 rfl ?_
  refine V_iload_n (f _) dL_law_321 0 rfl ?_
  refine V_iconst (v := 1) (f _) dL_law_322 (by decide) ?_
  refine V_iadd (f _) dL_law_323 ?_
  refine V_sld (f _) hX hbl (i := i + 1) (hi 1 (by decide) (by decide)) dL_law_324 ?_
  refine V_cVi (As := [.int (xs (Int32.toNatClampNeg (i + 1)))]) (rest := []) (f _) dL_law_325 lk_L_46 ml_L_46 ins_X8_track sel_X8_track zb_0 (by decide) rfl (c3_X8_track _ _ _ _ aB MB (xs (Int32.toNatClampNeg (i + 1))) hR.1) rfl (Nat.le_of_ble_eq_true rfl) rfl ⟨by decide, by decide⟩ ⟨h1, h2⟩ rfl rfl ?_
  refine V_pop (f _) dL_law_328 rfl ?_
  refine V.exch (X0 := []) (M2 := (s3_X8_track MB (xs (Int32.toNatClampNeg (i + 1)))).2) zokM ?_
  refine V_aload_n (f _) dL_law_329 1 rfl ?_
  refine V_aload_n (f _) dL_law_330 3 rfl ?_
  refine V_iload_n (f _) dL_law_331 0 rfl ?_
  refine V_iconst (v := 1) (f _) dL_law_332 (by decide) ?_
  refine V_iadd (f _) dL_law_333 ?_
  refine V_sld (f _) hX hbl (i := i + 1) (hi 1 (by decide) (by decide)) dL_law_334 ?_
  refine V_cVi (As := [.int (xs (Int32.toNatClampNeg (i + 1)))]) (rest := []) (f _) dL_law_335 lk_L_49 ml_L_49 ins_X9_track sel_X9_track zm_0 (by decide) rfl (c3_X9_track _ _ _ _ aM MM (xs (Int32.toNatClampNeg (i + 1))) hR.2.1.1) rfl (Nat.le_of_ble_eq_true rfl) rfl ⟨by decide, by decide⟩ ⟨h1, h2⟩ rfl rfl ?_
  refine V_pop (f _) dL_law_338 rfl ?_
  refine V_goto (tgt := 708) (f _) dL_law_339 (by decide) ?_
  exact fin _ _ (R_track hR _).1
set_option maxHeartbeats 4000000 in
set_option maxRecDepth 100000 in
theorem lwc_8 {p : Program} {l : Launch} {e : Env} {s : State} {m : MethodId} {b : Nat} {below : List Frame} {meth : Method} {c : Code} {D : va_G} {cy : Nat → ClassId} (f : ∀ X, Fx (kM p l e s m b below meth c D cy X) cL_law RL 4 room_1) {L : Nat} {xs : Nat → Int32} (hX : va_X b L xs s s.heap) (hbl : b < s.heap.size) (aB aM : Nat → Nat) (MB MM : MT) {n1 n2 : Nat} (h1 : n1 ≤ 600000) (h2 : n2 ≤ 7302250) {cs cv : Nat → Nat} {z : Value} (hw : SW cs cv z (fun q : Nat => s.heap.size ≤ q) s) {i : Int32} {cn : Nat} (hi : ∀ j : Int32, 0 ≤ j.toInt → j.toInt ≤ 5 → vp_in (i + j) L) (hR : Rl cn MB MM) (hcn : cn ≤ 511) (fin : ∀ B1 M1 : MT, Rl (cn + 1) B1 M1 → V (kM p l e s m b below meth c D cy ([] ++ wl cy aB ZB B1)) aM n1 n2 ZM M1 708 [(3, .int i), (2, .ref (aM 0)), (1, .ref (aB 0)), (0, .ref b)] []) : V (kM p l e s m b below meth c D cy ([] ++ wl cy aB ZB MB)) aM n1 n2 ZM MM 342 [(3, .int i), (2, .ref (aM 0)), (1, .ref (aB 0)), (0, .ref b)] [] := by
  refine V.exch (X0 := []) (M2 := MM) zokB ?_
  refine V_aload_n (f _) dL_law_342 2 rfl ?_
  refine V_aload_n (f _) dL_law_343 3 rfl ?_
  refine V_iload_n (f _) dL_law_344 0 rfl ?_
  refine V_iconst (v := 1) (f _) dL_law_345 (by decide) ?_
  refine V_iadd (f _) dL_law_346 ?_
  refine V_sld (f _) hX hbl (i := i + 1) (hi 1 (by decide) (by decide)) dL_law_347 ?_
  refine V_cVi (As := [.int (xs (Int32.toNatClampNeg (i + 1)))]) (rest := []) (f _) dL_law_348 lk_L_50 ml_L_50 ins_X8_want sel_X8_want zb_0 (by decide) rfl (c3_X8_want _ _ _ _ aB MB (xs (Int32.toNatClampNeg (i + 1))) hR.1) rfl (Nat.le_of_ble_eq_true rfl) rfl ⟨by decide, by decide⟩ ⟨h1, h2⟩ rfl rfl ?_
  refine V_pop (f _) dL_law_351 rfl ?_
  refine V.exch (X0 := []) (M2 := (s3_X8_want MB (xs (Int32.toNatClampNeg (i + 1)))).2) zokM ?_
  refine V_aload_n (f _) dL_law_352 1 rfl ?_
  refine V_aload_n (f _) dL_law_353 3 rfl ?_
  refine V_iload_n (f _) dL_law_354 0 rfl ?_
  refine V_iconst (v := 1) (f _) dL_law_355 (by decide) ?_
  refine V_iadd (f _) dL_law_356 ?_
  refine V_sld (f _) hX hbl (i := i + 1) (hi 1 (by decide) (by decide)) dL_law_357 ?_
  refine V_cVi (As := [.int (xs (Int32.toNatClampNeg (i + 1)))]) (rest := []) (f _) dL_law_358 lk_L_53 ml_L_53 ins_X9_want sel_X9_want zm_0 (by decide) rfl (c3_X9_want _ _ _ _ aM MM (xs (Int32.toNatClampNeg (i + 1))) hR.2.1.1) rfl (Nat.le_of_ble_eq_true rfl) rfl ⟨by decide, by decide⟩ ⟨h1, h2⟩ rfl rfl ?_
  refine V_pop (f _) dL_law_361 rfl ?_
  refine V_goto (tgt := 708) (f _) dL_law_362 (by decide) ?_
  exact fin _ _ (Rl_q hR (Kd_want hR.1 _) (Km_up1 (Me_want hR.2.1.1 hR.2.1.2 _)))
set_option maxHeartbeats 4000000 in
set_option maxRecDepth 100000 in
theorem lwc_9 {p : Program} {l : Launch} {e : Env} {s : State} {m : MethodId} {b : Nat} {below : List Frame} {meth : Method} {c : Code} {D : va_G} {cy : Nat → ClassId} (f : ∀ X, Fx (kM p l e s m b below meth c D cy X) cL_law RL 4 room_1) {L : Nat} {xs : Nat → Int32} (hX : va_X b L xs s s.heap) (hbl : b < s.heap.size) (aB aM : Nat → Nat) (MB MM : MT) {n1 n2 : Nat} (h1 : n1 ≤ 600000) (h2 : n2 ≤ 7302250) {cs cv : Nat → Nat} {z : Value} (hw : SW cs cv z (fun q : Nat => s.heap.size ≤ q) s) {i : Int32} {cn : Nat} (hi : ∀ j : Int32, 0 ≤ j.toInt → j.toInt ≤ 5 → vp_in (i + j) L) (hR : Rl cn MB MM) (hcn : cn ≤ 511) (fin : ∀ B1 M1 : MT, Rl (cn + 1) B1 M1 → V (kM p l e s m b below meth c D cy ([] ++ wl cy aB ZB B1)) aM n1 n2 ZM M1 708 [(3, .int i), (2, .ref (aM 0)), (1, .ref (aB 0)), (0, .ref b)] []) : V (kM p l e s m b below meth c D cy ([] ++ wl cy aB ZB MB)) aM n1 n2 ZM MM 365 [(3, .int i), (2, .ref (aM 0)), (1, .ref (aB 0)), (0, .ref b)] [] := by
  refine V.exch (X0 := []) (M2 := MM) zokB ?_
  refine V_aload_n (f _) dL_law_365 2 rfl ?_
  refine V_aload_n (f _) dL_law_366 3 rfl ?_
  refine V_iload_n (f _) dL_law_367 0 rfl ?_
  refine V_iconst (v := 1) (f _) dL_law_368 (by decide) ?_
  refine V_iadd (f _) dL_law_369 ?_
  refine V_sld (f _) hX hbl (i := i + 1) (hi 1 (by decide) (by decide)) dL_law_370 ?_
  refine V_aload_n (f _) dL_law_371 3 rfl ?_
  refine V_iload_n (f _) dL_law_372 0 rfl ?_
  refine V_iconst (v := 2) (f _) dL_law_373 (by decide) ?_
  refine V_iadd (f _) dL_law_374 ?_
  refine V_sld (f _) hX hbl (i := i + 2) (hi 2 (by decide) (by decide)) dL_law_375 ?_
  refine V_cVi (As := [.int (xs (Int32.toNatClampNeg (i + 1))), .int (xs (Int32.toNatClampNeg (i + 2)))]) (rest := []) (f _) dL_law_376 lk_L_54 ml_L_54 ins_X8_read sel_X8_read zb_0 (by decide) rfl (c3_X8_read _ _ _ _ aB MB (xs (Int32.toNatClampNeg (i + 1))) (xs (Int32.toNatClampNeg (i + 2))) hR.1) rfl (Nat.le_of_ble_eq_true rfl) rfl ⟨by decide, by decide⟩ ⟨h1, h2⟩ rfl rfl ?_
  refine V_pop (f _) dL_law_379 rfl ?_
  refine V.exch (X0 := []) (M2 := (s3_X8_read MB (xs (Int32.toNatClampNeg (i + 1))) (xs (Int32.toNatClampNeg (i + 2)))).2) zokM ?_
  refine V_aload_n (f _) dL_law_380 1 rfl ?_
  refine V_aload_n (f _) dL_law_381 3 rfl ?_
  refine V_iload_n (f _) dL_law_382 0 rfl ?_
  refine V_iconst (v := 1) (f _) dL_law_383 (by decide) ?_
  refine V_iadd (f _) dL_law_384 ?_
  refine V_sld (f _) hX hbl (i := i + 1) (hi 1 (by decide) (by decide)) dL_law_385 ?_
  refine V_aload_n (f _) dL_law_386 3 rfl ?_
  refine V_iload_n (f _) dL_law_387 0 rfl ?_
  refine V_iconst (v := 2) (f _) dL_law_388 (by decide) ?_
  refine V_iadd (f _) dL_law_389 ?_
  refine V_sld (f _) hX hbl (i := i + 2) (hi 2 (by decide) (by decide)) dL_law_390 ?_
  refine V_cVi (As := [.int (xs (Int32.toNatClampNeg (i + 1))), .int (xs (Int32.toNatClampNeg (i + 2)))]) (rest := []) (f _) dL_law_391 lk_L_57 ml_L_57 ins_X9_read sel_X9_read zm_0 (by decide) rfl (c3_X9_read _ _ _ _ aM MM (xs (Int32.toNatClampNeg (i + 1))) (xs (Int32.toNatClampNeg (i + 2))) hR.2.1.1) rfl (Nat.le_of_ble_eq_true rfl) rfl ⟨by decide, by decide⟩ ⟨h1, h2⟩ rfl rfl ?_
  refine V_pop (f _) dL_law_394 rfl ?_
  refine V_goto (tgt := 708) (f _) dL_law_395 (by decide) ?_
  exact fin _ _ (Rl_q hR (Kd_read hR.1 _ _) (Km_up1 (Me_read hR.2.1.1 hR.2.1.2 _ _)))
set_option maxHeartbeats 4000000 in
set_option maxRecDepth 100000 in
theorem lwc_10 {p : Program} {l : Launch} {e : Env} {s : State} {m : MethodId} {b : Nat} {below : List Frame} {meth : Method} {c : Code} {D : va_G} {cy : Nat → ClassId} (f : ∀ X, Fx (kM p l e s m b below meth c D cy X) cL_law RL 4 room_1) {L : Nat} {xs : Nat → Int32} (hX : va_X b L xs s s.heap) (hbl : b < s.heap.size) (aB aM : Nat → Nat) (MB MM : MT) {n1 n2 : Nat} (h1 : n1 ≤ 600000) (h2 : n2 ≤ 7302250) {cs cv : Nat → Nat} {z : Value} (hw : SW cs cv z (fun q : Nat => s.heap.size ≤ q) s) {i : Int32} {cn : Nat} (hi : ∀ j : Int32, 0 ≤ j.toInt → j.toInt ≤ 5 → vp_in (i + j) L) (hR : Rl cn MB MM) (hcn : cn ≤ 511) (fin : ∀ B1 M1 : MT, Rl (cn + 1) B1 M1 → V (kM p l e s m b below meth c D cy ([] ++ wl cy aB ZB B1)) aM n1 n2 ZM M1 708 [(3, .int i), (2, .ref (aM 0)), (1, .ref (aB 0)), (0, .ref b)] []) : V (kM p l e s m b below meth c D cy ([] ++ wl cy aB ZB MB)) aM n1 n2 ZM MM 398 [(3, .int i), (2, .ref (aM 0)), (1, .ref (aB 0)), (0, .ref b)] [] := by
  refine V.exch (X0 := []) (M2 := MM) zokB ?_
  refine V_aload_n (f _) dL_law_398 2 rfl ?_
  refine V_aload_n (f _) dL_law_399 3 rfl ?_
  refine V_iload_n (f _) dL_law_400 0 rfl ?_
  refine V_iconst (v := 1) (f _) dL_law_401 (by decide) ?_
  refine V_iadd (f _) dL_law_402 ?_
  refine V_sld (f _) hX hbl (i := i + 1) (hi 1 (by decide) (by decide)) dL_law_403 ?_
  refine V_aload_n (f _) dL_law_404 3 rfl ?_
  refine V_iload_n (f _) dL_law_405 0 rfl ?_
  refine V_iconst (v := 2) (f _) dL_law_406 (by decide) ?_
  refine V_iadd (f _) dL_law_407 ?_
  refine V_sld (f _) hX hbl (i := i + 2) (hi 2 (by decide) (by decide)) dL_law_408 ?_
  refine V_aload_n (f _) dL_law_409 3 rfl ?_
  refine V_iload_n (f _) dL_law_410 0 rfl ?_
  refine V_iconst (v := 3) (f _) dL_law_411 (by decide) ?_
  refine V_iadd (f _) dL_law_412 ?_
  refine V_sld (f _) hX hbl (i := i + 3) (hi 3 (by decide) (by decide)) dL_law_413 ?_
  refine V_cVp (As := [.int (xs (Int32.toNatClampNeg (i + 1))), .int (xs (Int32.toNatClampNeg (i + 2))), .int (xs (Int32.toNatClampNeg (i + 3)))]) (rest := []) (f _) dL_law_414 lk_L_58 ml_L_58 ins_X8_day sel_X8_day zb_0 (by decide) rfl (c3_X8_day _ _ _ _ aB MB (xs (Int32.toNatClampNeg (i + 1))) (xs (Int32.toNatClampNeg (i + 2))) (xs (Int32.toNatClampNeg (i + 3))) hR.1) rfl (Nat.le_of_ble_eq_true rfl) rfl ⟨by decide, by decide⟩ ⟨h1, h2⟩ rfl rfl (fun v1 B1 hp1 => ?_)
  obtain ⟨r1, rfl⟩ := DP_int hp1
  show V _ _ _ _ _ _ _ _ [.int r1]
  refine V.exch (X0 := []) (M2 := B1) zokM ?_
  refine V_aload_n (f _) dL_law_417 1 rfl ?_
  refine V_aload_n (f _) dL_law_418 3 rfl ?_
  refine V_iload_n (f _) dL_law_419 0 rfl ?_
  refine V_iconst (v := 1) (f _) dL_law_420 (by decide) ?_
  refine V_iadd (f _) dL_law_421 ?_
  refine V_sld (f _) hX hbl (i := i + 1) (hi 1 (by decide) (by decide)) dL_law_422 ?_
  refine V_aload_n (f _) dL_law_423 3 rfl ?_
  refine V_iload_n (f _) dL_law_424 0 rfl ?_
  refine V_iconst (v := 2) (f _) dL_law_425 (by decide) ?_
  refine V_iadd (f _) dL_law_426 ?_
  refine V_sld (f _) hX hbl (i := i + 2) (hi 2 (by decide) (by decide)) dL_law_427 ?_
  refine V_aload_n (f _) dL_law_428 3 rfl ?_
  refine V_iload_n (f _) dL_law_429 0 rfl ?_
  refine V_iconst (v := 3) (f _) dL_law_430 (by decide) ?_
  refine V_iadd (f _) dL_law_431 ?_
  refine V_sld (f _) hX hbl (i := i + 3) (hi 3 (by decide) (by decide)) dL_law_432 ?_
  refine V_cVp (As := [.int (xs (Int32.toNatClampNeg (i + 1))), .int (xs (Int32.toNatClampNeg (i + 2))), .int (xs (Int32.toNatClampNeg (i + 3)))]) (rest := [.int r1]) (f _) dL_law_433 lk_L_62 ml_L_62 ins_X9_day sel_X9_day zm_0 (by decide) rfl (c3_X9_day _ _ _ _ aM MM (xs (Int32.toNatClampNeg (i + 1))) (xs (Int32.toNatClampNeg (i + 2))) (xs (Int32.toNatClampNeg (i + 3))) _ _ hR.2.1.1 hR.2.1.2 (wB_b hcn).1 (wB_b hcn).2) rfl (Nat.le_of_ble_eq_true rfl) rfl ⟨by decide, by decide⟩ ⟨h1, h2⟩ rfl rfl (fun v2 M1 hp2 => ?_)
  obtain ⟨r2, rfl⟩ := DM_int hp2
  show V _ _ _ _ _ _ _ _ [.int r2, .int r1]
  refine V_icmp_eq (tgt := 708) (f _) dL_law_436 (by decide) (fun _ => fin _ _ (R_day hR hp1 hp2).1) (fun h => absurd (i_inj (R_day hR hp1 hp2).2) h)
set_option maxHeartbeats 4000000 in
set_option maxRecDepth 100000 in
theorem lwc_11 {p : Program} {l : Launch} {e : Env} {s : State} {m : MethodId} {b : Nat} {below : List Frame} {meth : Method} {c : Code} {D : va_G} {cy : Nat → ClassId} (f : ∀ X, Fx (kM p l e s m b below meth c D cy X) cL_law RL 4 room_1) {L : Nat} {xs : Nat → Int32} (hX : va_X b L xs s s.heap) (hbl : b < s.heap.size) (aB aM : Nat → Nat) (MB MM : MT) {n1 n2 : Nat} (h1 : n1 ≤ 600000) (h2 : n2 ≤ 7302250) {cs cv : Nat → Nat} {z : Value} (hw : SW cs cv z (fun q : Nat => s.heap.size ≤ q) s) {i : Int32} {cn : Nat} (hi : ∀ j : Int32, 0 ≤ j.toInt → j.toInt ≤ 5 → vp_in (i + j) L) (hR : Rl cn MB MM) (hcn : cn ≤ 511) (fin : ∀ B1 M1 : MT, Rl (cn + 1) B1 M1 → V (kM p l e s m b below meth c D cy ([] ++ wl cy aB ZB B1)) aM n1 n2 ZM M1 708 [(3, .int i), (2, .ref (aM 0)), (1, .ref (aB 0)), (0, .ref b)] []) : V (kM p l e s m b below meth c D cy ([] ++ wl cy aB ZB MB)) aM n1 n2 ZM MM 441 [(3, .int i), (2, .ref (aM 0)), (1, .ref (aB 0)), (0, .ref b)] [] := by
  refine V.exch (X0 := []) (M2 := MM) zokB ?_
  refine V_aload_n (f _) dL_law_441 2 rfl ?_
  refine V_aload_n (f _) dL_law_442 3 rfl ?_
  refine V_iload_n (f _) dL_law_443 0 rfl ?_
  refine V_iconst (v := 1) (f _) dL_law_444 (by decide) ?_
  refine V_iadd (f _) dL_law_445 ?_
  refine V_sld (f _) hX hbl (i := i + 1) (hi 1 (by decide) (by decide)) dL_law_446 ?_
  refine V_aload_n (f _) dL_law_447 3 rfl ?_
  refine V_iload_n (f _) dL_law_448 0 rfl ?_
  refine V_iconst (v := 2) (f _) dL_law_449 (by decide) ?_
  refine V_iadd (f _) dL_law_450 ?_
  refine V_sld (f _) hX hbl (i := i + 2) (hi 2 (by decide) (by decide)) dL_law_451 ?_
  refine V_aload_n (f _) dL_law_452 3 rfl ?_
  refine V_iload_n (f _) dL_law_453 0 rfl ?_
  refine V_iconst (v := 3) (f _) dL_law_454 (by decide) ?_
  refine V_iadd (f _) dL_law_455 ?_
  refine V_sld (f _) hX hbl (i := i + 3) (hi 3 (by decide) (by decide)) dL_law_456 ?_
  refine V_aload_n (f _) dL_law_457 3 rfl ?_
  refine V_iload_n (f _) dL_law_458 0 rfl ?_
  refine V_iconst (v := 4) (f _) dL_law_459 (by decide) ?_
  refine V_iadd (f _) dL_law_460 ?_
  refine V_sld (f _) hX hbl (i := i + 4) (hi 4 (by decide) (by decide)) dL_law_461 ?_
  refine V_aload_n (f _) dL_law_462 3 rfl ?_
  refine V_iload_n (f _) dL_law_463 0 rfl ?_
  refine V_iconst (v := 5) (f _) dL_law_464 (by decide) ?_
  refine V_iadd (f _) dL_law_465 ?_
  refine V_sld (f _) hX hbl (i := i + 5) (hi 5 (by decide) (by decide)) dL_law_466 ?_
  refine V_cVi (As := [.int (xs (Int32.toNatClampNeg (i + 1))), .int (xs (Int32.toNatClampNeg (i + 2))), .int (xs (Int32.toNatClampNeg (i + 3))), .int (xs (Int32.toNatClampNeg (i + 4))), .int (xs (Int32.toNatClampNeg (i + 5)))]) (rest := []) (f _) dL_law_467 lk_L_63 ml_L_63 ins_X8_feed sel_X8_feed zb_0 (by decide) rfl (c3_X8_feed _ _ _ _ aB MB (xs (Int32.toNatClampNeg (i + 1))) (xs (Int32.toNatClampNeg (i + 2))) (xs (Int32.toNatClampNeg (i + 3))) (xs (Int32.toNatClampNeg (i + 4))) (xs (Int32.toNatClampNeg (i + 5))) hR.1) rfl (Nat.le_of_ble_eq_true rfl) rfl ⟨by decide, by decide⟩ ⟨h1, h2⟩ rfl rfl ?_
  refine V_pop (f _) dL_law_470 rfl ?_
  refine V.exch (X0 := []) (M2 := (s3_X8_feed MB (xs (Int32.toNatClampNeg (i + 1))) (xs (Int32.toNatClampNeg (i + 2))) (xs (Int32.toNatClampNeg (i + 3))) (xs (Int32.toNatClampNeg (i + 4))) (xs (Int32.toNatClampNeg (i + 5)))).2) zokM ?_
  refine V_aload_n (f _) dL_law_471 1 rfl ?_
  refine V_aload_n (f _) dL_law_472 3 rfl ?_
  refine V_iload_n (f _) dL_law_473 0 rfl ?_
  refine V_iconst (v := 1) (f _) dL_law_474 (by decide) ?_
  refine V_iadd (f _) dL_law_475 ?_
  refine V_sld (f _) hX hbl (i := i + 1) (hi 1 (by decide) (by decide)) dL_law_476 ?_
  refine V_aload_n (f _) dL_law_477 3 rfl ?_
  refine V_iload_n (f _) dL_law_478 0 rfl ?_
  refine V_iconst (v := 2) (f _) dL_law_479 (by decide) ?_
  refine V_iadd (f _) dL_law_480 ?_
  refine V_sld (f _) hX hbl (i := i + 2) (hi 2 (by decide) (by decide)) dL_law_481 ?_
  refine V_aload_n (f _) dL_law_482 3 rfl ?_
  refine V_iload_n (f _) dL_law_483 0 rfl ?_
  refine V_iconst (v := 3) (f _) dL_law_484 (by decide) ?_
  refine V_iadd (f _) dL_law_485 ?_
  refine V_sld (f _) hX hbl (i := i + 3) (hi 3 (by decide) (by decide)) dL_law_486 ?_
  refine V_aload_n (f _) dL_law_487 3 rfl ?_
  refine V_iload_n (f _) dL_law_488 0 rfl ?_
  refine V_iconst (v := 4) (f _) dL_law_489 (by decide) ?_
  refine V_iadd (f _) dL_law_490 ?_
  refine V_sld (f _) hX hbl (i := i + 4) (hi 4 (by decide) (by decide)) dL_law_491 ?_
  refine V_aload_n (f _) dL_law_492 3 rfl ?_
  refine V_iload_n (f _) dL_law_493 0 rfl ?_
  refine V_iconst (v := 5) (f _) dL_law_494 (by decide) ?_
  refine V_iadd (f _) dL_law_495 ?_
  refine V_sld (f _) hX hbl (i := i + 5) (hi 5 (by decide) (by decide)) dL_law_496 ?_
  refine V_cVi (As := [.int (xs (Int32.toNatClampNeg (i + 1))), .int (xs (Int32.toNatClampNeg (i + 2))), .int (xs (Int32.toNatClampNeg (i + 3))), .int (xs (Int32.toNatClampNeg (i + 4))), .int (xs (Int32.toNatClampNeg (i + 5)))]) (rest := []) (f _) dL_law_497 lk_L_67 ml_L_67 ins_X9_feed sel_X9_feed zm_0 (by decide) rfl (c3_X9_feed _ _ _ _ aM MM (xs (Int32.toNatClampNeg (i + 1))) (xs (Int32.toNatClampNeg (i + 2))) (xs (Int32.toNatClampNeg (i + 3))) (xs (Int32.toNatClampNeg (i + 4))) (xs (Int32.toNatClampNeg (i + 5))) hR.2.1.1) rfl (Nat.le_of_ble_eq_true rfl) rfl ⟨by decide, by decide⟩ ⟨h1, h2⟩ rfl rfl ?_
  refine V_pop (f _) dL_law_500 rfl ?_
  refine V_goto (tgt := 708) (f _) dL_law_501 (by decide) ?_
  exact fin _ _ (Rl_feed hR _ _ _ _ _)
set_option maxHeartbeats 4000000 in
set_option maxRecDepth 100000 in
theorem lwc_12 {p : Program} {l : Launch} {e : Env} {s : State} {m : MethodId} {b : Nat} {below : List Frame} {meth : Method} {c : Code} {D : va_G} {cy : Nat → ClassId} (f : ∀ X, Fx (kM p l e s m b below meth c D cy X) cL_law RL 4 room_1) {L : Nat} {xs : Nat → Int32} (hX : va_X b L xs s s.heap) (hbl : b < s.heap.size) (aB aM : Nat → Nat) (MB MM : MT) {n1 n2 : Nat} (h1 : n1 ≤ 600000) (h2 : n2 ≤ 7302250) {cs cv : Nat → Nat} {z : Value} (hw : SW cs cv z (fun q : Nat => s.heap.size ≤ q) s) {i : Int32} {cn : Nat} (hi : ∀ j : Int32, 0 ≤ j.toInt → j.toInt ≤ 5 → vp_in (i + j) L) (hR : Rl cn MB MM) (hcn : cn ≤ 511) (fin : ∀ B1 M1 : MT, Rl (cn + 1) B1 M1 → V (kM p l e s m b below meth c D cy ([] ++ wl cy aB ZB B1)) aM n1 n2 ZM M1 708 [(3, .int i), (2, .ref (aM 0)), (1, .ref (aB 0)), (0, .ref b)] []) : V (kM p l e s m b below meth c D cy ([] ++ wl cy aB ZB MB)) aM n1 n2 ZM MM 504 [(3, .int i), (2, .ref (aM 0)), (1, .ref (aB 0)), (0, .ref b)] [] := by
  refine V.exch (X0 := []) (M2 := MM) zokB ?_
  refine V_aload_n (f _) dL_law_504 2 rfl ?_
  refine V_aload_n (f _) dL_law_505 3 rfl ?_
  refine V_iload_n (f _) dL_law_506 0 rfl ?_
  refine V_iconst (v := 1) (f _) dL_law_507 (by decide) ?_
  refine V_iadd (f _) dL_law_508 ?_
  refine V_sld (f _) hX hbl (i := i + 1) (hi 1 (by decide) (by decide)) dL_law_509 ?_
  refine V_cVs (As := [.int (xs (Int32.toNatClampNeg (i + 1)))]) (rest := []) (f _) hw dL_law_510 lk_L_68 ml_L_68 ins_X8_law sel_X8_law zb_0 (by decide) rfl (c3_X8_law _ _ _ _ _ _ _ aB MB (xs (Int32.toNatClampNeg (i + 1))) hR.1) rfl (Nat.le_of_ble_eq_true rfl) rfl ⟨by decide, by decide⟩ ⟨h1, h2⟩ rfl rfl (fun v1 B1 hp1 => ?_)
  obtain ⟨⟨r1, rfl⟩, k1⟩ := hp1
  show V _ _ _ _ _ _ _ _ [.int r1]
  refine V_pop (f _) dL_law_513 rfl ?_
  refine V.exch (X0 := []) (M2 := B1) zokM ?_
  refine V_aload_n (f _) dL_law_514 1 rfl ?_
  refine V_aload_n (f _) dL_law_515 3 rfl ?_
  refine V_iload_n (f _) dL_law_516 0 rfl ?_
  refine V_iconst (v := 1) (f _) dL_law_517 (by decide) ?_
  refine V_iadd (f _) dL_law_518 ?_
  refine V_sld (f _) hX hbl (i := i + 1) (hi 1 (by decide) (by decide)) dL_law_519 ?_
  refine V_cVp (As := [.int (xs (Int32.toNatClampNeg (i + 1)))]) (rest := []) (f _) dL_law_520 lk_L_71 ml_L_71 ins_X9_law sel_X9_law zm_0 (by decide) rfl (c3_X9_law _ _ _ _ aM MM (xs (Int32.toNatClampNeg (i + 1))) hR.2.1.1) rfl (Nat.le_of_ble_eq_true rfl) rfl ⟨by decide, by decide⟩ ⟨h1, h2⟩ rfl rfl (fun v2 M1 hp2 => ?_)
  obtain ⟨⟨r2, rfl⟩, k2⟩ := hp2
  show V _ _ _ _ _ _ _ _ [.int r2]
  refine V_pop (f _) dL_law_523 rfl ?_
  refine V_goto (tgt := 708) (f _) dL_law_524 (by decide) ?_
  exact fin _ _ (Rl_law hR k1 k2)
set_option maxHeartbeats 4000000 in
set_option maxRecDepth 100000 in
theorem lwc_13 {p : Program} {l : Launch} {e : Env} {s : State} {m : MethodId} {b : Nat} {below : List Frame} {meth : Method} {c : Code} {D : va_G} {cy : Nat → ClassId} (f : ∀ X, Fx (kM p l e s m b below meth c D cy X) cL_law RL 4 room_1) {L : Nat} {xs : Nat → Int32} (hX : va_X b L xs s s.heap) (hbl : b < s.heap.size) (aB aM : Nat → Nat) (MB MM : MT) {n1 n2 : Nat} (h1 : n1 ≤ 600000) (h2 : n2 ≤ 7302250) {cs cv : Nat → Nat} {z : Value} (hw : SW cs cv z (fun q : Nat => s.heap.size ≤ q) s) {i : Int32} {cn : Nat} (hi : ∀ j : Int32, 0 ≤ j.toInt → j.toInt ≤ 5 → vp_in (i + j) L) (hR : Rl cn MB MM) (hcn : cn ≤ 511) (fin : ∀ B1 M1 : MT, Rl (cn + 1) B1 M1 → V (kM p l e s m b below meth c D cy ([] ++ wl cy aB ZB B1)) aM n1 n2 ZM M1 708 [(3, .int i), (2, .ref (aM 0)), (1, .ref (aB 0)), (0, .ref b)] []) : V (kM p l e s m b below meth c D cy ([] ++ wl cy aB ZB MB)) aM n1 n2 ZM MM 527 [(3, .int i), (2, .ref (aM 0)), (1, .ref (aB 0)), (0, .ref b)] [] := by
  refine V.exch (X0 := []) (M2 := MM) zokB ?_
  refine V_aload_n (f _) dL_law_527 2 rfl ?_
  refine V_cVi (As := []) (rest := []) (f _) dL_law_528 lk_L_72 ml_L_72 ins_X8_fault sel_X8_fault zb_0 (by decide) rfl (c3_X8_fault _ _ _ _ aB MB  hR.1) rfl (Nat.le_of_ble_eq_true rfl) rfl ⟨by decide, by decide⟩ ⟨h1, h2⟩ rfl rfl ?_
  refine V_pop (f _) dL_law_531 rfl ?_
  refine V.exch (X0 := []) (M2 := MB) zokM ?_
  refine V_aload_n (f _) dL_law_532 1 rfl ?_
  refine V_cVi (As := []) (rest := []) (f _) dL_law_533 lk_L_75 ml_L_75 ins_X9_fault sel_X9_fault zm_0 (by decide) rfl (c3_X9_fault _ _ _ _ aM MM  hR.2.1.1) rfl (Nat.le_of_ble_eq_true rfl) rfl ⟨by decide, by decide⟩ ⟨h1, h2⟩ rfl rfl ?_
  refine V_pop (f _) dL_law_536 rfl ?_
  refine V_goto (tgt := 708) (f _) dL_law_537 (by decide) ?_
  exact fin _ _ (Rl_q hR (Kp_refl hR.1) (Km_up1 (Km_refl hR.2.1.1 hR.2.1.2)))
set_option maxHeartbeats 4000000 in
set_option maxRecDepth 100000 in
theorem lwc_14 {p : Program} {l : Launch} {e : Env} {s : State} {m : MethodId} {b : Nat} {below : List Frame} {meth : Method} {c : Code} {D : va_G} {cy : Nat → ClassId} (f : ∀ X, Fx (kM p l e s m b below meth c D cy X) cL_law RL 4 room_1) {L : Nat} {xs : Nat → Int32} (hX : va_X b L xs s s.heap) (hbl : b < s.heap.size) (aB aM : Nat → Nat) (MB MM : MT) {n1 n2 : Nat} (h1 : n1 ≤ 600000) (h2 : n2 ≤ 7302250) {cs cv : Nat → Nat} {z : Value} (hw : SW cs cv z (fun q : Nat => s.heap.size ≤ q) s) {i : Int32} {cn : Nat} (hi : ∀ j : Int32, 0 ≤ j.toInt → j.toInt ≤ 5 → vp_in (i + j) L) (hR : Rl cn MB MM) (hcn : cn ≤ 511) (fin : ∀ B1 M1 : MT, Rl (cn + 1) B1 M1 → V (kM p l e s m b below meth c D cy ([] ++ wl cy aB ZB B1)) aM n1 n2 ZM M1 708 [(3, .int i), (2, .ref (aM 0)), (1, .ref (aB 0)), (0, .ref b)] []) : V (kM p l e s m b below meth c D cy ([] ++ wl cy aB ZB MB)) aM n1 n2 ZM MM 540 [(3, .int i), (2, .ref (aM 0)), (1, .ref (aB 0)), (0, .ref b)] [] := by
  refine V.exch (X0 := []) (M2 := MM) zokB ?_
  refine V_aload_n (f _) dL_law_540 2 rfl ?_
  refine V_aload_n (f _) dL_law_541 3 rfl ?_
  refine V_iload_n (f _) dL_law_542 0 rfl ?_
  refine V_iconst (v := 1) (f _) dL_law_543 (by decide) ?_
  refine V_iadd (f _) dL_law_544 ?_
  refine V_sld (f _) hX hbl (i := i + 1) (hi 1 (by decide) (by decide)) dL_law_545 ?_
  refine V_aload_n (f _) dL_law_546 3 rfl ?_
  refine V_iload_n (f _) dL_law_547 0 rfl ?_
  refine V_iconst (v := 2) (f _) dL_law_548 (by decide) ?_
  refine V_iadd (f _) dL_law_549 ?_
  refine V_sld (f _) hX hbl (i := i + 2) (hi 2 (by decide) (by decide)) dL_law_550 ?_
  refine V_cVp (As := [.int (xs (Int32.toNatClampNeg (i + 1))), .int (xs (Int32.toNatClampNeg (i + 2)))]) (rest := []) (f _) dL_law_551 lk_L_76 ml_L_76 ins_X8_tells sel_X8_tells zb_0 (by decide) rfl (c3_X8_tells _ _ _ _ aB MB (xs (Int32.toNatClampNeg (i + 1))) (xs (Int32.toNatClampNeg (i + 2))) hR.1) rfl (Nat.le_of_ble_eq_true rfl) rfl ⟨by decide, by decide⟩ ⟨h1, h2⟩ rfl rfl (fun v1 B1 hp1 => ?_)
  obtain ⟨⟨r1, rfl⟩, k1⟩ := hp1
  show V _ _ _ _ _ _ _ _ [.int r1]
  refine V_pop (f _) dL_law_554 rfl ?_
  refine V.exch (X0 := []) (M2 := B1) zokM ?_
  refine V_aload_n (f _) dL_law_555 1 rfl ?_
  refine V_aload_n (f _) dL_law_556 3 rfl ?_
  refine V_iload_n (f _) dL_law_557 0 rfl ?_
  refine V_iconst (v := 1) (f _) dL_law_558 (by decide) ?_
  refine V_iadd (f _) dL_law_559 ?_
  refine V_sld (f _) hX hbl (i := i + 1) (hi 1 (by decide) (by decide)) dL_law_560 ?_
  refine V_aload_n (f _) dL_law_561 3 rfl ?_
  refine V_iload_n (f _) dL_law_562 0 rfl ?_
  refine V_iconst (v := 2) (f _) dL_law_563 (by decide) ?_
  refine V_iadd (f _) dL_law_564 ?_
  refine V_sld (f _) hX hbl (i := i + 2) (hi 2 (by decide) (by decide)) dL_law_565 ?_
  refine V_cVp (As := [.int (xs (Int32.toNatClampNeg (i + 1))), .int (xs (Int32.toNatClampNeg (i + 2)))]) (rest := []) (f _) dL_law_566 lk_L_79 ml_L_79 ins_X9_tells sel_X9_tells zm_0 (by decide) rfl (c3_X9_tells _ _ _ _ aM MM (xs (Int32.toNatClampNeg (i + 1))) (xs (Int32.toNatClampNeg (i + 2))) hR.2.1.1) rfl (Nat.le_of_ble_eq_true rfl) rfl ⟨by decide, by decide⟩ ⟨h1, h2⟩ rfl rfl (fun v2 M1 hp2 => ?_)
  obtain ⟨⟨r2, rfl⟩, k2⟩ := hp2
  show V _ _ _ _ _ _ _ _ [.int r2]
  refine V_pop (f _) dL_law_569 rfl ?_
  refine V_goto (tgt := 708) (f _) dL_law_570 (by decide) ?_
  exact fin _ _ (Rl_q hR (Kp_eq hR.1 k1) (Km_up1 (Km_eq hR.2.1.1 hR.2.1.2 k2)))
set_option maxHeartbeats 4000000 in
set_option maxRecDepth 100000 in
theorem lwc_15 {p : Program} {l : Launch} {e : Env} {s : State} {m : MethodId} {b : Nat} {below : List Frame} {meth : Method} {c : Code} {D : va_G} {cy : Nat → ClassId} (f : ∀ X, Fx (kM p l e s m b below meth c D cy X) cL_law RL 4 room_1) {L : Nat} {xs : Nat → Int32} (hX : va_X b L xs s s.heap) (hbl : b < s.heap.size) (aB aM : Nat → Nat) (MB MM : MT) {n1 n2 : Nat} (h1 : n1 ≤ 600000) (h2 : n2 ≤ 7302250) {cs cv : Nat → Nat} {z : Value} (hw : SW cs cv z (fun q : Nat => s.heap.size ≤ q) s) {i : Int32} {cn : Nat} (hi : ∀ j : Int32, 0 ≤ j.toInt → j.toInt ≤ 5 → vp_in (i + j) L) (hR : Rl cn MB MM) (hcn : cn ≤ 511) (fin : ∀ B1 M1 : MT, Rl (cn + 1) B1 M1 → V (kM p l e s m b below meth c D cy ([] ++ wl cy aB ZB B1)) aM n1 n2 ZM M1 708 [(3, .int i), (2, .ref (aM 0)), (1, .ref (aB 0)), (0, .ref b)] []) : V (kM p l e s m b below meth c D cy ([] ++ wl cy aB ZB MB)) aM n1 n2 ZM MM 573 [(3, .int i), (2, .ref (aM 0)), (1, .ref (aB 0)), (0, .ref b)] [] := by
  refine V.exch (X0 := []) (M2 := MM) zokB ?_
  refine V_aload_n (f _) dL_law_573 2 rfl ?_
  refine V_aload_n (f _) dL_law_574 3 rfl ?_
  refine V_iload_n (f _) dL_law_575 0 rfl ?_
  refine V_iconst (v := 1) (f _) dL_law_576 (by decide) ?_
  refine V_iadd (f _) dL_law_577 ?_
  refine V_sld (f _) hX hbl (i := i + 1) (hi 1 (by decide) (by decide)) dL_law_578 ?_
  refine V_aload_n (f _) dL_law_579 3 rfl ?_
  refine V_iload_n (f _) dL_law_580 0 rfl ?_
  refine V_iconst (v := 2) (f _) dL_law_581 (by decide) ?_
  refine V_iadd (f _) dL_law_582 ?_
  refine V_sld (f _) hX hbl (i := i + 2) (hi 2 (by decide) (by decide)) dL_law_583 ?_
  refine V_cVi (As := [.int (xs (Int32.toNatClampNeg (i + 1))), .int (xs (Int32.toNatClampNeg (i + 2)))]) (rest := []) (f _) dL_law_584 lk_L_80 ml_L_80 ins_X8_bay sel_X8_bay zb_0 (by decide) rfl (c3_X8_bay _ _ _ _ aB MB (xs (Int32.toNatClampNeg (i + 1))) (xs (Int32.toNatClampNeg (i + 2))) hR.1) rfl (Nat.le_of_ble_eq_true rfl) rfl ⟨by decide, by decide⟩ ⟨h1, h2⟩ rfl rfl ?_
  refine V_pop (f _) dL_law_587 rfl ?_
  refine V.exch (X0 := []) (M2 := MB) zokM ?_
  refine V_aload_n (f _) dL_law_588 1 rfl ?_
  refine V_aload_n (f _) dL_law_589 3 rfl ?_
  refine V_iload_n (f _) dL_law_590 0 rfl ?_
  refine V_iconst (v := 1) (f _) dL_law_591 (by decide) ?_
  refine V_iadd (f _) dL_law_592 ?_
  refine V_sld (f _) hX hbl (i := i + 1) (hi 1 (by decide) (by decide)) dL_law_593 ?_
  refine V_aload_n (f _) dL_law_594 3 rfl ?_
  refine V_iload_n (f _) dL_law_595 0 rfl ?_
  refine V_iconst (v := 2) (f _) dL_law_596 (by decide) ?_
  refine V_iadd (f _) dL_law_597 ?_
  refine V_sld (f _) hX hbl (i := i + 2) (hi 2 (by decide) (by decide)) dL_law_598 ?_
  refine V_cVi (As := [.int (xs (Int32.toNatClampNeg (i + 1))), .int (xs (Int32.toNatClampNeg (i + 2)))]) (rest := []) (f _) dL_law_599 lk_L_83 ml_L_83 ins_X9_bay sel_X9_bay zm_0 (by decide) rfl (c3_X9_bay _ _ _ _ aM MM (xs (Int32.toNatClampNeg (i + 1))) (xs (Int32.toNatClampNeg (i + 2))) hR.2.1.1) rfl (Nat.le_of_ble_eq_true rfl) rfl ⟨by decide, by decide⟩ ⟨h1, h2⟩ rfl rfl ?_
  refine V_pop (f _) dL_law_602 rfl ?_
  refine V_goto (tgt := 708) (f _) dL_law_603 (by decide) ?_
  exact fin _ _ (Rl_q hR (Kp_refl hR.1) (Km_up1 (Km_refl hR.2.1.1 hR.2.1.2)))
set_option maxHeartbeats 4000000 in
set_option maxRecDepth 100000 in
theorem lwc_16 {p : Program} {l : Launch} {e : Env} {s : State} {m : MethodId} {b : Nat} {below : List Frame} {meth : Method} {c : Code} {D : va_G} {cy : Nat → ClassId} (f : ∀ X, Fx (kM p l e s m b below meth c D cy X) cL_law RL 4 room_1) {L : Nat} {xs : Nat → Int32} (hX : va_X b L xs s s.heap) (hbl : b < s.heap.size) (aB aM : Nat → Nat) (MB MM : MT) {n1 n2 : Nat} (h1 : n1 ≤ 600000) (h2 : n2 ≤ 7302250) {cs cv : Nat → Nat} {z : Value} (hw : SW cs cv z (fun q : Nat => s.heap.size ≤ q) s) {i : Int32} {cn : Nat} (hi : ∀ j : Int32, 0 ≤ j.toInt → j.toInt ≤ 5 → vp_in (i + j) L) (hR : Rl cn MB MM) (hcn : cn ≤ 511) (fin : ∀ B1 M1 : MT, Rl (cn + 1) B1 M1 → V (kM p l e s m b below meth c D cy ([] ++ wl cy aB ZB B1)) aM n1 n2 ZM M1 708 [(3, .int i), (2, .ref (aM 0)), (1, .ref (aB 0)), (0, .ref b)] []) : V (kM p l e s m b below meth c D cy ([] ++ wl cy aB ZB MB)) aM n1 n2 ZM MM 606 [(3, .int i), (2, .ref (aM 0)), (1, .ref (aB 0)), (0, .ref b)] [] := by
  refine V.exch (X0 := []) (M2 := MM) zokB ?_
  refine V_aload_n (f _) dL_law_606 2 rfl ?_
  refine V_aload_n (f _) dL_law_607 3 rfl ?_
  refine V_iload_n (f _) dL_law_608 0 rfl ?_
  refine V_iconst (v := 1) (f _) dL_law_609 (by decide) ?_
  refine V_iadd (f _) dL_law_610 ?_
  refine V_sld (f _) hX hbl (i := i + 1) (hi 1 (by decide) (by decide)) dL_law_611 ?_
  refine V_aload_n (f _) dL_law_612 3 rfl ?_
  refine V_iload_n (f _) dL_law_613 0 rfl ?_
  refine V_iconst (v := 2) (f _) dL_law_614 (by decide) ?_
  refine V_iadd (f _) dL_law_615 ?_
  refine V_sld (f _) hX hbl (i := i + 2) (hi 2 (by decide) (by decide)) dL_law_616 ?_
  refine V_cVi (As := [.int (xs (Int32.toNatClampNeg (i + 1))), .int (xs (Int32.toNatClampNeg (i + 2)))]) (rest := []) (f _) dL_law_617 lk_L_84 ml_L_84 ins_X8_stackOf sel_X8_stackOf zb_0 (by decide) rfl (c3_X8_stackOf _ _ _ _ aB MB (xs (Int32.toNatClampNeg (i + 1))) (xs (Int32.toNatClampNeg (i + 2))) hR.1) rfl (Nat.le_of_ble_eq_true rfl) rfl ⟨by decide, by decide⟩ ⟨h1, h2⟩ rfl rfl ?_
  refine V_pop (f _) dL_law_620 rfl ?_
  refine V.exch (X0 := []) (M2 := MB) zokM ?_
  refine V_aload_n (f _) dL_law_621 1 rfl ?_
  refine V_aload_n (f _) dL_law_622 3 rfl ?_
  refine V_iload_n (f _) dL_law_623 0 rfl ?_
  refine V_iconst (v := 1) (f _) dL_law_624 (by decide) ?_
  refine V_iadd (f _) dL_law_625 ?_
  refine V_sld (f _) hX hbl (i := i + 1) (hi 1 (by decide) (by decide)) dL_law_626 ?_
  refine V_aload_n (f _) dL_law_627 3 rfl ?_
  refine V_iload_n (f _) dL_law_628 0 rfl ?_
  refine V_iconst (v := 2) (f _) dL_law_629 (by decide) ?_
  refine V_iadd (f _) dL_law_630 ?_
  refine V_sld (f _) hX hbl (i := i + 2) (hi 2 (by decide) (by decide)) dL_law_631 ?_
  refine V_cVi (As := [.int (xs (Int32.toNatClampNeg (i + 1))), .int (xs (Int32.toNatClampNeg (i + 2)))]) (rest := []) (f _) dL_law_632 lk_L_87 ml_L_87 ins_X9_stackOf sel_X9_stackOf zm_0 (by decide) rfl (c3_X9_stackOf _ _ _ _ aM MM (xs (Int32.toNatClampNeg (i + 1))) (xs (Int32.toNatClampNeg (i + 2))) hR.2.1.1) rfl (Nat.le_of_ble_eq_true rfl) rfl ⟨by decide, by decide⟩ ⟨h1, h2⟩ rfl rfl ?_
  refine V_pop (f _) dL_law_635 rfl ?_
  refine V_goto (tgt := 708) (f _) dL_law_636 (by decide) ?_
  exact fin _ _ (Rl_q hR (Kp_refl hR.1) (Km_up1 (Km_refl hR.2.1.1 hR.2.1.2)))
set_option maxHeartbeats 4000000 in
set_option maxRecDepth 100000 in
theorem lwc_17 {p : Program} {l : Launch} {e : Env} {s : State} {m : MethodId} {b : Nat} {below : List Frame} {meth : Method} {c : Code} {D : va_G} {cy : Nat → ClassId} (f : ∀ X, Fx (kM p l e s m b below meth c D cy X) cL_law RL 4 room_1) {L : Nat} {xs : Nat → Int32} (hX : va_X b L xs s s.heap) (hbl : b < s.heap.size) (aB aM : Nat → Nat) (MB MM : MT) {n1 n2 : Nat} (h1 : n1 ≤ 600000) (h2 : n2 ≤ 7302250) {cs cv : Nat → Nat} {z : Value} (hw : SW cs cv z (fun q : Nat => s.heap.size ≤ q) s) {i : Int32} {cn : Nat} (hi : ∀ j : Int32, 0 ≤ j.toInt → j.toInt ≤ 5 → vp_in (i + j) L) (hR : Rl cn MB MM) (hcn : cn ≤ 511) (fin : ∀ B1 M1 : MT, Rl (cn + 1) B1 M1 → V (kM p l e s m b below meth c D cy ([] ++ wl cy aB ZB B1)) aM n1 n2 ZM M1 708 [(3, .int i), (2, .ref (aM 0)), (1, .ref (aB 0)), (0, .ref b)] []) : V (kM p l e s m b below meth c D cy ([] ++ wl cy aB ZB MB)) aM n1 n2 ZM MM 639 [(3, .int i), (2, .ref (aM 0)), (1, .ref (aB 0)), (0, .ref b)] [] := by
  refine V.exch (X0 := []) (M2 := MM) zokB ?_
  refine V_aload_n (f _) dL_law_639 2 rfl ?_
  refine V_aload_n (f _) dL_law_640 3 rfl ?_
  refine V_iload_n (f _) dL_law_641 0 rfl ?_
  refine V_iconst (v := 1) (f _) dL_law_642 (by decide) ?_
  refine V_iadd (f _) dL_law_643 ?_
  refine V_sld (f _) hX hbl (i := i + 1) (hi 1 (by decide) (by decide)) dL_law_644 ?_
  refine V_aload_n (f _) dL_law_645 3 rfl ?_
  refine V_iload_n (f _) dL_law_646 0 rfl ?_
  refine V_iconst (v := 2) (f _) dL_law_647 (by decide) ?_
  refine V_iadd (f _) dL_law_648 ?_
  refine V_sld (f _) hX hbl (i := i + 2) (hi 2 (by decide) (by decide)) dL_law_649 ?_
  refine V_cVp (As := [.int (xs (Int32.toNatClampNeg (i + 1))), .int (xs (Int32.toNatClampNeg (i + 2)))]) (rest := []) (f _) dL_law_650 lk_L_88 ml_L_88 ins_X8_best sel_X8_best zb_0 (by decide) rfl (c3_X8_best _ _ _ _ aB MB (xs (Int32.toNatClampNeg (i + 1))) (xs (Int32.toNatClampNeg (i + 2))) hR.1) rfl (Nat.le_of_ble_eq_true rfl) rfl ⟨by decide, by decide⟩ ⟨h1, h2⟩ rfl rfl (fun v1 B1 hp1 => ?_)
  obtain ⟨⟨r1, rfl⟩, k1⟩ := hp1
  show V _ _ _ _ _ _ _ _ [.int r1]
  refine V_pop (f _) dL_law_653 rfl ?_
  refine V.exch (X0 := []) (M2 := B1) zokM ?_
  refine V_aload_n (f _) dL_law_654 1 rfl ?_
  refine V_aload_n (f _) dL_law_655 3 rfl ?_
  refine V_iload_n (f _) dL_law_656 0 rfl ?_
  refine V_iconst (v := 1) (f _) dL_law_657 (by decide) ?_
  refine V_iadd (f _) dL_law_658 ?_
  refine V_sld (f _) hX hbl (i := i + 1) (hi 1 (by decide) (by decide)) dL_law_659 ?_
  refine V_aload_n (f _) dL_law_660 3 rfl ?_
  refine V_iload_n (f _) dL_law_661 0 rfl ?_
  refine V_iconst (v := 2) (f _) dL_law_662 (by decide) ?_
  refine V_iadd (f _) dL_law_663 ?_
  refine V_sld (f _) hX hbl (i := i + 2) (hi 2 (by decide) (by decide)) dL_law_664 ?_
  refine V_cVp (As := [.int (xs (Int32.toNatClampNeg (i + 1))), .int (xs (Int32.toNatClampNeg (i + 2)))]) (rest := []) (f _) dL_law_665 lk_L_91 ml_L_91 ins_X9_best sel_X9_best zm_0 (by decide) rfl (c3_X9_best _ _ _ _ aM MM (xs (Int32.toNatClampNeg (i + 1))) (xs (Int32.toNatClampNeg (i + 2))) ) rfl (Nat.le_of_ble_eq_true rfl) rfl ⟨by decide, by decide⟩ ⟨h1, h2⟩ rfl rfl (fun v2 M1 hp2 => ?_)
  obtain ⟨⟨r2, rfl⟩, k2⟩ := hp2
  show V _ _ _ _ _ _ _ _ [.int r2]
  refine V_pop (f _) dL_law_668 rfl ?_
  refine V_goto (tgt := 708) (f _) dL_law_669 (by decide) ?_
  exact fin _ _ (Rl_q hR k1 (Km_up1 (Km_G3 hR.2.1.1 hR.2.1.2 k2)))
set_option maxHeartbeats 4000000 in
set_option maxRecDepth 100000 in
theorem lwc_18 {p : Program} {l : Launch} {e : Env} {s : State} {m : MethodId} {b : Nat} {below : List Frame} {meth : Method} {c : Code} {D : va_G} {cy : Nat → ClassId} (f : ∀ X, Fx (kM p l e s m b below meth c D cy X) cL_law RL 4 room_1) {L : Nat} {xs : Nat → Int32} (hX : va_X b L xs s s.heap) (hbl : b < s.heap.size) (aB aM : Nat → Nat) (MB MM : MT) {n1 n2 : Nat} (h1 : n1 ≤ 600000) (h2 : n2 ≤ 7302250) {cs cv : Nat → Nat} {z : Value} (hw : SW cs cv z (fun q : Nat => s.heap.size ≤ q) s) {i : Int32} {cn : Nat} (hi : ∀ j : Int32, 0 ≤ j.toInt → j.toInt ≤ 5 → vp_in (i + j) L) (hR : Rl cn MB MM) (hcn : cn ≤ 511) (fin : ∀ B1 M1 : MT, Rl (cn + 1) B1 M1 → V (kM p l e s m b below meth c D cy ([] ++ wl cy aB ZB B1)) aM n1 n2 ZM M1 708 [(3, .int i), (2, .ref (aM 0)), (1, .ref (aB 0)), (0, .ref b)] []) : V (kM p l e s m b below meth c D cy ([] ++ wl cy aB ZB MB)) aM n1 n2 ZM MM 672 [(3, .int i), (2, .ref (aM 0)), (1, .ref (aB 0)), (0, .ref b)] [] := by
  refine V.exch (X0 := []) (M2 := MM) zokB ?_
  refine V_aload_n (f _) dL_law_672 2 rfl ?_
  refine V_cVp (As := []) (rest := []) (f _) dL_law_673 lk_L_92 ml_L_92 ins_X8_lasts sel_X8_lasts zb_0 (by decide) rfl (c3_X8_lasts _ _ _ _ aB MB  hR.1) rfl (Nat.le_of_ble_eq_true rfl) rfl ⟨by decide, by decide⟩ ⟨h1, h2⟩ rfl rfl (fun v1 B1 hp1 => ?_)
  obtain ⟨⟨r1, rfl⟩, k1⟩ := hp1
  show V _ _ _ _ _ _ _ _ [.int r1]
  refine V_pop (f _) dL_law_676 rfl ?_
  refine V.exch (X0 := []) (M2 := B1) zokM ?_
  refine V_aload_n (f _) dL_law_677 1 rfl ?_
  refine V_cVp (As := []) (rest := []) (f _) dL_law_678 lk_L_95 ml_L_95 ins_X9_lasts sel_X9_lasts zm_0 (by decide) rfl (c3_X9_lasts _ _ _ _ aM MM  hR.2.1.1) rfl (Nat.le_of_ble_eq_true rfl) rfl ⟨by decide, by decide⟩ ⟨h1, h2⟩ rfl rfl (fun v2 M1 hp2 => ?_)
  obtain ⟨⟨r2, rfl⟩, k2⟩ := hp2
  show V _ _ _ _ _ _ _ _ [.int r2]
  refine V_pop (f _) dL_law_681 rfl ?_
  refine V_goto (tgt := 708) (f _) dL_law_682 (by decide) ?_
  exact fin _ _ (Rl_q hR (Kp_eq hR.1 k1) (Km_up1 (Km_eq hR.2.1.1 hR.2.1.2 k2)))
set_option maxHeartbeats 4000000 in
set_option maxRecDepth 100000 in
theorem lwc_19 {p : Program} {l : Launch} {e : Env} {s : State} {m : MethodId} {b : Nat} {below : List Frame} {meth : Method} {c : Code} {D : va_G} {cy : Nat → ClassId} (f : ∀ X, Fx (kM p l e s m b below meth c D cy X) cL_law RL 4 room_1) {L : Nat} {xs : Nat → Int32} (hX : va_X b L xs s s.heap) (hbl : b < s.heap.size) (aB aM : Nat → Nat) (MB MM : MT) {n1 n2 : Nat} (h1 : n1 ≤ 600000) (h2 : n2 ≤ 7302250) {cs cv : Nat → Nat} {z : Value} (hw : SW cs cv z (fun q : Nat => s.heap.size ≤ q) s) {i : Int32} {cn : Nat} (hi : ∀ j : Int32, 0 ≤ j.toInt → j.toInt ≤ 5 → vp_in (i + j) L) (hR : Rl cn MB MM) (hcn : cn ≤ 511) (fin : ∀ B1 M1 : MT, Rl (cn + 1) B1 M1 → V (kM p l e s m b below meth c D cy ([] ++ wl cy aB ZB B1)) aM n1 n2 ZM M1 708 [(3, .int i), (2, .ref (aM 0)), (1, .ref (aB 0)), (0, .ref b)] []) : V (kM p l e s m b below meth c D cy ([] ++ wl cy aB ZB MB)) aM n1 n2 ZM MM 685 [(3, .int i), (2, .ref (aM 0)), (1, .ref (aB 0)), (0, .ref b)] [] := by
  refine V.exch (X0 := []) (M2 := MM) zokB ?_
  refine V_aload_n (f _) dL_law_685 2 rfl ?_
  refine V_aload_n (f _) dL_law_686 3 rfl ?_
  refine V_iload_n (f _) dL_law_687 0 rfl ?_
  refine V_iconst (v := 1) (f _) dL_law_688 (by decide) ?_
  refine V_iadd (f _) dL_law_689 ?_
  refine V_sld (f _) hX hbl (i := i + 1) (hi 1 (by decide) (by decide)) dL_law_690 ?_
  refine V_cVp (As := [.int (xs (Int32.toNatClampNeg (i + 1)))]) (rest := []) (f _) dL_law_691 lk_L_96 ml_L_96 ins_X8_count sel_X8_count zb_0 (by decide) rfl (c3_X8_count _ _ _ _ aB MB (xs (Int32.toNatClampNeg (i + 1))) hR.1) rfl (Nat.le_of_ble_eq_true rfl) rfl ⟨by decide, by decide⟩ ⟨h1, h2⟩ rfl rfl (fun v1 B1 hp1 => ?_)
  obtain ⟨⟨r1, rfl⟩, k1⟩ := hp1
  show V _ _ _ _ _ _ _ _ [.int r1]
  refine V_pop (f _) dL_law_694 rfl ?_
  refine V.exch (X0 := []) (M2 := B1) zokM ?_
  refine V_aload_n (f _) dL_law_695 1 rfl ?_
  refine V_aload_n (f _) dL_law_696 3 rfl ?_
  refine V_iload_n (f _) dL_law_697 0 rfl ?_
  refine V_iconst (v := 1) (f _) dL_law_698 (by decide) ?_
  refine V_iadd (f _) dL_law_699 ?_
  refine V_sld (f _) hX hbl (i := i + 1) (hi 1 (by decide) (by decide)) dL_law_700 ?_
  refine V_cVp (As := [.int (xs (Int32.toNatClampNeg (i + 1)))]) (rest := []) (f _) dL_law_701 lk_L_99 ml_L_99 ins_X9_count sel_X9_count zm_0 (by decide) rfl (c3_X9_count _ _ _ _ aM MM (xs (Int32.toNatClampNeg (i + 1))) hR.2.1.1) rfl (Nat.le_of_ble_eq_true rfl) rfl ⟨by decide, by decide⟩ ⟨h1, h2⟩ rfl rfl (fun v2 M1 hp2 => ?_)
  obtain ⟨⟨r2, rfl⟩, k2⟩ := hp2
  show V _ _ _ _ _ _ _ _ [.int r2]
  refine V_pop (f _) dL_law_704 rfl ?_
  refine V_goto (tgt := 708) (f _) dL_law_705 (by decide) ?_
  exact fin _ _ (Rl_q hR (Kp_eq hR.1 k1) (Km_up1 (Km_eq hR.2.1.1 hR.2.1.2 k2)))

/-! the law, call by call -/
set_option maxHeartbeats 4000000 in
theorem lc_code {p : Program} {l : Launch} {e : Env} {s : State} {m : MethodId} {args : Array Value} {below : List Frame} {meth : Method} {c : Code} {H : Heap} {locs : List Loc} {cells slots : Nat} {Q : State → Prop} {ls : Array Slot} {G : GT} {sa b L k : Nat} {xs : Nat → Int32} {σ : Mem} {w : World} (hLA : LA p s m args c G sa b L xs) (hk : k + 4 ≤ L) (hcl : cells + 1 ≤ 600000) (hsl2 : slots + 1 ≤ 7302250) (hI : ICw σ w) (hJ : IRw σ w) (hM : St G (Fb b) b σ s H locs) (hl : lv_has ls 4 [(3, .int (nI k)), (2, .ref (b + 131)), (1, .ref (b + 0)), (0, .ref sa)])
    (kk : ∀ (σ' : Mem) (w' : World) (H1 : Heap) (locs1 : List Loc), ICw σ' w' → IRw σ' w' → St G (Fb b) b σ' s H1 locs1 → W p l e room_1 s m args below meth c H1 locs1 (cells + 1) (slots + 1) Q (F0 m 799 ls [])) : W p l e room_1 s m args below meth c H locs cells slots Q (F0 m 140 ls []) := by
  obtain ⟨hx, hb, hml, hown, hts, hK, hX, hsl, hbs, hL⟩ := hLA
  refine lv_aload_n hx hb dL_law_140 rfl (lv_at hl 2 rfl) ?_
  refine lv_aload_n hx hb dL_law_141 rfl (lv_at hl 3 rfl) ?_
  refine lv_iload_n hx hb dL_law_142 rfl (lv_at hl 0 rfl) ?_
  refine lv_iconst (v := nI 1) hx hb dL_law_143 (by decide) ?_
  refine sn_iadd hx hb dL_law_144 ?_
  refine lw_ld (k := k + 1) hx hb hX hsl hbs hM.2 (by omega) hL dL_law_145 ?_
  refine lv_aload_n hx hb dL_law_146 rfl (lv_at hl 3 rfl) ?_
  refine lv_iload_n hx hb dL_law_147 rfl (lv_at hl 0 rfl) ?_
  refine lv_iconst (v := nI 2) hx hb dL_law_148 (by decide) ?_
  refine sn_iadd hx hb dL_law_149 ?_
  refine lw_ld (k := k + 2) hx hb hX hsl hbs hM.2 (by omega) hL dL_law_150 ?_
  refine lv_aload_n hx hb dL_law_151 rfl (lv_at hl 3 rfl) ?_
  refine lv_iload_n hx hb dL_law_152 rfl (lv_at hl 0 rfl) ?_
  refine lv_iconst (v := nI 3) hx hb dL_law_153 (by decide) ?_
  refine sn_iadd hx hb dL_law_154 ?_
  refine lw_ld (k := k + 3) hx hb hX hsl hbs hM.2 (by omega) hL dL_law_155 ?_
  refine sg_ci (sg_runV (d := 4) (As := [.int (xs (k + 1)), .int (xs (k + 2)), .int (xs (k + 3))]) (rest := []) hx hb hml hts hown hK hM (x_code l G b σ w hI (xs (k + 1)) (xs (k + 2)) (xs (k + 3))) mi_X10_code wl_L_13 (sh0 kc_0) (kd_lt kc_0 (by decide)) rfl rfl rfl hl.1 rfl (Nat.le_of_ble_eq_true rfl) dL_law_156 ⟨by decide, by decide⟩ ⟨Nat.le_of_succ_le hcl, Nat.le_of_succ_le hsl2⟩) hM sgB (fun r1 σ1 H locs hp1 hM => ?_)
  obtain ⟨hr1, hI1, hf1⟩ := hp1
  have hJ1 := hJ.keepC hf1
  refine lv_aload_n hx hb dL_law_159 rfl (lv_at hl 1 rfl) ?_
  refine lv_aload_n hx hb dL_law_160 rfl (lv_at hl 3 rfl) ?_
  refine lv_iload_n hx hb dL_law_161 rfl (lv_at hl 0 rfl) ?_
  refine lv_iconst (v := nI 1) hx hb dL_law_162 (by decide) ?_
  refine sn_iadd hx hb dL_law_163 ?_
  refine lw_ld (k := k + 1) hx hb hX hsl hbs hM.2 (by omega) hL dL_law_164 ?_
  refine lv_aload_n hx hb dL_law_165 rfl (lv_at hl 3 rfl) ?_
  refine lv_iload_n hx hb dL_law_166 rfl (lv_at hl 0 rfl) ?_
  refine lv_iconst (v := nI 2) hx hb dL_law_167 (by decide) ?_
  refine sn_iadd hx hb dL_law_168 ?_
  refine lw_ld (k := k + 2) hx hb hX hsl hbs hM.2 (by omega) hL dL_law_169 ?_
  refine lv_aload_n hx hb dL_law_170 rfl (lv_at hl 3 rfl) ?_
  refine lv_iload_n hx hb dL_law_171 rfl (lv_at hl 0 rfl) ?_
  refine lv_iconst (v := nI 3) hx hb dL_law_172 (by decide) ?_
  refine sn_iadd hx hb dL_law_173 ?_
  refine lw_ld (k := k + 3) hx hb hX hsl hbs hM.2 (by omega) hL dL_law_174 ?_
  refine sg_ci (sg_runV (d := 1) (As := [.int (xs (k + 1)), .int (xs (k + 2)), .int (xs (k + 3))]) (rest := [.int r1]) hx hb hml hts hown hK hM (y_code l G b σ1 w hJ1 (xs (k + 1)) (xs (k + 2)) (xs (k + 3))) mi_X11_code wl_L_17 (sh18 kc_131) (kd_lt kc_131 (by decide)) rfl rfl rfl hl.1 rfl (Nat.le_of_ble_eq_true rfl) dL_law_175 ⟨by decide, by decide⟩ ⟨Nat.le_of_succ_le hcl, Nat.le_of_succ_le hsl2⟩) hM sgB (fun r2 σ2 H locs hp2 hM => ?_)
  obtain ⟨hr2, hJ2, hf2⟩ := hp2
  have hI2 := ICw.keepR hI1 hf2
  refine lv_icmp_eq (tgt := 799) hx hb dL_law_178 (by decide) (fun _ => ?_) (fun cq => absurd (hr1.trans hr2.symm) cq)
  refine W.widen (k := cells + 1) (n := slots + 1) (Nat.le_succ _) (Nat.le_succ _) ?_
  exact kk σ2 _ _ _ hI2 hJ2 hM
set_option maxHeartbeats 4000000 in
theorem lc_send {p : Program} {l : Launch} {e : Env} {s : State} {m : MethodId} {args : Array Value} {below : List Frame} {meth : Method} {c : Code} {H : Heap} {locs : List Loc} {cells slots : Nat} {Q : State → Prop} {ls : Array Slot} {G : GT} {sa b L k : Nat} {xs : Nat → Int32} {σ : Mem} {w : World} (hLA : LA p s m args c G sa b L xs) (hk : k + 4 ≤ L) (hcl : cells + 1 ≤ 600000) (hsl2 : slots + 1 ≤ 7302250) (hI : ICw σ w) (hJ : IRw σ w) (hM : St G (Fb b) b σ s H locs) (hl : lv_has ls 4 [(3, .int (nI k)), (2, .ref (b + 131)), (1, .ref (b + 0)), (0, .ref sa)])
    (kk : ∀ (σ' : Mem) (w' : World) (H1 : Heap) (locs1 : List Loc), ICw σ' w' → IRw σ' w' → St G (Fb b) b σ' s H1 locs1 → W p l e room_1 s m args below meth c H1 locs1 (cells + 1) (slots + 1) Q (F0 m 799 ls [])) : W p l e room_1 s m args below meth c H locs cells slots Q (F0 m 183 ls []) := by
  obtain ⟨hx, hb, hml, hown, hts, hK, hX, hsl, hbs, hL⟩ := hLA
  refine lv_aload_n hx hb dL_law_183 rfl (lv_at hl 2 rfl) ?_
  refine lv_aload_n hx hb dL_law_184 rfl (lv_at hl 3 rfl) ?_
  refine lv_iload_n hx hb dL_law_185 rfl (lv_at hl 0 rfl) ?_
  refine lv_iconst (v := nI 1) hx hb dL_law_186 (by decide) ?_
  refine sn_iadd hx hb dL_law_187 ?_
  refine lw_ld (k := k + 1) hx hb hX hsl hbs hM.2 (by omega) hL dL_law_188 ?_
  refine lv_aload_n hx hb dL_law_189 rfl (lv_at hl 3 rfl) ?_
  refine lv_iload_n hx hb dL_law_190 rfl (lv_at hl 0 rfl) ?_
  refine lv_iconst (v := nI 2) hx hb dL_law_191 (by decide) ?_
  refine sn_iadd hx hb dL_law_192 ?_
  refine lw_ld (k := k + 2) hx hb hX hsl hbs hM.2 (by omega) hL dL_law_193 ?_
  refine sg_ci (sg_runV (d := 4) (As := [.int (xs (k + 1)), .int (xs (k + 2))]) (rest := []) hx hb hml hts hown hK hM (x_send l G b σ w hI (xs (k + 1)) (xs (k + 2))) mi_X10_send wl_L_18 (sh0 kc_0) (kd_lt kc_0 (by decide)) rfl rfl rfl hl.1 rfl (Nat.le_of_ble_eq_true rfl) dL_law_194 ⟨by decide, by decide⟩ ⟨Nat.le_of_succ_le hcl, Nat.le_of_succ_le hsl2⟩) hM sgB (fun r1 σ1 H locs hp1 hM => ?_)
  obtain ⟨hr1, hI1, hf1⟩ := hp1
  have hJ1 := hJ.keepC hf1
  refine lv_aload_n hx hb dL_law_197 rfl (lv_at hl 1 rfl) ?_
  refine lv_aload_n hx hb dL_law_198 rfl (lv_at hl 3 rfl) ?_
  refine lv_iload_n hx hb dL_law_199 rfl (lv_at hl 0 rfl) ?_
  refine lv_iconst (v := nI 1) hx hb dL_law_200 (by decide) ?_
  refine sn_iadd hx hb dL_law_201 ?_
  refine lw_ld (k := k + 1) hx hb hX hsl hbs hM.2 (by omega) hL dL_law_202 ?_
  refine lv_aload_n hx hb dL_law_203 rfl (lv_at hl 3 rfl) ?_
  refine lv_iload_n hx hb dL_law_204 rfl (lv_at hl 0 rfl) ?_
  refine lv_iconst (v := nI 2) hx hb dL_law_205 (by decide) ?_
  refine sn_iadd hx hb dL_law_206 ?_
  refine lw_ld (k := k + 2) hx hb hX hsl hbs hM.2 (by omega) hL dL_law_207 ?_
  refine sg_ci (sg_runV (d := 3) (As := [.int (xs (k + 1)), .int (xs (k + 2))]) (rest := [.int r1]) hx hb hml hts hown hK hM (y_send l G b σ1 w hJ1 (xs (k + 1)) (xs (k + 2))) mi_X11_send wl_L_22 (sh18 kc_131) (kd_lt kc_131 (by decide)) rfl rfl rfl hl.1 rfl (Nat.le_of_ble_eq_true rfl) dL_law_208 ⟨by decide, by decide⟩ ⟨Nat.le_of_succ_le hcl, Nat.le_of_succ_le hsl2⟩) hM sgB (fun r2 σ2 H locs hp2 hM => ?_)
  obtain ⟨hr2, hJ2, hf2⟩ := hp2
  have hI2 := ICw.keepR hI1 hf2
  refine lv_icmp_eq (tgt := 799) hx hb dL_law_211 (by decide) (fun _ => ?_) (fun cq => absurd (hr1.trans hr2.symm) cq)
  refine W.widen (k := cells + 1) (n := slots + 1) (Nat.le_succ _) (Nat.le_succ _) ?_
  exact kk σ2 _ _ _ hI2 hJ2 hM
set_option maxHeartbeats 4000000 in
theorem lc_hear {p : Program} {l : Launch} {e : Env} {s : State} {m : MethodId} {args : Array Value} {below : List Frame} {meth : Method} {c : Code} {H : Heap} {locs : List Loc} {cells slots : Nat} {Q : State → Prop} {ls : Array Slot} {G : GT} {sa b L k : Nat} {xs : Nat → Int32} {σ : Mem} {w : World} (hLA : LA p s m args c G sa b L xs) (hk : k + 4 ≤ L) (hcl : cells + 1 ≤ 600000) (hsl2 : slots + 1 ≤ 7302250) (hI : ICw σ w) (hJ : IRw σ w) (hM : St G (Fb b) b σ s H locs) (hl : lv_has ls 4 [(3, .int (nI k)), (2, .ref (b + 131)), (1, .ref (b + 0)), (0, .ref sa)])
    (kk : ∀ (σ' : Mem) (w' : World) (H1 : Heap) (locs1 : List Loc), ICw σ' w' → IRw σ' w' → St G (Fb b) b σ' s H1 locs1 → W p l e room_1 s m args below meth c H1 locs1 (cells + 1) (slots + 1) Q (F0 m 799 ls [])) : W p l e room_1 s m args below meth c H locs cells slots Q (F0 m 216 ls []) := by
  obtain ⟨hx, hb, hml, hown, hts, hK, hX, hsl, hbs, hL⟩ := hLA
  refine lv_aload_n hx hb dL_law_216 rfl (lv_at hl 2 rfl) ?_
  refine lv_aload_n hx hb dL_law_217 rfl (lv_at hl 3 rfl) ?_
  refine lv_iload_n hx hb dL_law_218 rfl (lv_at hl 0 rfl) ?_
  refine lv_iconst (v := nI 1) hx hb dL_law_219 (by decide) ?_
  refine sn_iadd hx hb dL_law_220 ?_
  refine lw_ld (k := k + 1) hx hb hX hsl hbs hM.2 (by omega) hL dL_law_221 ?_
  refine lv_aload_n hx hb dL_law_222 rfl (lv_at hl 3 rfl) ?_
  refine lv_iload_n hx hb dL_law_223 rfl (lv_at hl 0 rfl) ?_
  refine lv_iconst (v := nI 2) hx hb dL_law_224 (by decide) ?_
  refine sn_iadd hx hb dL_law_225 ?_
  refine lw_ld (k := k + 2) hx hb hX hsl hbs hM.2 (by omega) hL dL_law_226 ?_
  refine sg_ci (sg_runV (d := 4) (As := [.int (xs (k + 1)), .int (xs (k + 2))]) (rest := []) hx hb hml hts hown hK hM (x_hear l G b σ w hI (xs (k + 1)) (xs (k + 2))) mi_X10_hear wl_L_23 (sh0 kc_0) (kd_lt kc_0 (by decide)) rfl rfl rfl hl.1 rfl (Nat.le_of_ble_eq_true rfl) dL_law_227 ⟨by decide, by decide⟩ ⟨Nat.le_of_succ_le hcl, Nat.le_of_succ_le hsl2⟩) hM sgB (fun r1 σ1 H locs hp1 hM => ?_)
  obtain ⟨hr1, hI1, hf1⟩ := hp1
  have hJ1 := hJ.keepC hf1
  refine lv_aload_n hx hb dL_law_230 rfl (lv_at hl 1 rfl) ?_
  refine lv_aload_n hx hb dL_law_231 rfl (lv_at hl 3 rfl) ?_
  refine lv_iload_n hx hb dL_law_232 rfl (lv_at hl 0 rfl) ?_
  refine lv_iconst (v := nI 1) hx hb dL_law_233 (by decide) ?_
  refine sn_iadd hx hb dL_law_234 ?_
  refine lw_ld (k := k + 1) hx hb hX hsl hbs hM.2 (by omega) hL dL_law_235 ?_
  refine lv_aload_n hx hb dL_law_236 rfl (lv_at hl 3 rfl) ?_
  refine lv_iload_n hx hb dL_law_237 rfl (lv_at hl 0 rfl) ?_
  refine lv_iconst (v := nI 2) hx hb dL_law_238 (by decide) ?_
  refine sn_iadd hx hb dL_law_239 ?_
  refine lw_ld (k := k + 2) hx hb hX hsl hbs hM.2 (by omega) hL dL_law_240 ?_
  refine sg_ci (sg_runV (d := 1) (As := [.int (xs (k + 1)), .int (xs (k + 2))]) (rest := [.int r1]) hx hb hml hts hown hK hM (y_hear l G b σ1 w hJ1 (xs (k + 1)) (xs (k + 2))) mi_X11_hear wl_L_26 (sh18 kc_131) (kd_lt kc_131 (by decide)) rfl rfl rfl hl.1 rfl (Nat.le_of_ble_eq_true rfl) dL_law_241 ⟨by decide, by decide⟩ ⟨Nat.le_of_succ_le hcl, Nat.le_of_succ_le hsl2⟩) hM sgB (fun r2 σ2 H locs hp2 hM => ?_)
  obtain ⟨hr2, hJ2, hf2⟩ := hp2
  have hI2 := ICw.keepR hI1 hf2
  refine lv_icmp_eq (tgt := 799) hx hb dL_law_244 (by decide) (fun _ => ?_) (fun cq => absurd (hr1.trans hr2.symm) cq)
  refine W.widen (k := cells + 1) (n := slots + 1) (Nat.le_succ _) (Nat.le_succ _) ?_
  exact kk σ2 _ _ _ hI2 hJ2 hM
set_option maxHeartbeats 4000000 in
theorem lc_drift {p : Program} {l : Launch} {e : Env} {s : State} {m : MethodId} {args : Array Value} {below : List Frame} {meth : Method} {c : Code} {H : Heap} {locs : List Loc} {cells slots : Nat} {Q : State → Prop} {ls : Array Slot} {G : GT} {sa b L k : Nat} {xs : Nat → Int32} {σ : Mem} {w : World} (hLA : LA p s m args c G sa b L xs) (hk : k + 4 ≤ L) (hcl : cells + 1 ≤ 600000) (hsl2 : slots + 1 ≤ 7302250) (hI : ICw σ w) (hJ : IRw σ w) (hM : St G (Fb b) b σ s H locs) (hl : lv_has ls 4 [(3, .int (nI k)), (2, .ref (b + 131)), (1, .ref (b + 0)), (0, .ref sa)])
    (kk : ∀ (σ' : Mem) (w' : World) (H1 : Heap) (locs1 : List Loc), ICw σ' w' → IRw σ' w' → St G (Fb b) b σ' s H1 locs1 → W p l e room_1 s m args below meth c H1 locs1 (cells + 1) (slots + 1) Q (F0 m 799 ls [])) : W p l e room_1 s m args below meth c H locs cells slots Q (F0 m 249 ls []) := by
  obtain ⟨hx, hb, hml, hown, hts, hK, hX, hsl, hbs, hL⟩ := hLA
  refine lv_aload_n hx hb dL_law_249 rfl (lv_at hl 2 rfl) ?_
  refine lv_aload_n hx hb dL_law_250 rfl (lv_at hl 3 rfl) ?_
  refine lv_iload_n hx hb dL_law_251 rfl (lv_at hl 0 rfl) ?_
  refine lv_iconst (v := nI 1) hx hb dL_law_252 (by decide) ?_
  refine sn_iadd hx hb dL_law_253 ?_
  refine lw_ld (k := k + 1) hx hb hX hsl hbs hM.2 (by omega) hL dL_law_254 ?_
  refine lv_aload_n hx hb dL_law_255 rfl (lv_at hl 3 rfl) ?_
  refine lv_iload_n hx hb dL_law_256 rfl (lv_at hl 0 rfl) ?_
  refine lv_iconst (v := nI 2) hx hb dL_law_257 (by decide) ?_
  refine sn_iadd hx hb dL_law_258 ?_
  refine lw_ld (k := k + 2) hx hb hX hsl hbs hM.2 (by omega) hL dL_law_259 ?_
  refine sg_ci (sg_runV (d := 4) (As := [.int (xs (k + 1)), .int (xs (k + 2))]) (rest := []) hx hb hml hts hown hK hM (x_drift l G b σ w hI (xs (k + 1)) (xs (k + 2))) mi_X10_drift wl_L_27 (sh0 kc_0) (kd_lt kc_0 (by decide)) rfl rfl rfl hl.1 rfl (Nat.le_of_ble_eq_true rfl) dL_law_260 ⟨by decide, by decide⟩ ⟨Nat.le_of_succ_le hcl, Nat.le_of_succ_le hsl2⟩) hM sgB (fun r1 σ1 H locs hp1 hM => ?_)
  obtain ⟨hr1, hI1, hf1⟩ := hp1
  have hJ1 := hJ.keepC hf1
  refine lv_aload_n hx hb dL_law_263 rfl (lv_at hl 1 rfl) ?_
  refine lv_aload_n hx hb dL_law_264 rfl (lv_at hl 3 rfl) ?_
  refine lv_iload_n hx hb dL_law_265 rfl (lv_at hl 0 rfl) ?_
  refine lv_iconst (v := nI 1) hx hb dL_law_266 (by decide) ?_
  refine sn_iadd hx hb dL_law_267 ?_
  refine lw_ld (k := k + 1) hx hb hX hsl hbs hM.2 (by omega) hL dL_law_268 ?_
  refine lv_aload_n hx hb dL_law_269 rfl (lv_at hl 3 rfl) ?_
  refine lv_iload_n hx hb dL_law_270 rfl (lv_at hl 0 rfl) ?_
  refine lv_iconst (v := nI 2) hx hb dL_law_271 (by decide) ?_
  refine sn_iadd hx hb dL_law_272 ?_
  refine lw_ld (k := k + 2) hx hb hX hsl hbs hM.2 (by omega) hL dL_law_273 ?_
  refine sg_ci (sg_runV (d := 3) (As := [.int (xs (k + 1)), .int (xs (k + 2))]) (rest := [.int r1]) hx hb hml hts hown hK hM (y_drift l G b σ1 w hJ1 (xs (k + 1)) (xs (k + 2))) mi_X11_drift wl_L_30 (sh18 kc_131) (kd_lt kc_131 (by decide)) rfl rfl rfl hl.1 rfl (Nat.le_of_ble_eq_true rfl) dL_law_274 ⟨by decide, by decide⟩ ⟨Nat.le_of_succ_le hcl, Nat.le_of_succ_le hsl2⟩) hM sgB (fun r2 σ2 H locs hp2 hM => ?_)
  obtain ⟨hr2, hJ2, hf2⟩ := hp2
  have hI2 := ICw.keepR hI1 hf2
  refine lv_icmp_eq (tgt := 799) hx hb dL_law_277 (by decide) (fun _ => ?_) (fun cq => absurd (hr1.trans hr2.symm) cq)
  refine W.widen (k := cells + 1) (n := slots + 1) (Nat.le_succ _) (Nat.le_succ _) ?_
  exact kk σ2 _ _ _ hI2 hJ2 hM
set_option maxHeartbeats 4000000 in
theorem lc_wipe {p : Program} {l : Launch} {e : Env} {s : State} {m : MethodId} {args : Array Value} {below : List Frame} {meth : Method} {c : Code} {H : Heap} {locs : List Loc} {cells slots : Nat} {Q : State → Prop} {ls : Array Slot} {G : GT} {sa b L k : Nat} {xs : Nat → Int32} {σ : Mem} {w : World} (hLA : LA p s m args c G sa b L xs) (hk : k + 4 ≤ L) (hcl : cells + 1 ≤ 600000) (hsl2 : slots + 1 ≤ 7302250) (hI : ICw σ w) (hJ : IRw σ w) (hM : St G (Fb b) b σ s H locs) (hl : lv_has ls 4 [(3, .int (nI k)), (2, .ref (b + 131)), (1, .ref (b + 0)), (0, .ref sa)])
    (kk : ∀ (σ' : Mem) (w' : World) (H1 : Heap) (locs1 : List Loc), ICw σ' w' → IRw σ' w' → St G (Fb b) b σ' s H1 locs1 → W p l e room_1 s m args below meth c H1 locs1 (cells + 1) (slots + 1) Q (F0 m 799 ls [])) : W p l e room_1 s m args below meth c H locs cells slots Q (F0 m 282 ls []) := by
  obtain ⟨hx, hb, hml, hown, hts, hK, hX, hsl, hbs, hL⟩ := hLA
  refine lv_aload_n hx hb dL_law_282 rfl (lv_at hl 2 rfl) ?_
  refine sg_ci (sg_runV (d := 4) (As := []) (rest := []) hx hb hml hts hown hK hM (x_wipe l G b σ w hI ) mi_X10_wipe wl_L_31 (sh0 kc_0) (kd_lt kc_0 (by decide)) rfl rfl rfl hl.1 rfl (Nat.le_of_ble_eq_true rfl) dL_law_283 ⟨by decide, by decide⟩ ⟨Nat.le_of_succ_le hcl, Nat.le_of_succ_le hsl2⟩) hM sgB (fun r1 σ1 H locs hp1 hM => ?_)
  obtain ⟨hr1, hI1, hf1⟩ := hp1
  have hJ1 := hJ.keepC hf1
  refine lv_aload_n hx hb dL_law_286 rfl (lv_at hl 1 rfl) ?_
  refine sg_ci (sg_runV (d := 1) (As := []) (rest := [.int r1]) hx hb hml hts hown hK hM (y_wipe l G b σ1 w hJ1 ) mi_X11_wipe wl_L_35 (sh18 kc_131) (kd_lt kc_131 (by decide)) rfl rfl rfl hl.1 rfl (Nat.le_of_ble_eq_true rfl) dL_law_287 ⟨by decide, by decide⟩ ⟨Nat.le_of_succ_le hcl, Nat.le_of_succ_le hsl2⟩) hM sgB (fun r2 σ2 H locs hp2 hM => ?_)
  obtain ⟨hr2, hJ2, hf2⟩ := hp2
  have hI2 := ICw.keepR hI1 hf2
  refine lv_icmp_eq (tgt := 799) hx hb dL_law_290 (by decide) (fun _ => ?_) (fun cq => absurd (hr1.trans hr2.symm) cq)
  refine W.widen (k := cells + 1) (n := slots + 1) (Nat.le_succ _) (Nat.le_succ _) ?_
  exact kk σ2 _ _ _ hI2 hJ2 hM
set_option maxHeartbeats 4000000 in
theorem lc_end {p : Program} {l : Launch} {e : Env} {s : State} {m : MethodId} {args : Array Value} {below : List Frame} {meth : Method} {c : Code} {H : Heap} {locs : List Loc} {cells slots : Nat} {Q : State → Prop} {ls : Array Slot} {G : GT} {sa b L k : Nat} {xs : Nat → Int32} {σ : Mem} {w : World} (hLA : LA p s m args c G sa b L xs) (hk : k + 4 ≤ L) (hcl : cells + 1 ≤ 600000) (hsl2 : slots + 1 ≤ 7302250) (hI : ICw σ w) (hJ : IRw σ w) (hM : St G (Fb b) b σ s H locs) (hl : lv_has ls 4 [(3, .int (nI k)), (2, .ref (b + 131)), (1, .ref (b + 0)), (0, .ref sa)])
    (kk : ∀ (σ' : Mem) (w' : World) (H1 : Heap) (locs1 : List Loc), ICw σ' w' → IRw σ' w' → St G (Fb b) b σ' s H1 locs1 → W p l e room_1 s m args below meth c H1 locs1 (cells + 1) (slots + 1) Q (F0 m 799 ls [])) : W p l e room_1 s m args below meth c H locs cells slots Q (F0 m 295 ls []) := by
  obtain ⟨hx, hb, hml, hown, hts, hK, hX, hsl, hbs, hL⟩ := hLA
  refine lv_aload_n hx hb dL_law_295 rfl (lv_at hl 2 rfl) ?_
  refine lv_aload_n hx hb dL_law_296 rfl (lv_at hl 3 rfl) ?_
  refine lv_iload_n hx hb dL_law_297 rfl (lv_at hl 0 rfl) ?_
  refine lv_iconst (v := nI 1) hx hb dL_law_298 (by decide) ?_
  refine sn_iadd hx hb dL_law_299 ?_
  refine lw_ld (k := k + 1) hx hb hX hsl hbs hM.2 (by omega) hL dL_law_300 ?_
  refine sg_ci (sg_runV (d := 4) (As := [.int (xs (k + 1))]) (rest := []) hx hb hml hts hown hK hM (x_end l G b σ w hI (xs (k + 1))) mi_X10_end wl_L_36 (sh0 kc_0) (kd_lt kc_0 (by decide)) rfl rfl rfl hl.1 rfl (Nat.le_of_ble_eq_true rfl) dL_law_301 ⟨by decide, by decide⟩ ⟨Nat.le_of_succ_le hcl, Nat.le_of_succ_le hsl2⟩) hM sgB (fun r1 σ1 H locs hp1 hM => ?_)
  obtain ⟨hr1, hI1, hf1⟩ := hp1
  have hJ1 := hJ.keepC hf1
  refine lv_aload_n hx hb dL_law_304 rfl (lv_at hl 1 rfl) ?_
  refine lv_aload_n hx hb dL_law_305 rfl (lv_at hl 3 rfl) ?_
  refine lv_iload_n hx hb dL_law_306 rfl (lv_at hl 0 rfl) ?_
  refine lv_iconst (v := nI 1) hx hb dL_law_307 (by decide) ?_
  refine sn_iadd hx hb dL_law_308 ?_
  refine lw_ld (k := k + 1) hx hb hX hsl hbs hM.2 (by omega) hL dL_law_309 ?_
  refine sg_ci (sg_runV (d := 2) (As := [.int (xs (k + 1))]) (rest := [.int r1]) hx hb hml hts hown hK hM (y_end l G b σ1 w hJ1 (xs (k + 1))) mi_X11_end wl_L_40 (sh18 kc_131) (kd_lt kc_131 (by decide)) rfl rfl rfl hl.1 rfl (Nat.le_of_ble_eq_true rfl) dL_law_310 ⟨by decide, by decide⟩ ⟨Nat.le_of_succ_le hcl, Nat.le_of_succ_le hsl2⟩) hM sgB (fun r2 σ2 H locs hp2 hM => ?_)
  obtain ⟨hr2, hJ2, hf2⟩ := hp2
  have hI2 := ICw.keepR hI1 hf2
  refine lv_icmp_eq (tgt := 799) hx hb dL_law_313 (by decide) (fun _ => ?_) (fun cq => absurd (hr1.trans hr2.symm) cq)
  refine W.widen (k := cells + 1) (n := slots + 1) (Nat.le_succ _) (Nat.le_succ _) ?_
  exact kk σ2 _ _ _ hI2 hJ2 hM
set_option maxHeartbeats 4000000 in
theorem lc_undo {p : Program} {l : Launch} {e : Env} {s : State} {m : MethodId} {args : Array Value} {below : List Frame} {meth : Method} {c : Code} {H : Heap} {locs : List Loc} {cells slots : Nat} {Q : State → Prop} {ls : Array Slot} {G : GT} {sa b L k : Nat} {xs : Nat → Int32} {σ : Mem} {w : World} (hLA : LA p s m args c G sa b L xs) (hk : k + 4 ≤ L) (hcl : cells + 1 ≤ 600000) (hsl2 : slots + 1 ≤ 7302250) (hI : ICw σ w) (hJ : IRw σ w) (hM : St G (Fb b) b σ s H locs) (hl : lv_has ls 4 [(3, .int (nI k)), (2, .ref (b + 131)), (1, .ref (b + 0)), (0, .ref sa)])
    (kk : ∀ (σ' : Mem) (w' : World) (H1 : Heap) (locs1 : List Loc), ICw σ' w' → IRw σ' w' → St G (Fb b) b σ' s H1 locs1 → W p l e room_1 s m args below meth c H1 locs1 (cells + 1) (slots + 1) Q (F0 m 799 ls [])) : W p l e room_1 s m args below meth c H locs cells slots Q (F0 m 318 ls []) := by
  obtain ⟨hx, hb, hml, hown, hts, hK, hX, hsl, hbs, hL⟩ := hLA
  refine lv_aload_n hx hb dL_law_318 rfl (lv_at hl 2 rfl) ?_
  refine sg_ci (sg_runV (d := 4) (As := []) (rest := []) hx hb hml hts hown hK hM (x_undo l G b σ w hI ) mi_X10_undo wl_L_41 (sh0 kc_0) (kd_lt kc_0 (by decide)) rfl rfl rfl hl.1 rfl (Nat.le_of_ble_eq_true rfl) dL_law_319 ⟨by decide, by decide⟩ ⟨Nat.le_of_succ_le hcl, Nat.le_of_succ_le hsl2⟩) hM sgB (fun r1 σ1 H locs hp1 hM => ?_)
  obtain ⟨hr1, hI1, hf1⟩ := hp1
  have hJ1 := hJ.keepC hf1
  refine lv_aload_n hx hb dL_law_322 rfl (lv_at hl 1 rfl) ?_
  refine sg_ci (sg_runV (d := 1) (As := []) (rest := [.int r1]) hx hb hml hts hown hK hM (y_undo l G b σ1 w hJ1 ) mi_X11_undo wl_L_44 (sh18 kc_131) (kd_lt kc_131 (by decide)) rfl rfl rfl hl.1 rfl (Nat.le_of_ble_eq_true rfl) dL_law_323 ⟨by decide, by decide⟩ ⟨Nat.le_of_succ_le hcl, Nat.le_of_succ_le hsl2⟩) hM sgB (fun r2 σ2 H locs hp2 hM => ?_)
  obtain ⟨hr2, hJ2, hf2⟩ := hp2
  have hI2 := ICw.keepR hI1 hf2
  refine lv_icmp_eq (tgt := 799) hx hb dL_law_326 (by decide) (fun _ => ?_) (fun cq => absurd (hr1.trans hr2.symm) cq)
  refine W.widen (k := cells + 1) (n := slots + 1) (Nat.le_succ _) (Nat.le_succ _) ?_
  exact kk σ2 _ _ _ hI2 hJ2 hM
set_option maxHeartbeats 4000000 in
theorem lc_told {p : Program} {l : Launch} {e : Env} {s : State} {m : MethodId} {args : Array Value} {below : List Frame} {meth : Method} {c : Code} {H : Heap} {locs : List Loc} {cells slots : Nat} {Q : State → Prop} {ls : Array Slot} {G : GT} {sa b L k : Nat} {xs : Nat → Int32} {σ : Mem} {w : World} (hLA : LA p s m args c G sa b L xs) (hk : k + 4 ≤ L) (hcl : cells + 1 ≤ 600000) (hsl2 : slots + 1 ≤ 7302250) (hI : ICw σ w) (hJ : IRw σ w) (hM : St G (Fb b) b σ s H locs) (hl : lv_has ls 4 [(3, .int (nI k)), (2, .ref (b + 131)), (1, .ref (b + 0)), (0, .ref sa)])
    (kk : ∀ (σ' : Mem) (w' : World) (H1 : Heap) (locs1 : List Loc), ICw σ' w' → IRw σ' w' → St G (Fb b) b σ' s H1 locs1 → W p l e room_1 s m args below meth c H1 locs1 (cells + 1) (slots + 1) Q (F0 m 799 ls [])) : W p l e room_1 s m args below meth c H locs cells slots Q (F0 m 331 ls []) := by
  obtain ⟨hx, hb, hml, hown, hts, hK, hX, hsl, hbs, hL⟩ := hLA
  refine lv_aload_n hx hb dL_law_331 rfl (lv_at hl 2 rfl) ?_
  refine lv_aload_n hx hb dL_law_332 rfl (lv_at hl 3 rfl) ?_
  refine lv_iload_n hx hb dL_law_333 rfl (lv_at hl 0 rfl) ?_
  refine lv_iconst (v := nI 1) hx hb dL_law_334 (by decide) ?_
  refine sn_iadd hx hb dL_law_335 ?_
  refine lw_ld (k := k + 1) hx hb hX hsl hbs hM.2 (by omega) hL dL_law_336 ?_
  refine sg_ci (sg_runV (d := 6) (As := [.int (xs (k + 1))]) (rest := []) hx hb hml hts hown hK hM (x_told l G b σ w hI (xs (k + 1))) mi_X10_told wl_L_45 (sh0 kc_0) (kd_lt kc_0 (by decide)) rfl rfl rfl hl.1 rfl (Nat.le_of_ble_eq_true rfl) dL_law_337 ⟨by decide, by decide⟩ ⟨Nat.le_of_succ_le hcl, Nat.le_of_succ_le hsl2⟩) hM sgB (fun r1 σ1 H locs hp1 hM => ?_)
  obtain ⟨hr1, hI1, hf1⟩ := hp1
  have hJ1 := hJ.keepC hf1
  refine lv_aload_n hx hb dL_law_340 rfl (lv_at hl 1 rfl) ?_
  refine lv_aload_n hx hb dL_law_341 rfl (lv_at hl 3 rfl) ?_
  refine lv_iload_n hx hb dL_law_342 rfl (lv_at hl 0 rfl) ?_
  refine lv_iconst (v := nI 1) hx hb dL_law_343 (by decide) ?_
  refine sn_iadd hx hb dL_law_344 ?_
  refine lw_ld (k := k + 1) hx hb hX hsl hbs hM.2 (by omega) hL dL_law_345 ?_
  refine sg_ci (sg_runV (d := 6) (As := [.int (xs (k + 1))]) (rest := [.int r1]) hx hb hml hts hown hK hM (y_told l G b σ1 w hJ1 (xs (k + 1))) mi_X11_told wl_L_48 (sh18 kc_131) (kd_lt kc_131 (by decide)) rfl rfl rfl hl.1 rfl (Nat.le_of_ble_eq_true rfl) dL_law_346 ⟨by decide, by decide⟩ ⟨Nat.le_of_succ_le hcl, Nat.le_of_succ_le hsl2⟩) hM sgB (fun r2 σ2 H locs hp2 hM => ?_)
  obtain ⟨hr2, hJ2, hf2⟩ := hp2
  have hI2 := ICw.keepR hI1 hf2
  refine lv_icmp_eq (tgt := 799) hx hb dL_law_349 (by decide) (fun _ => ?_) (fun cq => absurd (hr1.trans hr2.symm) cq)
  refine W.widen (k := cells + 1) (n := slots + 1) (Nat.le_succ _) (Nat.le_succ _) ?_
  exact kk σ2 _ _ _ hI2 hJ2 hM
set_option maxHeartbeats 4000000 in
theorem lc_point {p : Program} {l : Launch} {e : Env} {s : State} {m : MethodId} {args : Array Value} {below : List Frame} {meth : Method} {c : Code} {H : Heap} {locs : List Loc} {cells slots : Nat} {Q : State → Prop} {ls : Array Slot} {G : GT} {sa b L k : Nat} {xs : Nat → Int32} {σ : Mem} {w : World} (hLA : LA p s m args c G sa b L xs) (hk : k + 4 ≤ L) (hcl : cells + 1 ≤ 600000) (hsl2 : slots + 1 ≤ 7302250) (hI : ICw σ w) (hJ : IRw σ w) (hM : St G (Fb b) b σ s H locs) (hl : lv_has ls 4 [(3, .int (nI k)), (2, .ref (b + 131)), (1, .ref (b + 0)), (0, .ref sa)])
    (kk : ∀ (σ' : Mem) (w' : World) (H1 : Heap) (locs1 : List Loc), ICw σ' w' → IRw σ' w' → St G (Fb b) b σ' s H1 locs1 → W p l e room_1 s m args below meth c H1 locs1 (cells + 1) (slots + 1) Q (F0 m 799 ls [])) : W p l e room_1 s m args below meth c H locs cells slots Q (F0 m 354 ls []) := by
  obtain ⟨hx, hb, hml, hown, hts, hK, hX, hsl, hbs, hL⟩ := hLA
  refine lv_aload_n hx hb dL_law_354 rfl (lv_at hl 2 rfl) ?_
  refine lv_aload_n hx hb dL_law_355 rfl (lv_at hl 3 rfl) ?_
  refine lv_iload_n hx hb dL_law_356 rfl (lv_at hl 0 rfl) ?_
  refine lv_iconst (v := nI 1) hx hb dL_law_357 (by decide) ?_
  refine sn_iadd hx hb dL_law_358 ?_
  refine lw_ld (k := k + 1) hx hb hX hsl hbs hM.2 (by omega) hL dL_law_359 ?_
  refine lv_aload_n hx hb dL_law_360 rfl (lv_at hl 3 rfl) ?_
  refine lv_iload_n hx hb dL_law_361 rfl (lv_at hl 0 rfl) ?_
  refine lv_iconst (v := nI 2) hx hb dL_law_362 (by decide) ?_
  refine sn_iadd hx hb dL_law_363 ?_
  refine lw_ld (k := k + 2) hx hb hX hsl hbs hM.2 (by omega) hL dL_law_364 ?_
  refine sg_ci (sg_runV (d := 1) (As := [.int (xs (k + 1)), .int (xs (k + 2))]) (rest := []) hx hb hml hts hown hK hM (x_point l G b σ w hI (xs (k + 1)) (xs (k + 2))) mi_X10_point wl_L_49 (sh0 kc_0) (kd_lt kc_0 (by decide)) rfl rfl rfl hl.1 rfl (Nat.le_of_ble_eq_true rfl) dL_law_365 ⟨by decide, by decide⟩ ⟨Nat.le_of_succ_le hcl, Nat.le_of_succ_le hsl2⟩) hM sgB (fun r1 σ1 H locs hp1 hM => ?_)
  obtain ⟨hr1, hI1, hf1⟩ := hp1
  have hJ1 := hJ.keepC hf1
  refine lv_aload_n hx hb dL_law_368 rfl (lv_at hl 1 rfl) ?_
  refine lv_aload_n hx hb dL_law_369 rfl (lv_at hl 3 rfl) ?_
  refine lv_iload_n hx hb dL_law_370 rfl (lv_at hl 0 rfl) ?_
  refine lv_iconst (v := nI 1) hx hb dL_law_371 (by decide) ?_
  refine sn_iadd hx hb dL_law_372 ?_
  refine lw_ld (k := k + 1) hx hb hX hsl hbs hM.2 (by omega) hL dL_law_373 ?_
  refine lv_aload_n hx hb dL_law_374 rfl (lv_at hl 3 rfl) ?_
  refine lv_iload_n hx hb dL_law_375 rfl (lv_at hl 0 rfl) ?_
  refine lv_iconst (v := nI 2) hx hb dL_law_376 (by decide) ?_
  refine sn_iadd hx hb dL_law_377 ?_
  refine lw_ld (k := k + 2) hx hb hX hsl hbs hM.2 (by omega) hL dL_law_378 ?_
  refine sg_ci (sg_runV (d := 2) (As := [.int (xs (k + 1)), .int (xs (k + 2))]) (rest := [.int r1]) hx hb hml hts hown hK hM (y_point l G b σ1 w hJ1 (xs (k + 1)) (xs (k + 2))) mi_X11_point wl_L_52 (sh18 kc_131) (kd_lt kc_131 (by decide)) rfl rfl rfl hl.1 rfl (Nat.le_of_ble_eq_true rfl) dL_law_379 ⟨by decide, by decide⟩ ⟨Nat.le_of_succ_le hcl, Nat.le_of_succ_le hsl2⟩) hM sgB (fun r2 σ2 H locs hp2 hM => ?_)
  obtain ⟨hr2, hJ2, hf2⟩ := hp2
  have hI2 := ICw.keepR hI1 hf2
  refine lv_icmp_eq (tgt := 799) hx hb dL_law_382 (by decide) (fun _ => ?_) (fun cq => absurd (hr1.trans hr2.symm) cq)
  refine W.widen (k := cells + 1) (n := slots + 1) (Nat.le_succ _) (Nat.le_succ _) ?_
  exact kk σ2 _ _ _ hI2 hJ2 hM
set_option maxHeartbeats 4000000 in
theorem lc_member {p : Program} {l : Launch} {e : Env} {s : State} {m : MethodId} {args : Array Value} {below : List Frame} {meth : Method} {c : Code} {H : Heap} {locs : List Loc} {cells slots : Nat} {Q : State → Prop} {ls : Array Slot} {G : GT} {sa b L k : Nat} {xs : Nat → Int32} {σ : Mem} {w : World} (hLA : LA p s m args c G sa b L xs) (hk : k + 4 ≤ L) (hcl : cells + 1 ≤ 600000) (hsl2 : slots + 1 ≤ 7302250) (hI : ICw σ w) (hJ : IRw σ w) (hM : St G (Fb b) b σ s H locs) (hl : lv_has ls 4 [(3, .int (nI k)), (2, .ref (b + 131)), (1, .ref (b + 0)), (0, .ref sa)])
    (kk : ∀ (σ' : Mem) (w' : World) (H1 : Heap) (locs1 : List Loc), ICw σ' w' → IRw σ' w' → St G (Fb b) b σ' s H1 locs1 → W p l e room_1 s m args below meth c H1 locs1 (cells + 1) (slots + 1) Q (F0 m 799 ls [])) : W p l e room_1 s m args below meth c H locs cells slots Q (F0 m 387 ls []) := by
  obtain ⟨hx, hb, hml, hown, hts, hK, hX, hsl, hbs, hL⟩ := hLA
  refine lv_aload_n hx hb dL_law_387 rfl (lv_at hl 2 rfl) ?_
  refine lv_aload_n hx hb dL_law_388 rfl (lv_at hl 3 rfl) ?_
  refine lv_iload_n hx hb dL_law_389 rfl (lv_at hl 0 rfl) ?_
  refine lv_iconst (v := nI 1) hx hb dL_law_390 (by decide) ?_
  refine sn_iadd hx hb dL_law_391 ?_
  refine lw_ld (k := k + 1) hx hb hX hsl hbs hM.2 (by omega) hL dL_law_392 ?_
  refine lv_aload_n hx hb dL_law_393 rfl (lv_at hl 3 rfl) ?_
  refine lv_iload_n hx hb dL_law_394 rfl (lv_at hl 0 rfl) ?_
  refine lv_iconst (v := nI 2) hx hb dL_law_395 (by decide) ?_
  refine sn_iadd hx hb dL_law_396 ?_
  refine lw_ld (k := k + 2) hx hb hX hsl hbs hM.2 (by omega) hL dL_law_397 ?_
  refine sg_ci (sg_runV (d := 1) (As := [.int (xs (k + 1)), .int (xs (k + 2))]) (rest := []) hx hb hml hts hown hK hM (x_member l G b σ w hI (xs (k + 1)) (xs (k + 2))) mi_X10_member wl_L_53 (sh0 kc_0) (kd_lt kc_0 (by decide)) rfl rfl rfl hl.1 rfl (Nat.le_of_ble_eq_true rfl) dL_law_398 ⟨by decide, by decide⟩ ⟨Nat.le_of_succ_le hcl, Nat.le_of_succ_le hsl2⟩) hM sgB (fun r1 σ1 H locs hp1 hM => ?_)
  obtain ⟨hr1, hI1, hf1⟩ := hp1
  have hJ1 := hJ.keepC hf1
  refine lv_aload_n hx hb dL_law_401 rfl (lv_at hl 1 rfl) ?_
  refine lv_aload_n hx hb dL_law_402 rfl (lv_at hl 3 rfl) ?_
  refine lv_iload_n hx hb dL_law_403 rfl (lv_at hl 0 rfl) ?_
  refine lv_iconst (v := nI 1) hx hb dL_law_404 (by decide) ?_
  refine sn_iadd hx hb dL_law_405 ?_
  refine lw_ld (k := k + 1) hx hb hX hsl hbs hM.2 (by omega) hL dL_law_406 ?_
  refine lv_aload_n hx hb dL_law_407 rfl (lv_at hl 3 rfl) ?_
  refine lv_iload_n hx hb dL_law_408 rfl (lv_at hl 0 rfl) ?_
  refine lv_iconst (v := nI 2) hx hb dL_law_409 (by decide) ?_
  refine sn_iadd hx hb dL_law_410 ?_
  refine lw_ld (k := k + 2) hx hb hX hsl hbs hM.2 (by omega) hL dL_law_411 ?_
  refine sg_ci (sg_runV (d := 2) (As := [.int (xs (k + 1)), .int (xs (k + 2))]) (rest := [.int r1]) hx hb hml hts hown hK hM (y_member l G b σ1 w hJ1 (xs (k + 1)) (xs (k + 2))) mi_X11_member wl_L_56 (sh18 kc_131) (kd_lt kc_131 (by decide)) rfl rfl rfl hl.1 rfl (Nat.le_of_ble_eq_true rfl) dL_law_412 ⟨by decide, by decide⟩ ⟨Nat.le_of_succ_le hcl, Nat.le_of_succ_le hsl2⟩) hM sgB (fun r2 σ2 H locs hp2 hM => ?_)
  obtain ⟨hr2, hJ2, hf2⟩ := hp2
  have hI2 := ICw.keepR hI1 hf2
  refine lv_icmp_eq (tgt := 799) hx hb dL_law_415 (by decide) (fun _ => ?_) (fun cq => absurd (hr1.trans hr2.symm) cq)
  refine W.widen (k := cells + 1) (n := slots + 1) (Nat.le_succ _) (Nat.le_succ _) ?_
  exact kk σ2 _ _ _ hI2 hJ2 hM
set_option maxHeartbeats 4000000 in
theorem lc_apart {p : Program} {l : Launch} {e : Env} {s : State} {m : MethodId} {args : Array Value} {below : List Frame} {meth : Method} {c : Code} {H : Heap} {locs : List Loc} {cells slots : Nat} {Q : State → Prop} {ls : Array Slot} {G : GT} {sa b L k : Nat} {xs : Nat → Int32} {σ : Mem} {w : World} (hLA : LA p s m args c G sa b L xs) (hk : k + 4 ≤ L) (hcl : cells + 1 ≤ 600000) (hsl2 : slots + 1 ≤ 7302250) (hI : ICw σ w) (hJ : IRw σ w) (hM : St G (Fb b) b σ s H locs) (hl : lv_has ls 4 [(3, .int (nI k)), (2, .ref (b + 131)), (1, .ref (b + 0)), (0, .ref sa)])
    (kk : ∀ (σ' : Mem) (w' : World) (H1 : Heap) (locs1 : List Loc), ICw σ' w' → IRw σ' w' → St G (Fb b) b σ' s H1 locs1 → W p l e room_1 s m args below meth c H1 locs1 (cells + 1) (slots + 1) Q (F0 m 799 ls [])) : W p l e room_1 s m args below meth c H locs cells slots Q (F0 m 420 ls []) := by
  obtain ⟨hx, hb, hml, hown, hts, hK, hX, hsl, hbs, hL⟩ := hLA
  refine lv_aload_n hx hb dL_law_420 rfl (lv_at hl 2 rfl) ?_
  refine lv_aload_n hx hb dL_law_421 rfl (lv_at hl 3 rfl) ?_
  refine lv_iload_n hx hb dL_law_422 rfl (lv_at hl 0 rfl) ?_
  refine lv_iconst (v := nI 1) hx hb dL_law_423 (by decide) ?_
  refine sn_iadd hx hb dL_law_424 ?_
  refine lw_ld (k := k + 1) hx hb hX hsl hbs hM.2 (by omega) hL dL_law_425 ?_
  refine lv_aload_n hx hb dL_law_426 rfl (lv_at hl 3 rfl) ?_
  refine lv_iload_n hx hb dL_law_427 rfl (lv_at hl 0 rfl) ?_
  refine lv_iconst (v := nI 2) hx hb dL_law_428 (by decide) ?_
  refine sn_iadd hx hb dL_law_429 ?_
  refine lw_ld (k := k + 2) hx hb hX hsl hbs hM.2 (by omega) hL dL_law_430 ?_
  refine sg_ci (sg_runV (d := 3) (As := [.int (xs (k + 1)), .int (xs (k + 2))]) (rest := []) hx hb hml hts hown hK hM (x_apart l G b σ w hI (xs (k + 1)) (xs (k + 2))) mi_X10_apart wl_L_57 (sh0 kc_0) (kd_lt kc_0 (by decide)) rfl rfl rfl hl.1 rfl (Nat.le_of_ble_eq_true rfl) dL_law_431 ⟨by decide, by decide⟩ ⟨Nat.le_of_succ_le hcl, Nat.le_of_succ_le hsl2⟩) hM sgB (fun r1 σ1 H locs hp1 hM => ?_)
  obtain ⟨hr1, hI1, hf1⟩ := hp1
  have hJ1 := hJ.keepC hf1
  refine lv_aload_n hx hb dL_law_434 rfl (lv_at hl 1 rfl) ?_
  refine lv_aload_n hx hb dL_law_435 rfl (lv_at hl 3 rfl) ?_
  refine lv_iload_n hx hb dL_law_436 rfl (lv_at hl 0 rfl) ?_
  refine lv_iconst (v := nI 1) hx hb dL_law_437 (by decide) ?_
  refine sn_iadd hx hb dL_law_438 ?_
  refine lw_ld (k := k + 1) hx hb hX hsl hbs hM.2 (by omega) hL dL_law_439 ?_
  refine lv_aload_n hx hb dL_law_440 rfl (lv_at hl 3 rfl) ?_
  refine lv_iload_n hx hb dL_law_441 rfl (lv_at hl 0 rfl) ?_
  refine lv_iconst (v := nI 2) hx hb dL_law_442 (by decide) ?_
  refine sn_iadd hx hb dL_law_443 ?_
  refine lw_ld (k := k + 2) hx hb hX hsl hbs hM.2 (by omega) hL dL_law_444 ?_
  refine sg_ci (sg_runV (d := 3) (As := [.int (xs (k + 1)), .int (xs (k + 2))]) (rest := [.int r1]) hx hb hml hts hown hK hM (y_apart l G b σ1 w hJ1 (xs (k + 1)) (xs (k + 2))) mi_X11_apart wl_L_60 (sh18 kc_131) (kd_lt kc_131 (by decide)) rfl rfl rfl hl.1 rfl (Nat.le_of_ble_eq_true rfl) dL_law_445 ⟨by decide, by decide⟩ ⟨Nat.le_of_succ_le hcl, Nat.le_of_succ_le hsl2⟩) hM sgB (fun r2 σ2 H locs hp2 hM => ?_)
  obtain ⟨hr2, hJ2, hf2⟩ := hp2
  have hI2 := ICw.keepR hI1 hf2
  refine lv_icmp_eq (tgt := 799) hx hb dL_law_448 (by decide) (fun _ => ?_) (fun cq => absurd (hr1.trans hr2.symm) cq)
  refine W.widen (k := cells + 1) (n := slots + 1) (Nat.le_succ _) (Nat.le_succ _) ?_
  exact kk σ2 _ _ _ hI2 hJ2 hM
set_option maxHeartbeats 4000000 in
theorem lc_distance {p : Program} {l : Launch} {e : Env} {s : State} {m : MethodId} {args : Array Value} {below : List Frame} {meth : Method} {c : Code} {H : Heap} {locs : List Loc} {cells slots : Nat} {Q : State → Prop} {ls : Array Slot} {G : GT} {sa b L k : Nat} {xs : Nat → Int32} {σ : Mem} {w : World} (hLA : LA p s m args c G sa b L xs) (hk : k + 4 ≤ L) (hcl : cells + 1 ≤ 600000) (hsl2 : slots + 1 ≤ 7302250) (hI : ICw σ w) (hJ : IRw σ w) (hM : St G (Fb b) b σ s H locs) (hl : lv_has ls 4 [(3, .int (nI k)), (2, .ref (b + 131)), (1, .ref (b + 0)), (0, .ref sa)])
    (kk : ∀ (σ' : Mem) (w' : World) (H1 : Heap) (locs1 : List Loc), ICw σ' w' → IRw σ' w' → St G (Fb b) b σ' s H1 locs1 → W p l e room_1 s m args below meth c H1 locs1 (cells + 1) (slots + 1) Q (F0 m 799 ls [])) : W p l e room_1 s m args below meth c H locs cells slots Q (F0 m 453 ls []) := by
  obtain ⟨hx, hb, hml, hown, hts, hK, hX, hsl, hbs, hL⟩ := hLA
  refine lv_aload_n hx hb dL_law_453 rfl (lv_at hl 2 rfl) ?_
  refine lv_aload_n hx hb dL_law_454 rfl (lv_at hl 3 rfl) ?_
  refine lv_iload_n hx hb dL_law_455 rfl (lv_at hl 0 rfl) ?_
  refine lv_iconst (v := nI 1) hx hb dL_law_456 (by decide) ?_
  refine sn_iadd hx hb dL_law_457 ?_
  refine lw_ld (k := k + 1) hx hb hX hsl hbs hM.2 (by omega) hL dL_law_458 ?_
  refine lv_aload_n hx hb dL_law_459 rfl (lv_at hl 3 rfl) ?_
  refine lv_iload_n hx hb dL_law_460 rfl (lv_at hl 0 rfl) ?_
  refine lv_iconst (v := nI 2) hx hb dL_law_461 (by decide) ?_
  refine sn_iadd hx hb dL_law_462 ?_
  refine lw_ld (k := k + 2) hx hb hX hsl hbs hM.2 (by omega) hL dL_law_463 ?_
  refine sg_ci (sg_runV (d := 2) (As := [.int (xs (k + 1)), .int (xs (k + 2))]) (rest := []) hx hb hml hts hown hK hM (x_distance l G b σ w hI (xs (k + 1)) (xs (k + 2))) mi_X10_distance wl_L_61 (sh0 kc_0) (kd_lt kc_0 (by decide)) rfl rfl rfl hl.1 rfl (Nat.le_of_ble_eq_true rfl) dL_law_464 ⟨by decide, by decide⟩ ⟨Nat.le_of_succ_le hcl, Nat.le_of_succ_le hsl2⟩) hM sgB (fun r1 σ1 H locs hp1 hM => ?_)
  obtain ⟨hr1, hI1, hf1⟩ := hp1
  have hJ1 := hJ.keepC hf1
  refine lv_aload_n hx hb dL_law_467 rfl (lv_at hl 1 rfl) ?_
  refine lv_aload_n hx hb dL_law_468 rfl (lv_at hl 3 rfl) ?_
  refine lv_iload_n hx hb dL_law_469 rfl (lv_at hl 0 rfl) ?_
  refine lv_iconst (v := nI 1) hx hb dL_law_470 (by decide) ?_
  refine sn_iadd hx hb dL_law_471 ?_
  refine lw_ld (k := k + 1) hx hb hX hsl hbs hM.2 (by omega) hL dL_law_472 ?_
  refine lv_aload_n hx hb dL_law_473 rfl (lv_at hl 3 rfl) ?_
  refine lv_iload_n hx hb dL_law_474 rfl (lv_at hl 0 rfl) ?_
  refine lv_iconst (v := nI 2) hx hb dL_law_475 (by decide) ?_
  refine sn_iadd hx hb dL_law_476 ?_
  refine lw_ld (k := k + 2) hx hb hX hsl hbs hM.2 (by omega) hL dL_law_477 ?_
  refine sg_ci (sg_runV (d := 2) (As := [.int (xs (k + 1)), .int (xs (k + 2))]) (rest := [.int r1]) hx hb hml hts hown hK hM (y_distance l G b σ1 w hJ1 (xs (k + 1)) (xs (k + 2))) mi_X11_distance wl_L_64 (sh18 kc_131) (kd_lt kc_131 (by decide)) rfl rfl rfl hl.1 rfl (Nat.le_of_ble_eq_true rfl) dL_law_478 ⟨by decide, by decide⟩ ⟨Nat.le_of_succ_le hcl, Nat.le_of_succ_le hsl2⟩) hM sgB (fun r2 σ2 H locs hp2 hM => ?_)
  obtain ⟨hr2, hJ2, hf2⟩ := hp2
  have hI2 := ICw.keepR hI1 hf2
  refine lv_icmp_eq (tgt := 799) hx hb dL_law_481 (by decide) (fun _ => ?_) (fun cq => absurd (hr1.trans hr2.symm) cq)
  refine W.widen (k := cells + 1) (n := slots + 1) (Nat.le_succ _) (Nat.le_succ _) ?_
  exact kk σ2 _ _ _ hI2 hJ2 hM
set_option maxHeartbeats 4000000 in
theorem lc_turned {p : Program} {l : Launch} {e : Env} {s : State} {m : MethodId} {args : Array Value} {below : List Frame} {meth : Method} {c : Code} {H : Heap} {locs : List Loc} {cells slots : Nat} {Q : State → Prop} {ls : Array Slot} {G : GT} {sa b L k : Nat} {xs : Nat → Int32} {σ : Mem} {w : World} (hLA : LA p s m args c G sa b L xs) (hk : k + 4 ≤ L) (hcl : cells + 1 ≤ 600000) (hsl2 : slots + 1 ≤ 7302250) (hI : ICw σ w) (hJ : IRw σ w) (hM : St G (Fb b) b σ s H locs) (hl : lv_has ls 4 [(3, .int (nI k)), (2, .ref (b + 131)), (1, .ref (b + 0)), (0, .ref sa)])
    (kk : ∀ (σ' : Mem) (w' : World) (H1 : Heap) (locs1 : List Loc), ICw σ' w' → IRw σ' w' → St G (Fb b) b σ' s H1 locs1 → W p l e room_1 s m args below meth c H1 locs1 (cells + 1) (slots + 1) Q (F0 m 799 ls [])) : W p l e room_1 s m args below meth c H locs cells slots Q (F0 m 486 ls []) := by
  obtain ⟨hx, hb, hml, hown, hts, hK, hX, hsl, hbs, hL⟩ := hLA
  refine lv_aload_n hx hb dL_law_486 rfl (lv_at hl 2 rfl) ?_
  refine lv_aload_n hx hb dL_law_487 rfl (lv_at hl 3 rfl) ?_
  refine lv_iload_n hx hb dL_law_488 rfl (lv_at hl 0 rfl) ?_
  refine lv_iconst (v := nI 1) hx hb dL_law_489 (by decide) ?_
  refine sn_iadd hx hb dL_law_490 ?_
  refine lw_ld (k := k + 1) hx hb hX hsl hbs hM.2 (by omega) hL dL_law_491 ?_
  refine sg_ci (sg_runV (d := 2) (As := [.int (xs (k + 1))]) (rest := []) hx hb hml hts hown hK hM (x_turned l G b σ w hI (xs (k + 1))) mi_X10_turned wl_L_65 (sh0 kc_0) (kd_lt kc_0 (by decide)) rfl rfl rfl hl.1 rfl (Nat.le_of_ble_eq_true rfl) dL_law_492 ⟨by decide, by decide⟩ ⟨Nat.le_of_succ_le hcl, Nat.le_of_succ_le hsl2⟩) hM sgB (fun r1 σ1 H locs hp1 hM => ?_)
  obtain ⟨hr1, hI1, hf1⟩ := hp1
  have hJ1 := hJ.keepC hf1
  refine lv_aload_n hx hb dL_law_495 rfl (lv_at hl 1 rfl) ?_
  refine lv_aload_n hx hb dL_law_496 rfl (lv_at hl 3 rfl) ?_
  refine lv_iload_n hx hb dL_law_497 rfl (lv_at hl 0 rfl) ?_
  refine lv_iconst (v := nI 1) hx hb dL_law_498 (by decide) ?_
  refine sn_iadd hx hb dL_law_499 ?_
  refine lw_ld (k := k + 1) hx hb hX hsl hbs hM.2 (by omega) hL dL_law_500 ?_
  refine sg_ci (sg_runV (d := 3) (As := [.int (xs (k + 1))]) (rest := [.int r1]) hx hb hml hts hown hK hM (y_turned l G b σ1 w hJ1 (xs (k + 1))) mi_X11_turned wl_L_68 (sh18 kc_131) (kd_lt kc_131 (by decide)) rfl rfl rfl hl.1 rfl (Nat.le_of_ble_eq_true rfl) dL_law_501 ⟨by decide, by decide⟩ ⟨Nat.le_of_succ_le hcl, Nat.le_of_succ_le hsl2⟩) hM sgB (fun r2 σ2 H locs hp2 hM => ?_)
  obtain ⟨hr2, hJ2, hf2⟩ := hp2
  have hI2 := ICw.keepR hI1 hf2
  refine lv_icmp_eq (tgt := 799) hx hb dL_law_504 (by decide) (fun _ => ?_) (fun cq => absurd (hr1.trans hr2.symm) cq)
  refine W.widen (k := cells + 1) (n := slots + 1) (Nat.le_succ _) (Nat.le_succ _) ?_
  exact kk σ2 _ _ _ hI2 hJ2 hM
set_option maxHeartbeats 4000000 in
theorem lc_next {p : Program} {l : Launch} {e : Env} {s : State} {m : MethodId} {args : Array Value} {below : List Frame} {meth : Method} {c : Code} {H : Heap} {locs : List Loc} {cells slots : Nat} {Q : State → Prop} {ls : Array Slot} {G : GT} {sa b L k : Nat} {xs : Nat → Int32} {σ : Mem} {w : World} (hLA : LA p s m args c G sa b L xs) (hk : k + 4 ≤ L) (hcl : cells + 1 ≤ 600000) (hsl2 : slots + 1 ≤ 7302250) (hI : ICw σ w) (hJ : IRw σ w) (hM : St G (Fb b) b σ s H locs) (hl : lv_has ls 4 [(3, .int (nI k)), (2, .ref (b + 131)), (1, .ref (b + 0)), (0, .ref sa)])
    (kk : ∀ (σ' : Mem) (w' : World) (H1 : Heap) (locs1 : List Loc), ICw σ' w' → IRw σ' w' → St G (Fb b) b σ' s H1 locs1 → W p l e room_1 s m args below meth c H1 locs1 (cells + 1) (slots + 1) Q (F0 m 799 ls [])) : W p l e room_1 s m args below meth c H locs cells slots Q (F0 m 509 ls []) := by
  obtain ⟨hx, hb, hml, hown, hts, hK, hX, hsl, hbs, hL⟩ := hLA
  refine lv_aload_n hx hb dL_law_509 rfl (lv_at hl 2 rfl) ?_
  refine lv_aload_n hx hb dL_law_510 rfl (lv_at hl 3 rfl) ?_
  refine lv_iload_n hx hb dL_law_511 rfl (lv_at hl 0 rfl) ?_
  refine lv_iconst (v := nI 1) hx hb dL_law_512 (by decide) ?_
  refine sn_iadd hx hb dL_law_513 ?_
  refine lw_ld (k := k + 1) hx hb hX hsl hbs hM.2 (by omega) hL dL_law_514 ?_
  refine lv_aload_n hx hb dL_law_515 rfl (lv_at hl 3 rfl) ?_
  refine lv_iload_n hx hb dL_law_516 rfl (lv_at hl 0 rfl) ?_
  refine lv_iconst (v := nI 2) hx hb dL_law_517 (by decide) ?_
  refine sn_iadd hx hb dL_law_518 ?_
  refine lw_ld (k := k + 2) hx hb hX hsl hbs hM.2 (by omega) hL dL_law_519 ?_
  refine lv_aload_n hx hb dL_law_520 rfl (lv_at hl 3 rfl) ?_
  refine lv_iload_n hx hb dL_law_521 rfl (lv_at hl 0 rfl) ?_
  refine lv_iconst (v := nI 3) hx hb dL_law_522 (by decide) ?_
  refine sn_iadd hx hb dL_law_523 ?_
  refine lw_ld (k := k + 3) hx hb hX hsl hbs hM.2 (by omega) hL dL_law_524 ?_
  refine sg_ci (sg_runV (d := 2) (As := [.int (xs (k + 1)), .int (xs (k + 2)), .int (xs (k + 3))]) (rest := []) hx hb hml hts hown hK hM (x_next l G b σ w hI (xs (k + 1)) (xs (k + 2)) (xs (k + 3))) mi_X10_next wl_L_69 (sh0 kc_0) (kd_lt kc_0 (by decide)) rfl rfl rfl hl.1 rfl (Nat.le_of_ble_eq_true rfl) dL_law_525 ⟨by decide, by decide⟩ ⟨Nat.le_of_succ_le hcl, Nat.le_of_succ_le hsl2⟩) hM sgB (fun r1 σ1 H locs hp1 hM => ?_)
  obtain ⟨hr1, hI1, hf1⟩ := hp1
  have hJ1 := hJ.keepC hf1
  refine lv_aload_n hx hb dL_law_528 rfl (lv_at hl 1 rfl) ?_
  refine lv_aload_n hx hb dL_law_529 rfl (lv_at hl 3 rfl) ?_
  refine lv_iload_n hx hb dL_law_530 rfl (lv_at hl 0 rfl) ?_
  refine lv_iconst (v := nI 1) hx hb dL_law_531 (by decide) ?_
  refine sn_iadd hx hb dL_law_532 ?_
  refine lw_ld (k := k + 1) hx hb hX hsl hbs hM.2 (by omega) hL dL_law_533 ?_
  refine lv_aload_n hx hb dL_law_534 rfl (lv_at hl 3 rfl) ?_
  refine lv_iload_n hx hb dL_law_535 rfl (lv_at hl 0 rfl) ?_
  refine lv_iconst (v := nI 2) hx hb dL_law_536 (by decide) ?_
  refine sn_iadd hx hb dL_law_537 ?_
  refine lw_ld (k := k + 2) hx hb hX hsl hbs hM.2 (by omega) hL dL_law_538 ?_
  refine lv_aload_n hx hb dL_law_539 rfl (lv_at hl 3 rfl) ?_
  refine lv_iload_n hx hb dL_law_540 rfl (lv_at hl 0 rfl) ?_
  refine lv_iconst (v := nI 3) hx hb dL_law_541 (by decide) ?_
  refine sn_iadd hx hb dL_law_542 ?_
  refine lw_ld (k := k + 3) hx hb hX hsl hbs hM.2 (by omega) hL dL_law_543 ?_
  refine sg_ci (sg_runV (d := 2) (As := [.int (xs (k + 1)), .int (xs (k + 2)), .int (xs (k + 3))]) (rest := [.int r1]) hx hb hml hts hown hK hM (y_next l G b σ1 w hJ1 (xs (k + 1)) (xs (k + 2)) (xs (k + 3))) mi_X11_next wl_L_72 (sh18 kc_131) (kd_lt kc_131 (by decide)) rfl rfl rfl hl.1 rfl (Nat.le_of_ble_eq_true rfl) dL_law_544 ⟨by decide, by decide⟩ ⟨Nat.le_of_succ_le hcl, Nat.le_of_succ_le hsl2⟩) hM sgB (fun r2 σ2 H locs hp2 hM => ?_)
  obtain ⟨hr2, hJ2, hf2⟩ := hp2
  have hI2 := ICw.keepR hI1 hf2
  refine lv_icmp_eq (tgt := 799) hx hb dL_law_547 (by decide) (fun _ => ?_) (fun cq => absurd (hr1.trans hr2.symm) cq)
  refine W.widen (k := cells + 1) (n := slots + 1) (Nat.le_succ _) (Nat.le_succ _) ?_
  exact kk σ2 _ _ _ hI2 hJ2 hM
set_option maxHeartbeats 4000000 in
theorem lc_sent {p : Program} {l : Launch} {e : Env} {s : State} {m : MethodId} {args : Array Value} {below : List Frame} {meth : Method} {c : Code} {H : Heap} {locs : List Loc} {cells slots : Nat} {Q : State → Prop} {ls : Array Slot} {G : GT} {sa b L k : Nat} {xs : Nat → Int32} {σ : Mem} {w : World} (hLA : LA p s m args c G sa b L xs) (hk : k + 4 ≤ L) (hcl : cells + 1 ≤ 600000) (hsl2 : slots + 1 ≤ 7302250) (hI : ICw σ w) (hJ : IRw σ w) (hM : St G (Fb b) b σ s H locs) (hl : lv_has ls 4 [(3, .int (nI k)), (2, .ref (b + 131)), (1, .ref (b + 0)), (0, .ref sa)])
    (kk : ∀ (σ' : Mem) (w' : World) (H1 : Heap) (locs1 : List Loc), ICw σ' w' → IRw σ' w' → St G (Fb b) b σ' s H1 locs1 → W p l e room_1 s m args below meth c H1 locs1 (cells + 1) (slots + 1) Q (F0 m 799 ls [])) : W p l e room_1 s m args below meth c H locs cells slots Q (F0 m 552 ls []) := by
  obtain ⟨hx, hb, hml, hown, hts, hK, hX, hsl, hbs, hL⟩ := hLA
  refine lv_aload_n hx hb dL_law_552 rfl (lv_at hl 2 rfl) ?_
  refine lv_aload_n hx hb dL_law_553 rfl (lv_at hl 3 rfl) ?_
  refine lv_iload_n hx hb dL_law_554 rfl (lv_at hl 0 rfl) ?_
  refine lv_iconst (v := nI 1) hx hb dL_law_555 (by decide) ?_
  refine sn_iadd hx hb dL_law_556 ?_
  refine lw_ld (k := k + 1) hx hb hX hsl hbs hM.2 (by omega) hL dL_law_557 ?_
  refine lv_aload_n hx hb dL_law_558 rfl (lv_at hl 3 rfl) ?_
  refine lv_iload_n hx hb dL_law_559 rfl (lv_at hl 0 rfl) ?_
  refine lv_iconst (v := nI 2) hx hb dL_law_560 (by decide) ?_
  refine sn_iadd hx hb dL_law_561 ?_
  refine lw_ld (k := k + 2) hx hb hX hsl hbs hM.2 (by omega) hL dL_law_562 ?_
  refine sg_ci (sg_runV (d := 1) (As := [.int (xs (k + 1)), .int (xs (k + 2))]) (rest := []) hx hb hml hts hown hK hM (x_sent l G b σ w hI (xs (k + 1)) (xs (k + 2))) mi_X10_sent wl_L_73 (sh0 kc_0) (kd_lt kc_0 (by decide)) rfl rfl rfl hl.1 rfl (Nat.le_of_ble_eq_true rfl) dL_law_563 ⟨by decide, by decide⟩ ⟨Nat.le_of_succ_le hcl, Nat.le_of_succ_le hsl2⟩) hM sgB (fun r1 σ1 H locs hp1 hM => ?_)
  obtain ⟨hr1, hI1, hf1⟩ := hp1
  have hJ1 := hJ.keepC hf1
  refine lv_aload_n hx hb dL_law_566 rfl (lv_at hl 1 rfl) ?_
  refine lv_aload_n hx hb dL_law_567 rfl (lv_at hl 3 rfl) ?_
  refine lv_iload_n hx hb dL_law_568 rfl (lv_at hl 0 rfl) ?_
  refine lv_iconst (v := nI 1) hx hb dL_law_569 (by decide) ?_
  refine sn_iadd hx hb dL_law_570 ?_
  refine lw_ld (k := k + 1) hx hb hX hsl hbs hM.2 (by omega) hL dL_law_571 ?_
  refine lv_aload_n hx hb dL_law_572 rfl (lv_at hl 3 rfl) ?_
  refine lv_iload_n hx hb dL_law_573 rfl (lv_at hl 0 rfl) ?_
  refine lv_iconst (v := nI 2) hx hb dL_law_574 (by decide) ?_
  refine sn_iadd hx hb dL_law_575 ?_
  refine lw_ld (k := k + 2) hx hb hX hsl hbs hM.2 (by omega) hL dL_law_576 ?_
  refine sg_ci (sg_runV (d := 3) (As := [.int (xs (k + 1)), .int (xs (k + 2))]) (rest := [.int r1]) hx hb hml hts hown hK hM (y_sent l G b σ1 w hJ1 (xs (k + 1)) (xs (k + 2))) mi_X11_sent wl_L_76 (sh18 kc_131) (kd_lt kc_131 (by decide)) rfl rfl rfl hl.1 rfl (Nat.le_of_ble_eq_true rfl) dL_law_577 ⟨by decide, by decide⟩ ⟨Nat.le_of_succ_le hcl, Nat.le_of_succ_le hsl2⟩) hM sgB (fun r2 σ2 H locs hp2 hM => ?_)
  obtain ⟨hr2, hJ2, hf2⟩ := hp2
  have hI2 := ICw.keepR hI1 hf2
  refine lv_icmp_eq (tgt := 799) hx hb dL_law_580 (by decide) (fun _ => ?_) (fun cq => absurd (hr1.trans hr2.symm) cq)
  refine W.widen (k := cells + 1) (n := slots + 1) (Nat.le_succ _) (Nat.le_succ _) ?_
  exact kk σ2 _ _ _ hI2 hJ2 hM
set_option maxHeartbeats 4000000 in
theorem lc_heard {p : Program} {l : Launch} {e : Env} {s : State} {m : MethodId} {args : Array Value} {below : List Frame} {meth : Method} {c : Code} {H : Heap} {locs : List Loc} {cells slots : Nat} {Q : State → Prop} {ls : Array Slot} {G : GT} {sa b L k : Nat} {xs : Nat → Int32} {σ : Mem} {w : World} (hLA : LA p s m args c G sa b L xs) (hk : k + 4 ≤ L) (hcl : cells + 1 ≤ 600000) (hsl2 : slots + 1 ≤ 7302250) (hI : ICw σ w) (hJ : IRw σ w) (hM : St G (Fb b) b σ s H locs) (hl : lv_has ls 4 [(3, .int (nI k)), (2, .ref (b + 131)), (1, .ref (b + 0)), (0, .ref sa)])
    (kk : ∀ (σ' : Mem) (w' : World) (H1 : Heap) (locs1 : List Loc), ICw σ' w' → IRw σ' w' → St G (Fb b) b σ' s H1 locs1 → W p l e room_1 s m args below meth c H1 locs1 (cells + 1) (slots + 1) Q (F0 m 799 ls [])) : W p l e room_1 s m args below meth c H locs cells slots Q (F0 m 585 ls []) := by
  obtain ⟨hx, hb, hml, hown, hts, hK, hX, hsl, hbs, hL⟩ := hLA
  refine lv_aload_n hx hb dL_law_585 rfl (lv_at hl 2 rfl) ?_
  refine lv_aload_n hx hb dL_law_586 rfl (lv_at hl 3 rfl) ?_
  refine lv_iload_n hx hb dL_law_587 rfl (lv_at hl 0 rfl) ?_
  refine lv_iconst (v := nI 1) hx hb dL_law_588 (by decide) ?_
  refine sn_iadd hx hb dL_law_589 ?_
  refine lw_ld (k := k + 1) hx hb hX hsl hbs hM.2 (by omega) hL dL_law_590 ?_
  refine lv_aload_n hx hb dL_law_591 rfl (lv_at hl 3 rfl) ?_
  refine lv_iload_n hx hb dL_law_592 rfl (lv_at hl 0 rfl) ?_
  refine lv_iconst (v := nI 2) hx hb dL_law_593 (by decide) ?_
  refine sn_iadd hx hb dL_law_594 ?_
  refine lw_ld (k := k + 2) hx hb hX hsl hbs hM.2 (by omega) hL dL_law_595 ?_
  refine sg_ci (sg_runV (d := 3) (As := [.int (xs (k + 1)), .int (xs (k + 2))]) (rest := []) hx hb hml hts hown hK hM (x_heard l G b σ w hI (xs (k + 1)) (xs (k + 2))) mi_X10_heard wl_L_77 (sh0 kc_0) (kd_lt kc_0 (by decide)) rfl rfl rfl hl.1 rfl (Nat.le_of_ble_eq_true rfl) dL_law_596 ⟨by decide, by decide⟩ ⟨Nat.le_of_succ_le hcl, Nat.le_of_succ_le hsl2⟩) hM sgB (fun r1 σ1 H locs hp1 hM => ?_)
  obtain ⟨hr1, hI1, hf1⟩ := hp1
  have hJ1 := hJ.keepC hf1
  refine lv_aload_n hx hb dL_law_599 rfl (lv_at hl 1 rfl) ?_
  refine lv_aload_n hx hb dL_law_600 rfl (lv_at hl 3 rfl) ?_
  refine lv_iload_n hx hb dL_law_601 rfl (lv_at hl 0 rfl) ?_
  refine lv_iconst (v := nI 1) hx hb dL_law_602 (by decide) ?_
  refine sn_iadd hx hb dL_law_603 ?_
  refine lw_ld (k := k + 1) hx hb hX hsl hbs hM.2 (by omega) hL dL_law_604 ?_
  refine lv_aload_n hx hb dL_law_605 rfl (lv_at hl 3 rfl) ?_
  refine lv_iload_n hx hb dL_law_606 rfl (lv_at hl 0 rfl) ?_
  refine lv_iconst (v := nI 2) hx hb dL_law_607 (by decide) ?_
  refine sn_iadd hx hb dL_law_608 ?_
  refine lw_ld (k := k + 2) hx hb hX hsl hbs hM.2 (by omega) hL dL_law_609 ?_
  refine sg_ci (sg_runV (d := 3) (As := [.int (xs (k + 1)), .int (xs (k + 2))]) (rest := [.int r1]) hx hb hml hts hown hK hM (y_heard l G b σ1 w hJ1 (xs (k + 1)) (xs (k + 2))) mi_X11_heard wl_L_80 (sh18 kc_131) (kd_lt kc_131 (by decide)) rfl rfl rfl hl.1 rfl (Nat.le_of_ble_eq_true rfl) dL_law_610 ⟨by decide, by decide⟩ ⟨Nat.le_of_succ_le hcl, Nat.le_of_succ_le hsl2⟩) hM sgB (fun r2 σ2 H locs hp2 hM => ?_)
  obtain ⟨hr2, hJ2, hf2⟩ := hp2
  have hI2 := ICw.keepR hI1 hf2
  refine lv_icmp_eq (tgt := 799) hx hb dL_law_613 (by decide) (fun _ => ?_) (fun cq => absurd (hr1.trans hr2.symm) cq)
  refine W.widen (k := cells + 1) (n := slots + 1) (Nat.le_succ _) (Nat.le_succ _) ?_
  exact kk σ2 _ _ _ hI2 hJ2 hM
set_option maxHeartbeats 4000000 in
theorem lc_nearest {p : Program} {l : Launch} {e : Env} {s : State} {m : MethodId} {args : Array Value} {below : List Frame} {meth : Method} {c : Code} {H : Heap} {locs : List Loc} {cells slots : Nat} {Q : State → Prop} {ls : Array Slot} {G : GT} {sa b L k : Nat} {xs : Nat → Int32} {σ : Mem} {w : World} (hLA : LA p s m args c G sa b L xs) (hk : k + 4 ≤ L) (hcl : cells + 1 ≤ 600000) (hsl2 : slots + 1 ≤ 7302250) (hI : ICw σ w) (hJ : IRw σ w) (hM : St G (Fb b) b σ s H locs) (hl : lv_has ls 4 [(3, .int (nI k)), (2, .ref (b + 131)), (1, .ref (b + 0)), (0, .ref sa)])
    (kk : ∀ (σ' : Mem) (w' : World) (H1 : Heap) (locs1 : List Loc), ICw σ' w' → IRw σ' w' → St G (Fb b) b σ' s H1 locs1 → W p l e room_1 s m args below meth c H1 locs1 (cells + 1) (slots + 1) Q (F0 m 799 ls [])) : W p l e room_1 s m args below meth c H locs cells slots Q (F0 m 618 ls []) := by
  obtain ⟨hx, hb, hml, hown, hts, hK, hX, hsl, hbs, hL⟩ := hLA
  refine lv_aload_n hx hb dL_law_618 rfl (lv_at hl 2 rfl) ?_
  refine lv_aload_n hx hb dL_law_619 rfl (lv_at hl 3 rfl) ?_
  refine lv_iload_n hx hb dL_law_620 rfl (lv_at hl 0 rfl) ?_
  refine lv_iconst (v := nI 1) hx hb dL_law_621 (by decide) ?_
  refine sn_iadd hx hb dL_law_622 ?_
  refine lw_ld (k := k + 1) hx hb hX hsl hbs hM.2 (by omega) hL dL_law_623 ?_
  refine lv_aload_n hx hb dL_law_624 rfl (lv_at hl 3 rfl) ?_
  refine lv_iload_n hx hb dL_law_625 rfl (lv_at hl 0 rfl) ?_
  refine lv_iconst (v := nI 2) hx hb dL_law_626 (by decide) ?_
  refine sn_iadd hx hb dL_law_627 ?_
  refine lw_ld (k := k + 2) hx hb hX hsl hbs hM.2 (by omega) hL dL_law_628 ?_
  refine sg_ci (sg_runV (d := 6) (As := [.int (xs (k + 1)), .int (xs (k + 2))]) (rest := []) hx hb hml hts hown hK hM (x_nearest l G b σ w hI (xs (k + 1)) (xs (k + 2))) mi_X10_nearest wl_L_81 (sh0 kc_0) (kd_lt kc_0 (by decide)) rfl rfl rfl hl.1 rfl (Nat.le_of_ble_eq_true rfl) dL_law_629 ⟨by decide, by decide⟩ ⟨Nat.le_of_succ_le hcl, Nat.le_of_succ_le hsl2⟩) hM sgB (fun r1 σ1 H locs hp1 hM => ?_)
  obtain ⟨hr1, hI1, hf1⟩ := hp1
  have hJ1 := hJ.keepC hf1
  refine lv_aload_n hx hb dL_law_632 rfl (lv_at hl 1 rfl) ?_
  refine lv_aload_n hx hb dL_law_633 rfl (lv_at hl 3 rfl) ?_
  refine lv_iload_n hx hb dL_law_634 rfl (lv_at hl 0 rfl) ?_
  refine lv_iconst (v := nI 1) hx hb dL_law_635 (by decide) ?_
  refine sn_iadd hx hb dL_law_636 ?_
  refine lw_ld (k := k + 1) hx hb hX hsl hbs hM.2 (by omega) hL dL_law_637 ?_
  refine lv_aload_n hx hb dL_law_638 rfl (lv_at hl 3 rfl) ?_
  refine lv_iload_n hx hb dL_law_639 rfl (lv_at hl 0 rfl) ?_
  refine lv_iconst (v := nI 2) hx hb dL_law_640 (by decide) ?_
  refine sn_iadd hx hb dL_law_641 ?_
  refine lw_ld (k := k + 2) hx hb hX hsl hbs hM.2 (by omega) hL dL_law_642 ?_
  refine sg_ci (sg_runV (d := 5) (As := [.int (xs (k + 1)), .int (xs (k + 2))]) (rest := [.int r1]) hx hb hml hts hown hK hM (y_nearest l G b σ1 w hJ1 (xs (k + 1)) (xs (k + 2))) mi_X11_nearest wl_L_84 (sh18 kc_131) (kd_lt kc_131 (by decide)) rfl rfl rfl hl.1 rfl (Nat.le_of_ble_eq_true rfl) dL_law_643 ⟨by decide, by decide⟩ ⟨Nat.le_of_succ_le hcl, Nat.le_of_succ_le hsl2⟩) hM sgB (fun r2 σ2 H locs hp2 hM => ?_)
  obtain ⟨hr2, hJ2, hf2⟩ := hp2
  have hI2 := ICw.keepR hI1 hf2
  refine lv_icmp_eq (tgt := 799) hx hb dL_law_646 (by decide) (fun _ => ?_) (fun cq => absurd (hr1.trans hr2.symm) cq)
  refine W.widen (k := cells + 1) (n := slots + 1) (Nat.le_succ _) (Nat.le_succ _) ?_
  exact kk σ2 _ _ _ hI2 hJ2 hM
set_option maxHeartbeats 4000000 in
theorem lc_ahead {p : Program} {l : Launch} {e : Env} {s : State} {m : MethodId} {args : Array Value} {below : List Frame} {meth : Method} {c : Code} {H : Heap} {locs : List Loc} {cells slots : Nat} {Q : State → Prop} {ls : Array Slot} {G : GT} {sa b L k : Nat} {xs : Nat → Int32} {σ : Mem} {w : World} (hLA : LA p s m args c G sa b L xs) (hk : k + 4 ≤ L) (hcl : cells + 1 ≤ 600000) (hsl2 : slots + 1 ≤ 7302250) (hI : ICw σ w) (hJ : IRw σ w) (hM : St G (Fb b) b σ s H locs) (hl : lv_has ls 4 [(3, .int (nI k)), (2, .ref (b + 131)), (1, .ref (b + 0)), (0, .ref sa)])
    (kk : ∀ (σ' : Mem) (w' : World) (H1 : Heap) (locs1 : List Loc), ICw σ' w' → IRw σ' w' → St G (Fb b) b σ' s H1 locs1 → W p l e room_1 s m args below meth c H1 locs1 (cells + 1) (slots + 1) Q (F0 m 799 ls [])) : W p l e room_1 s m args below meth c H locs cells slots Q (F0 m 651 ls []) := by
  obtain ⟨hx, hb, hml, hown, hts, hK, hX, hsl, hbs, hL⟩ := hLA
  refine lv_aload_n hx hb dL_law_651 rfl (lv_at hl 2 rfl) ?_
  refine lv_aload_n hx hb dL_law_652 rfl (lv_at hl 3 rfl) ?_
  refine lv_iload_n hx hb dL_law_653 rfl (lv_at hl 0 rfl) ?_
  refine lv_iconst (v := nI 1) hx hb dL_law_654 (by decide) ?_
  refine sn_iadd hx hb dL_law_655 ?_
  refine lw_ld (k := k + 1) hx hb hX hsl hbs hM.2 (by omega) hL dL_law_656 ?_
  refine lv_aload_n hx hb dL_law_657 rfl (lv_at hl 3 rfl) ?_
  refine lv_iload_n hx hb dL_law_658 rfl (lv_at hl 0 rfl) ?_
  refine lv_iconst (v := nI 2) hx hb dL_law_659 (by decide) ?_
  refine sn_iadd hx hb dL_law_660 ?_
  refine lw_ld (k := k + 2) hx hb hX hsl hbs hM.2 (by omega) hL dL_law_661 ?_
  refine sg_ci (sg_runV (d := 5) (As := [.int (xs (k + 1)), .int (xs (k + 2))]) (rest := []) hx hb hml hts hown hK hM (x_ahead l G b σ w hI (xs (k + 1)) (xs (k + 2))) mi_X10_ahead wl_L_85 (sh0 kc_0) (kd_lt kc_0 (by decide)) rfl rfl rfl hl.1 rfl (Nat.le_of_ble_eq_true rfl) dL_law_662 ⟨by decide, by decide⟩ ⟨Nat.le_of_succ_le hcl, Nat.le_of_succ_le hsl2⟩) hM sgB (fun r1 σ1 H locs hp1 hM => ?_)
  obtain ⟨hr1, hI1, hf1⟩ := hp1
  have hJ1 := hJ.keepC hf1
  refine lv_aload_n hx hb dL_law_665 rfl (lv_at hl 1 rfl) ?_
  refine lv_aload_n hx hb dL_law_666 rfl (lv_at hl 3 rfl) ?_
  refine lv_iload_n hx hb dL_law_667 rfl (lv_at hl 0 rfl) ?_
  refine lv_iconst (v := nI 1) hx hb dL_law_668 (by decide) ?_
  refine sn_iadd hx hb dL_law_669 ?_
  refine lw_ld (k := k + 1) hx hb hX hsl hbs hM.2 (by omega) hL dL_law_670 ?_
  refine lv_aload_n hx hb dL_law_671 rfl (lv_at hl 3 rfl) ?_
  refine lv_iload_n hx hb dL_law_672 rfl (lv_at hl 0 rfl) ?_
  refine lv_iconst (v := nI 2) hx hb dL_law_673 (by decide) ?_
  refine sn_iadd hx hb dL_law_674 ?_
  refine lw_ld (k := k + 2) hx hb hX hsl hbs hM.2 (by omega) hL dL_law_675 ?_
  refine sg_ci (sg_runV (d := 5) (As := [.int (xs (k + 1)), .int (xs (k + 2))]) (rest := [.int r1]) hx hb hml hts hown hK hM (y_ahead l G b σ1 w hJ1 (xs (k + 1)) (xs (k + 2))) mi_X11_ahead wl_L_88 (sh18 kc_131) (kd_lt kc_131 (by decide)) rfl rfl rfl hl.1 rfl (Nat.le_of_ble_eq_true rfl) dL_law_676 ⟨by decide, by decide⟩ ⟨Nat.le_of_succ_le hcl, Nat.le_of_succ_le hsl2⟩) hM sgB (fun r2 σ2 H locs hp2 hM => ?_)
  obtain ⟨hr2, hJ2, hf2⟩ := hp2
  have hI2 := ICw.keepR hI1 hf2
  refine lv_icmp_eq (tgt := 799) hx hb dL_law_679 (by decide) (fun _ => ?_) (fun cq => absurd (hr1.trans hr2.symm) cq)
  refine W.widen (k := cells + 1) (n := slots + 1) (Nat.le_succ _) (Nat.le_succ _) ?_
  exact kk σ2 _ _ _ hI2 hJ2 hM
set_option maxHeartbeats 4000000 in
theorem lc_decided {p : Program} {l : Launch} {e : Env} {s : State} {m : MethodId} {args : Array Value} {below : List Frame} {meth : Method} {c : Code} {H : Heap} {locs : List Loc} {cells slots : Nat} {Q : State → Prop} {ls : Array Slot} {G : GT} {sa b L k : Nat} {xs : Nat → Int32} {σ : Mem} {w : World} (hLA : LA p s m args c G sa b L xs) (hk : k + 4 ≤ L) (hcl : cells + 1 ≤ 600000) (hsl2 : slots + 1 ≤ 7302250) (hI : ICw σ w) (hJ : IRw σ w) (hM : St G (Fb b) b σ s H locs) (hl : lv_has ls 4 [(3, .int (nI k)), (2, .ref (b + 131)), (1, .ref (b + 0)), (0, .ref sa)])
    (kk : ∀ (σ' : Mem) (w' : World) (H1 : Heap) (locs1 : List Loc), ICw σ' w' → IRw σ' w' → St G (Fb b) b σ' s H1 locs1 → W p l e room_1 s m args below meth c H1 locs1 (cells + 1) (slots + 1) Q (F0 m 799 ls [])) : W p l e room_1 s m args below meth c H locs cells slots Q (F0 m 684 ls []) := by
  obtain ⟨hx, hb, hml, hown, hts, hK, hX, hsl, hbs, hL⟩ := hLA
  refine lv_aload_n hx hb dL_law_684 rfl (lv_at hl 2 rfl) ?_
  refine lv_aload_n hx hb dL_law_685 rfl (lv_at hl 3 rfl) ?_
  refine lv_iload_n hx hb dL_law_686 rfl (lv_at hl 0 rfl) ?_
  refine lv_iconst (v := nI 1) hx hb dL_law_687 (by decide) ?_
  refine sn_iadd hx hb dL_law_688 ?_
  refine lw_ld (k := k + 1) hx hb hX hsl hbs hM.2 (by omega) hL dL_law_689 ?_
  refine lv_aload_n hx hb dL_law_690 rfl (lv_at hl 3 rfl) ?_
  refine lv_iload_n hx hb dL_law_691 rfl (lv_at hl 0 rfl) ?_
  refine lv_iconst (v := nI 2) hx hb dL_law_692 (by decide) ?_
  refine sn_iadd hx hb dL_law_693 ?_
  refine lw_ld (k := k + 2) hx hb hX hsl hbs hM.2 (by omega) hL dL_law_694 ?_
  refine sg_ci (sg_runV (d := 5) (As := [.int (xs (k + 1)), .int (xs (k + 2))]) (rest := []) hx hb hml hts hown hK hM (x_decided l G b σ w hI (xs (k + 1)) (xs (k + 2))) mi_X10_decided wl_L_89 (sh0 kc_0) (kd_lt kc_0 (by decide)) rfl rfl rfl hl.1 rfl (Nat.le_of_ble_eq_true rfl) dL_law_695 ⟨by decide, by decide⟩ ⟨Nat.le_of_succ_le hcl, Nat.le_of_succ_le hsl2⟩) hM sgB (fun r1 σ1 H locs hp1 hM => ?_)
  obtain ⟨hr1, hI1, hf1⟩ := hp1
  have hJ1 := hJ.keepC hf1
  refine lv_aload_n hx hb dL_law_698 rfl (lv_at hl 1 rfl) ?_
  refine lv_aload_n hx hb dL_law_699 rfl (lv_at hl 3 rfl) ?_
  refine lv_iload_n hx hb dL_law_700 rfl (lv_at hl 0 rfl) ?_
  refine lv_iconst (v := nI 1) hx hb dL_law_701 (by decide) ?_
  refine sn_iadd hx hb dL_law_702 ?_
  refine lw_ld (k := k + 1) hx hb hX hsl hbs hM.2 (by omega) hL dL_law_703 ?_
  refine lv_aload_n hx hb dL_law_704 rfl (lv_at hl 3 rfl) ?_
  refine lv_iload_n hx hb dL_law_705 rfl (lv_at hl 0 rfl) ?_
  refine lv_iconst (v := nI 2) hx hb dL_law_706 (by decide) ?_
  refine sn_iadd hx hb dL_law_707 ?_
  refine lw_ld (k := k + 2) hx hb hX hsl hbs hM.2 (by omega) hL dL_law_708 ?_
  refine sg_ci (sg_runV (d := 5) (As := [.int (xs (k + 1)), .int (xs (k + 2))]) (rest := [.int r1]) hx hb hml hts hown hK hM (y_decided l G b σ1 w hJ1 (xs (k + 1)) (xs (k + 2))) mi_X11_decided wl_L_92 (sh18 kc_131) (kd_lt kc_131 (by decide)) rfl rfl rfl hl.1 rfl (Nat.le_of_ble_eq_true rfl) dL_law_709 ⟨by decide, by decide⟩ ⟨Nat.le_of_succ_le hcl, Nat.le_of_succ_le hsl2⟩) hM sgB (fun r2 σ2 H locs hp2 hM => ?_)
  obtain ⟨hr2, hJ2, hf2⟩ := hp2
  have hI2 := ICw.keepR hI1 hf2
  refine lv_icmp_eq (tgt := 799) hx hb dL_law_712 (by decide) (fun _ => ?_) (fun cq => absurd (hr1.trans hr2.symm) cq)
  refine W.widen (k := cells + 1) (n := slots + 1) (Nat.le_succ _) (Nat.le_succ _) ?_
  exact kk σ2 _ _ _ hI2 hJ2 hM
set_option maxHeartbeats 4000000 in
theorem lc_cost {p : Program} {l : Launch} {e : Env} {s : State} {m : MethodId} {args : Array Value} {below : List Frame} {meth : Method} {c : Code} {H : Heap} {locs : List Loc} {cells slots : Nat} {Q : State → Prop} {ls : Array Slot} {G : GT} {sa b L k : Nat} {xs : Nat → Int32} {σ : Mem} {w : World} (hLA : LA p s m args c G sa b L xs) (hk : k + 4 ≤ L) (hcl : cells + 1 ≤ 600000) (hsl2 : slots + 1 ≤ 7302250) (hI : ICw σ w) (hJ : IRw σ w) (hM : St G (Fb b) b σ s H locs) (hl : lv_has ls 4 [(3, .int (nI k)), (2, .ref (b + 131)), (1, .ref (b + 0)), (0, .ref sa)])
    (kk : ∀ (σ' : Mem) (w' : World) (H1 : Heap) (locs1 : List Loc), ICw σ' w' → IRw σ' w' → St G (Fb b) b σ' s H1 locs1 → W p l e room_1 s m args below meth c H1 locs1 (cells + 1) (slots + 1) Q (F0 m 799 ls [])) : W p l e room_1 s m args below meth c H locs cells slots Q (F0 m 717 ls []) := by
  obtain ⟨hx, hb, hml, hown, hts, hK, hX, hsl, hbs, hL⟩ := hLA
  refine lv_aload_n hx hb dL_law_717 rfl (lv_at hl 2 rfl) ?_
  refine sg_ci (sg_runV (d := 2) (As := []) (rest := []) hx hb hml hts hown hK hM (x_cost l G b σ w hI ) mi_X10_cost wl_L_93 (sh0 kc_0) (kd_lt kc_0 (by decide)) rfl rfl rfl hl.1 rfl (Nat.le_of_ble_eq_true rfl) dL_law_718 ⟨by decide, by decide⟩ ⟨Nat.le_of_succ_le hcl, Nat.le_of_succ_le hsl2⟩) hM sgB (fun r1 σ1 H locs hp1 hM => ?_)
  obtain ⟨hr1, hI1, hf1⟩ := hp1
  have hJ1 := hJ.keepC hf1
  refine lv_aload_n hx hb dL_law_721 rfl (lv_at hl 1 rfl) ?_
  refine sg_ci (sg_runV (d := 3) (As := []) (rest := [.int r1]) hx hb hml hts hown hK hM (y_cost l G b σ1 w hJ1 ) mi_X11_cost wl_L_96 (sh18 kc_131) (kd_lt kc_131 (by decide)) rfl rfl rfl hl.1 rfl (Nat.le_of_ble_eq_true rfl) dL_law_722 ⟨by decide, by decide⟩ ⟨Nat.le_of_succ_le hcl, Nat.le_of_succ_le hsl2⟩) hM sgB (fun r2 σ2 H locs hp2 hM => ?_)
  obtain ⟨hr2, hJ2, hf2⟩ := hp2
  have hI2 := ICw.keepR hI1 hf2
  refine lv_icmp_eq (tgt := 799) hx hb dL_law_725 (by decide) (fun _ => ?_) (fun cq => absurd (hr1.trans hr2.symm) cq)
  refine W.widen (k := cells + 1) (n := slots + 1) (Nat.le_succ _) (Nat.le_succ _) ?_
  exact kk σ2 _ _ _ hI2 hJ2 hM
set_option maxHeartbeats 4000000 in
theorem lc_sign {p : Program} {l : Launch} {e : Env} {s : State} {m : MethodId} {args : Array Value} {below : List Frame} {meth : Method} {c : Code} {H : Heap} {locs : List Loc} {cells slots : Nat} {Q : State → Prop} {ls : Array Slot} {G : GT} {sa b L k : Nat} {xs : Nat → Int32} {σ : Mem} {w : World} (hLA : LA p s m args c G sa b L xs) (hk : k + 4 ≤ L) (hcl : cells + 1 ≤ 600000) (hsl2 : slots + 1 ≤ 7302250) (hI : ICw σ w) (hJ : IRw σ w) (hM : St G (Fb b) b σ s H locs) (hl : lv_has ls 4 [(3, .int (nI k)), (2, .ref (b + 131)), (1, .ref (b + 0)), (0, .ref sa)])
    (kk : ∀ (σ' : Mem) (w' : World) (H1 : Heap) (locs1 : List Loc), ICw σ' w' → IRw σ' w' → St G (Fb b) b σ' s H1 locs1 → W p l e room_1 s m args below meth c H1 locs1 (cells + 1) (slots + 1) Q (F0 m 799 ls [])) : W p l e room_1 s m args below meth c H locs cells slots Q (F0 m 730 ls []) := by
  obtain ⟨hx, hb, hml, hown, hts, hK, hX, hsl, hbs, hL⟩ := hLA
  refine lv_aload_n hx hb dL_law_730 rfl (lv_at hl 2 rfl) ?_
  refine lv_aload_n hx hb dL_law_731 rfl (lv_at hl 3 rfl) ?_
  refine lv_iload_n hx hb dL_law_732 rfl (lv_at hl 0 rfl) ?_
  refine lv_iconst (v := nI 1) hx hb dL_law_733 (by decide) ?_
  refine sn_iadd hx hb dL_law_734 ?_
  refine lw_ld (k := k + 1) hx hb hX hsl hbs hM.2 (by omega) hL dL_law_735 ?_
  refine sg_ci (sg_runV (d := 6) (As := [.int (xs (k + 1))]) (rest := []) hx hb hml hts hown hK hM (x_sign l G b σ w hI (xs (k + 1))) mi_X10_sign wl_L_97 (sh0 kc_0) (kd_lt kc_0 (by decide)) rfl rfl rfl hl.1 rfl (Nat.le_of_ble_eq_true rfl) dL_law_736 ⟨by decide, by decide⟩ ⟨Nat.le_of_succ_le hcl, Nat.le_of_succ_le hsl2⟩) hM sgB (fun r1 σ1 H locs hp1 hM => ?_)
  obtain ⟨hr1, hI1, hf1⟩ := hp1
  have hJ1 := hJ.keepC hf1
  refine lv_aload_n hx hb dL_law_739 rfl (lv_at hl 1 rfl) ?_
  refine lv_aload_n hx hb dL_law_740 rfl (lv_at hl 3 rfl) ?_
  refine lv_iload_n hx hb dL_law_741 rfl (lv_at hl 0 rfl) ?_
  refine lv_iconst (v := nI 1) hx hb dL_law_742 (by decide) ?_
  refine sn_iadd hx hb dL_law_743 ?_
  refine lw_ld (k := k + 1) hx hb hX hsl hbs hM.2 (by omega) hL dL_law_744 ?_
  refine sg_ci (sg_runV (d := 6) (As := [.int (xs (k + 1))]) (rest := [.int r1]) hx hb hml hts hown hK hM (y_sign l G b σ1 w hJ1 (xs (k + 1))) mi_X11_sign wl_L_100 (sh18 kc_131) (kd_lt kc_131 (by decide)) rfl rfl rfl hl.1 rfl (Nat.le_of_ble_eq_true rfl) dL_law_745 ⟨by decide, by decide⟩ ⟨Nat.le_of_succ_le hcl, Nat.le_of_succ_le hsl2⟩) hM sgB (fun r2 σ2 H locs hp2 hM => ?_)
  obtain ⟨hr2, hJ2, hf2⟩ := hp2
  have hI2 := ICw.keepR hI1 hf2
  refine lv_icmp_eq (tgt := 799) hx hb dL_law_748 (by decide) (fun _ => ?_) (fun cq => absurd (hr1.trans hr2.symm) cq)
  refine W.widen (k := cells + 1) (n := slots + 1) (Nat.le_succ _) (Nat.le_succ _) ?_
  exact kk σ2 _ _ _ hI2 hJ2 hM
set_option maxHeartbeats 4000000 in
theorem lc_keep {p : Program} {l : Launch} {e : Env} {s : State} {m : MethodId} {args : Array Value} {below : List Frame} {meth : Method} {c : Code} {H : Heap} {locs : List Loc} {cells slots : Nat} {Q : State → Prop} {ls : Array Slot} {G : GT} {sa b L k : Nat} {xs : Nat → Int32} {σ : Mem} {w : World} (hLA : LA p s m args c G sa b L xs) (hk : k + 4 ≤ L) (hcl : cells + 1 ≤ 600000) (hsl2 : slots + 1 ≤ 7302250) (hI : ICw σ w) (hJ : IRw σ w) (hM : St G (Fb b) b σ s H locs) (hl : lv_has ls 4 [(3, .int (nI k)), (2, .ref (b + 131)), (1, .ref (b + 0)), (0, .ref sa)])
    (kk : ∀ (σ' : Mem) (w' : World) (H1 : Heap) (locs1 : List Loc), ICw σ' w' → IRw σ' w' → St G (Fb b) b σ' s H1 locs1 → W p l e room_1 s m args below meth c H1 locs1 (cells + 1) (slots + 1) Q (F0 m 799 ls [])) : W p l e room_1 s m args below meth c H locs cells slots Q (F0 m 753 ls []) := by
  obtain ⟨hx, hb, hml, hown, hts, hK, hX, hsl, hbs, hL⟩ := hLA
  refine lv_aload_n hx hb dL_law_753 rfl (lv_at hl 2 rfl) ?_
  refine lv_aload_n hx hb dL_law_754 rfl (lv_at hl 3 rfl) ?_
  refine lv_iload_n hx hb dL_law_755 rfl (lv_at hl 0 rfl) ?_
  refine lv_iconst (v := nI 1) hx hb dL_law_756 (by decide) ?_
  refine sn_iadd hx hb dL_law_757 ?_
  refine lw_ld (k := k + 1) hx hb hX hsl hbs hM.2 (by omega) hL dL_law_758 ?_
  refine sg_ci (sg_runV (d := 3) (As := [.int (xs (k + 1))]) (rest := []) hx hb hml hts hown hK hM (x_keep l G b σ w hI (xs (k + 1))) mi_X10_keep wl_L_101 (sh0 kc_0) (kd_lt kc_0 (by decide)) rfl rfl rfl hl.1 rfl (Nat.le_of_ble_eq_true rfl) dL_law_759 ⟨by decide, by decide⟩ ⟨Nat.le_of_succ_le hcl, Nat.le_of_succ_le hsl2⟩) hM sgB (fun r1 σ1 H locs hp1 hM => ?_)
  obtain ⟨hr1, hI1, hf1⟩ := hp1
  have hJ1 := hJ.keepC hf1
  refine lv_aload_n hx hb dL_law_762 rfl (lv_at hl 1 rfl) ?_
  refine lv_aload_n hx hb dL_law_763 rfl (lv_at hl 3 rfl) ?_
  refine lv_iload_n hx hb dL_law_764 rfl (lv_at hl 0 rfl) ?_
  refine lv_iconst (v := nI 1) hx hb dL_law_765 (by decide) ?_
  refine sn_iadd hx hb dL_law_766 ?_
  refine lw_ld (k := k + 1) hx hb hX hsl hbs hM.2 (by omega) hL dL_law_767 ?_
  refine sg_ci (sg_runV (d := 1) (As := [.int (xs (k + 1))]) (rest := [.int r1]) hx hb hml hts hown hK hM (y_keep l G b σ1 w hJ1 (xs (k + 1))) mi_X11_keep wl_L_104 (sh18 kc_131) (kd_lt kc_131 (by decide)) rfl rfl rfl hl.1 rfl (Nat.le_of_ble_eq_true rfl) dL_law_768 ⟨by decide, by decide⟩ ⟨Nat.le_of_succ_le hcl, Nat.le_of_succ_le hsl2⟩) hM sgB (fun r2 σ2 H locs hp2 hM => ?_)
  obtain ⟨hr2, hJ2, hf2⟩ := hp2
  have hI2 := ICw.keepR hI1 hf2
  refine lv_icmp_eq (tgt := 799) hx hb dL_law_771 (by decide) (fun _ => ?_) (fun cq => absurd (hr1.trans hr2.symm) cq)
  refine W.widen (k := cells + 1) (n := slots + 1) (Nat.le_succ _) (Nat.le_succ _) ?_
  exact kk σ2 _ _ _ hI2 hJ2 hM
set_option maxHeartbeats 4000000 in
theorem lc_goBack {p : Program} {l : Launch} {e : Env} {s : State} {m : MethodId} {args : Array Value} {below : List Frame} {meth : Method} {c : Code} {H : Heap} {locs : List Loc} {cells slots : Nat} {Q : State → Prop} {ls : Array Slot} {G : GT} {sa b L k : Nat} {xs : Nat → Int32} {σ : Mem} {w : World} (hLA : LA p s m args c G sa b L xs) (hk : k + 4 ≤ L) (hcl : cells + 1 ≤ 600000) (hsl2 : slots + 1 ≤ 7302250) (hI : ICw σ w) (hJ : IRw σ w) (hM : St G (Fb b) b σ s H locs) (hl : lv_has ls 4 [(3, .int (nI k)), (2, .ref (b + 131)), (1, .ref (b + 0)), (0, .ref sa)])
    (kk : ∀ (σ' : Mem) (w' : World) (H1 : Heap) (locs1 : List Loc), ICw σ' w' → IRw σ' w' → St G (Fb b) b σ' s H1 locs1 → W p l e room_1 s m args below meth c H1 locs1 (cells + 1) (slots + 1) Q (F0 m 799 ls [])) : W p l e room_1 s m args below meth c H locs cells slots Q (F0 m 776 ls []) := by
  obtain ⟨hx, hb, hml, hown, hts, hK, hX, hsl, hbs, hL⟩ := hLA
  refine lv_aload_n hx hb dL_law_776 rfl (lv_at hl 2 rfl) ?_
  refine lv_aload_n hx hb dL_law_777 rfl (lv_at hl 3 rfl) ?_
  refine lv_iload_n hx hb dL_law_778 rfl (lv_at hl 0 rfl) ?_
  refine lv_iconst (v := nI 1) hx hb dL_law_779 (by decide) ?_
  refine sn_iadd hx hb dL_law_780 ?_
  refine lw_ld (k := k + 1) hx hb hX hsl hbs hM.2 (by omega) hL dL_law_781 ?_
  refine sg_ci (sg_runV (d := 3) (As := [.int (xs (k + 1))]) (rest := []) hx hb hml hts hown hK hM (x_goBack l G b σ w hI (xs (k + 1))) mi_X10_goBack wl_L_105 (sh0 kc_0) (kd_lt kc_0 (by decide)) rfl rfl rfl hl.1 rfl (Nat.le_of_ble_eq_true rfl) dL_law_782 ⟨by decide, by decide⟩ ⟨Nat.le_of_succ_le hcl, Nat.le_of_succ_le hsl2⟩) hM sgB (fun r1 σ1 H locs hp1 hM => ?_)
  obtain ⟨hr1, hI1, hf1⟩ := hp1
  have hJ1 := hJ.keepC hf1
  refine lv_aload_n hx hb dL_law_785 rfl (lv_at hl 1 rfl) ?_
  refine lv_aload_n hx hb dL_law_786 rfl (lv_at hl 3 rfl) ?_
  refine lv_iload_n hx hb dL_law_787 rfl (lv_at hl 0 rfl) ?_
  refine lv_iconst (v := nI 1) hx hb dL_law_788 (by decide) ?_
  refine sn_iadd hx hb dL_law_789 ?_
  refine lw_ld (k := k + 1) hx hb hX hsl hbs hM.2 (by omega) hL dL_law_790 ?_
  refine sg_ci (sg_runV (d := 1) (As := [.int (xs (k + 1))]) (rest := [.int r1]) hx hb hml hts hown hK hM (y_goBack l G b σ1 w hJ1 (xs (k + 1))) mi_X11_goBack wl_L_108 (sh18 kc_131) (kd_lt kc_131 (by decide)) rfl rfl rfl hl.1 rfl (Nat.le_of_ble_eq_true rfl) dL_law_791 ⟨by decide, by decide⟩ ⟨Nat.le_of_succ_le hcl, Nat.le_of_succ_le hsl2⟩) hM sgB (fun r2 σ2 H locs hp2 hM => ?_)
  obtain ⟨hr2, hJ2, hf2⟩ := hp2
  have hI2 := ICw.keepR hI1 hf2
  refine lv_icmp_eq (tgt := 799) hx hb dL_law_794 (by decide) (fun _ => ?_) (fun cq => absurd (hr1.trans hr2.symm) cq)
  refine W.widen (k := cells + 1) (n := slots + 1) (Nat.le_succ _) (Nat.le_succ _) ?_
  exact kk σ2 _ _ _ hI2 hJ2 hM

set_option maxHeartbeats 4000000 in
set_option maxRecDepth 100000 in
theorem c_bitCount (l : Launch) (G : GT) (b : Nat) (σ : Mem) (n : Nat) (hn : n < 16) : KI l G b yJ6_bitCount_0f7a4 cJ6_bitCount_0f7a4 1 0 σ [.int (nI n)] (fun r σ' => r = nI (pc1 n) ∧ σ' = σ) := by
  refine sg_metI [.int (nI n)] (by decide) (Nat.le_of_ble_eq_true rfl) ?_
  intro vp ve vs vm args below meth vc ls Q hx hb hml hown hts hK hM hl hret
  have hl : lv_has ls 1 [(0, .int (nI n))] := hl
  refine lv_iload_n hx hb dJ6_bitCount_0f7a4_0 rfl (lv_at hl 0 rfl) ?_
  refine lv_iload_n hx hb dJ6_bitCount_0f7a4_1 rfl (lv_at hl 0 rfl) ?_
  refine lv_iconst (v := nI 1) hx hb dJ6_bitCount_0f7a4_2 (by decide) ?_
  refine lv_iushr hx hb dJ6_bitCount_0f7a4_3 rfl ?_
  refine lv_ldcw (v := nI 1431655765) hx hb hown (hts (Cond.constant RJ6 265 (nI 1431655765)) wk_J6_265) dJ6_bitCount_0f7a4_4 ?_
  refine lv_iand hx hb dJ6_bitCount_0f7a4_7 ?_
  refine lv_isub hx hb dJ6_bitCount_0f7a4_8 ?_
  refine lv_topi (fun x1 e_x1 => ?_)
  refine lv_istore_n (lv' := [(0, .int x1)]) hx hb dJ6_bitCount_0f7a4_9 rfl hl (by decide) rfl (fun ls hl => ?_)
  refine lv_iload_n hx hb dJ6_bitCount_0f7a4_10 rfl (lv_at hl 0 rfl) ?_
  refine lv_ldcw (v := nI 858993459) hx hb hown (hts (Cond.constant RJ6 266 (nI 858993459)) wk_J6_266) dJ6_bitCount_0f7a4_11 ?_
  refine lv_iand hx hb dJ6_bitCount_0f7a4_14 ?_
  refine lv_iload_n hx hb dJ6_bitCount_0f7a4_15 rfl (lv_at hl 0 rfl) ?_
  refine lv_iconst (v := nI 2) hx hb dJ6_bitCount_0f7a4_16 (by decide) ?_
  refine lv_iushr hx hb dJ6_bitCount_0f7a4_17 rfl ?_
  refine lv_ldcw (v := nI 858993459) hx hb hown (hts (Cond.constant RJ6 266 (nI 858993459)) wk_J6_266) dJ6_bitCount_0f7a4_18 ?_
  refine lv_iand hx hb dJ6_bitCount_0f7a4_21 ?_
  refine lv_iadd hx hb dJ6_bitCount_0f7a4_22 ?_
  refine lv_topi (fun x2 e_x2 => ?_)
  refine lv_istore_n (lv' := [(0, .int x2)]) hx hb dJ6_bitCount_0f7a4_23 rfl hl (by decide) rfl (fun ls hl => ?_)
  refine lv_iload_n hx hb dJ6_bitCount_0f7a4_24 rfl (lv_at hl 0 rfl) ?_
  refine lv_iload_n hx hb dJ6_bitCount_0f7a4_25 rfl (lv_at hl 0 rfl) ?_
  refine lv_iconst (v := nI 4) hx hb dJ6_bitCount_0f7a4_26 (by decide) ?_
  refine lv_iushr hx hb dJ6_bitCount_0f7a4_27 rfl ?_
  refine lv_iadd hx hb dJ6_bitCount_0f7a4_28 ?_
  refine lv_ldcw (v := nI 252645135) hx hb hown (hts (Cond.constant RJ6 267 (nI 252645135)) wk_J6_267) dJ6_bitCount_0f7a4_29 ?_
  refine lv_iand hx hb dJ6_bitCount_0f7a4_32 ?_
  refine lv_topi (fun x3 e_x3 => ?_)
  refine lv_istore_n (lv' := [(0, .int x3)]) hx hb dJ6_bitCount_0f7a4_33 rfl hl (by decide) rfl (fun ls hl => ?_)
  refine lv_iload_n hx hb dJ6_bitCount_0f7a4_34 rfl (lv_at hl 0 rfl) ?_
  refine lv_iload_n hx hb dJ6_bitCount_0f7a4_35 rfl (lv_at hl 0 rfl) ?_
  refine lv_bipush (v := nI 8) hx hb dJ6_bitCount_0f7a4_36 (by decide) ?_
  refine lv_iushr hx hb dJ6_bitCount_0f7a4_38 rfl ?_
  refine lv_iadd hx hb dJ6_bitCount_0f7a4_39 ?_
  refine lv_topi (fun x4 e_x4 => ?_)
  refine lv_istore_n (lv' := [(0, .int x4)]) hx hb dJ6_bitCount_0f7a4_40 rfl hl (by decide) rfl (fun ls hl => ?_)
  refine lv_iload_n hx hb dJ6_bitCount_0f7a4_41 rfl (lv_at hl 0 rfl) ?_
  refine lv_iload_n hx hb dJ6_bitCount_0f7a4_42 rfl (lv_at hl 0 rfl) ?_
  refine lv_bipush (v := nI 16) hx hb dJ6_bitCount_0f7a4_43 (by decide) ?_
  refine lv_iushr hx hb dJ6_bitCount_0f7a4_45 rfl ?_
  refine lv_iadd hx hb dJ6_bitCount_0f7a4_46 ?_
  refine lv_topi (fun x5 e_x5 => ?_)
  refine lv_istore_n (lv' := [(0, .int x5)]) hx hb dJ6_bitCount_0f7a4_47 rfl hl (by decide) rfl (fun ls hl => ?_)
  refine lv_iload_n hx hb dJ6_bitCount_0f7a4_48 rfl (lv_at hl 0 rfl) ?_
  refine lv_bipush (v := nI 63) hx hb dJ6_bitCount_0f7a4_49 (by decide) ?_
  refine lv_iand hx hb dJ6_bitCount_0f7a4_51 ?_
  exact hret _ _ _ _ _ _ dJ6_bitCount_0f7a4_52 hM (by subst e_x5 e_x4 e_x3 e_x2 e_x1; exact ⟨bcI_ok n hn, rfl⟩)
set_option maxHeartbeats 4000000 in
set_option maxRecDepth 100000 in
theorem c_g_xOf (l : Launch) (G : GT) (b : Nat) (σ : Mem) (q : Nat) (hq : q < 16) : KI l G b yX1_xOf cX1_xOf 1 0 σ [.int (nI q)] (fun r σ' => r = gx q ∧ σ' = σ) := by
  refine sg_metI [.int (nI q)] (by decide) (Nat.le_of_ble_eq_true rfl) ?_
  intro vp ve vs vm args below meth vc ls Q hx hb hml hown hts hK hM hl hret
  have hl : lv_has ls 1 [(0, .int (nI q))] := hl
  refine lv_bipush (v := nI 20) hx hb dX1_xOf_0 (by decide) ?_
  refine lv_iload_n hx hb dX1_xOf_2 rfl (lv_at hl 0 rfl) ?_
  refine lv_iconst (v := nI 4) hx hb dX1_xOf_3 (by decide) ?_
  refine sn_idiv hx hb dX1_xOf_4 (by omega) (by omega) (by omega) ?_
  refine sn_imul hx hb dX1_xOf_5 ?_
  refine lv_bipush (v := nI 30) hx hb dX1_xOf_6 (by decide) ?_
  refine lv_isub hx hb dX1_xOf_8 ?_
  exact hret _ _ _ _ _ _ dX1_xOf_9 hM (⟨rfl, rfl⟩)
set_option maxHeartbeats 4000000 in
set_option maxRecDepth 100000 in
theorem c_g_yOf (l : Launch) (G : GT) (b : Nat) (σ : Mem) (q : Nat) (hq : q < 16) : KI l G b yX1_yOf cX1_yOf 1 0 σ [.int (nI q)] (fun r σ' => r = gy q ∧ σ' = σ) := by
  refine sg_metI [.int (nI q)] (by decide) (Nat.le_of_ble_eq_true rfl) ?_
  intro vp ve vs vm args below meth vc ls Q hx hb hml hown hts hK hM hl hret
  have hl : lv_has ls 1 [(0, .int (nI q))] := hl
  refine lv_bipush (v := nI 20) hx hb dX1_yOf_0 (by decide) ?_
  refine lv_iload_n hx hb dX1_yOf_2 rfl (lv_at hl 0 rfl) ?_
  refine lv_iconst (v := nI 4) hx hb dX1_yOf_3 (by decide) ?_
  refine sn_irem hx hb dX1_yOf_4 (by omega) (by omega) (by omega) ?_
  refine sn_imul hx hb dX1_yOf_5 ?_
  refine lv_bipush (v := nI 30) hx hb dX1_yOf_6 (by decide) ?_
  refine lv_isub hx hb dX1_yOf_8 ?_
  exact hret _ _ _ _ _ _ dX1_yOf_9 hM (⟨rfl, rfl⟩)
set_option maxHeartbeats 4000000 in
set_option maxRecDepth 100000 in
theorem c_g_familyOf (l : Launch) (G : GT) (b : Nat) (σ : Mem) (q : Nat) (hq : q < 16) : KI l G b yX1_familyOf cX1_familyOf 3 0 σ [.int (nI q)] (fun r σ' => r = nI (gf q) ∧ σ' = σ) := by
  refine sg_metI [.int (nI q)] (by decide) (Nat.le_of_ble_eq_true rfl) ?_
  intro vp ve vs vm args below meth vc ls Q hx hb hml hown hts hK hM hl hret
  have hl : lv_has ls 3 [(0, .int (nI q))] := hl
  refine lv_iload_n hx hb dX1_familyOf_0 rfl (lv_at hl 0 rfl) ?_
  refine lv_iconst (v := nI 4) hx hb dX1_familyOf_1 (by decide) ?_
  refine sn_idiv hx hb dX1_familyOf_2 (by omega) (by omega) (by omega) ?_
  refine lv_istore_n (lv' := [(1, .int (nI (q / 4))), (0, .int (nI q))]) hx hb dX1_familyOf_3 rfl hl (by decide) rfl (fun ls hl => ?_)
  refine lv_iload_n hx hb dX1_familyOf_4 rfl (lv_at hl 1 rfl) ?_
  refine lv_iconst (v := nI 4) hx hb dX1_familyOf_5 (by decide) ?_
  refine sn_irem hx hb dX1_familyOf_6 (by omega) (by omega) (by omega) ?_
  refine lv_istore_n (lv' := [(2, .int (nI (q % 4))), (1, .int (nI (q / 4))), (0, .int (nI q))]) hx hb dX1_familyOf_7 rfl hl (by decide) rfl (fun ls hl => ?_)
  refine lv_iconst (v := nI 2) hx hb dX1_familyOf_8 (by decide) ?_
  refine lv_iload_n hx hb dX1_familyOf_9 rfl (lv_at hl 1 rfl) ?_
  refine lv_iload_n hx hb dX1_familyOf_10 rfl (lv_at hl 0 rfl) ?_
  refine sn_iadd hx hb dX1_familyOf_11 ?_
  refine lv_iconst (v := nI 2) hx hb dX1_familyOf_12 (by decide) ?_
  refine sn_irem hx hb dX1_familyOf_13 (by omega) (by omega) (by omega) ?_
  refine sn_imul hx hb dX1_familyOf_14 ?_
  refine lv_iload_n hx hb dX1_familyOf_15 rfl (lv_at hl 0 rfl) ?_
  refine lv_iconst (v := nI 2) hx hb dX1_familyOf_16 (by decide) ?_
  refine sn_irem hx hb dX1_familyOf_17 (by omega) (by omega) (by omega) ?_
  refine sn_iadd hx hb dX1_familyOf_18 ?_
  exact hret _ _ _ _ _ _ dX1_familyOf_19 hM (⟨rfl, rfl⟩)
set_option maxHeartbeats 4000000 in
set_option maxRecDepth 100000 in
theorem c_g_turn (l : Launch) (G : GT) (b : Nat) (σ : Mem) (q : Nat) (hq : q < 16) : KI l G b yX1_turnOf cX1_turnOf 1 0 σ [.int (nI q)] (fun r σ' => r = nI (tn q) ∧ σ' = σ) := by
  refine sg_metI [.int (nI q)] (by decide) (Nat.le_of_ble_eq_true rfl) ?_
  intro vp ve vs vm args below meth vc ls Q hx hb hml hown hts hK hM hl hret
  have hl : lv_has ls 1 [(0, .int (nI q))] := hl
  refine lv_iconst (v := nI 4) hx hb dX1_turnOf_0 (by decide) ?_
  refine lv_iconst (v := nI 3) hx hb dX1_turnOf_1 (by decide) ?_
  refine lv_iload_n hx hb dX1_turnOf_2 rfl (lv_at hl 0 rfl) ?_
  refine lv_iconst (v := nI 4) hx hb dX1_turnOf_3 (by decide) ?_
  refine sn_irem hx hb dX1_turnOf_4 (by omega) (by omega) (by omega) ?_
  refine sn_isub hx hb dX1_turnOf_5 (by omega) ?_
  refine sn_imul hx hb dX1_turnOf_6 ?_
  refine lv_iload_n hx hb dX1_turnOf_7 rfl (lv_at hl 0 rfl) ?_
  refine lv_iconst (v := nI 4) hx hb dX1_turnOf_8 (by decide) ?_
  refine sn_idiv hx hb dX1_turnOf_9 (by omega) (by omega) (by omega) ?_
  refine sn_iadd hx hb dX1_turnOf_10 ?_
  exact hret _ _ _ _ _ _ dX1_turnOf_11 hM (⟨rfl, rfl⟩)
set_option maxHeartbeats 4000000 in
set_option maxRecDepth 100000 in
theorem c_g_far (l : Launch) (G : GT) (b : Nat) (σ : Mem) (q : Nat) (x y : Int32) (hq : q < 16) : KI l G b yX1_farFrom cX1_farFrom 5 1 σ [.int (nI q), .int x, .int y] (fun r σ' => r = far q x y ∧ σ' = σ) := by
  refine sg_metI [.int (nI q), .int x, .int y] (by decide) (Nat.le_of_ble_eq_true rfl) ?_
  intro vp ve vs vm args below meth vc ls Q hx hb hml hown hts hK hM hl hret
  have hl : lv_has ls 5 [(0, .int (nI q)), (1, .int x), (2, .int y)] := hl
  refine lv_iload_n hx hb dX1_farFrom_0 rfl (lv_at hl 0 rfl) ?_
  refine sg_ci (sg_runS (d := 0) (As := [.int (nI q)]) (rest := []) hx hb hml hts hown hK hM (c_g_xOf l G b σ q (by first | omega | exact fam_lt _ _ _ _ _ | exact gf_lt _ | exact tf_lt _ | exact pt_lt (by first | omega | exact fam_lt _ _ _ _ _) (by omega) | exact tn_lt (by first | omega | exact pt_lt (by omega) (by omega)))) mi_X1_xOf wl_X1_22 rfl hl.1 rfl (Nat.le_of_ble_eq_true rfl) dX1_farFrom_1 ⟨by decide, by decide⟩ ⟨Nat.le_refl 0, Nat.le_refl 0⟩) hM sgA (fun r_1 σ_1 H locs hp_1 hM => ?_)
  obtain ⟨hr_1, hs_1⟩ := hp_1; subst r_1; subst σ_1
  refine lv_iload_n hx hb dX1_farFrom_4 rfl (lv_at hl 1 rfl) ?_
  refine lv_isub hx hb dX1_farFrom_5 ?_
  refine lv_istore_n (lv' := [(3, .int ((gx q) - x)), (0, .int (nI q)), (1, .int x), (2, .int y)]) hx hb dX1_farFrom_6 rfl hl (by decide) rfl (fun ls hl => ?_)
  refine lv_iload_n hx hb dX1_farFrom_7 rfl (lv_at hl 1 rfl) ?_
  refine sg_ci (sg_runS (d := 0) (As := [.int (nI q)]) (rest := []) hx hb hml hts hown hK hM (c_g_yOf l G b σ q (by first | omega | exact fam_lt _ _ _ _ _ | exact gf_lt _ | exact tf_lt _ | exact pt_lt (by first | omega | exact fam_lt _ _ _ _ _) (by omega) | exact tn_lt (by first | omega | exact pt_lt (by omega) (by omega)))) mi_X1_yOf wl_X1_25 rfl hl.1 rfl (Nat.le_of_ble_eq_true rfl) dX1_farFrom_8 ⟨by decide, by decide⟩ ⟨Nat.le_refl 0, Nat.le_refl 0⟩) hM sgA (fun r_8 σ_8 H locs hp_8 hM => ?_)
  obtain ⟨hr_8, hs_8⟩ := hp_8; subst r_8; subst σ_8
  refine lv_iload_n hx hb dX1_farFrom_11 rfl (lv_at hl 3 rfl) ?_
  refine lv_isub hx hb dX1_farFrom_12 ?_
  refine lv_istore (lv' := [(4, .int ((gy q) - y)), (3, .int ((gx q) - x)), (0, .int (nI q)), (1, .int x), (2, .int y)]) hx hb dX1_farFrom_13 hl (by decide) rfl (fun ls hl => ?_)
  refine lv_iload_n hx hb dX1_farFrom_15 rfl (lv_at hl 1 rfl) ?_
  refine lv_iload_n hx hb dX1_farFrom_16 rfl (lv_at hl 1 rfl) ?_
  refine lv_imul hx hb dX1_farFrom_17 ?_
  refine lv_iload hx hb dX1_farFrom_18 (lv_at hl 0 rfl) ?_
  refine lv_iload hx hb dX1_farFrom_20 (lv_at hl 0 rfl) ?_
  refine lv_imul hx hb dX1_farFrom_22 ?_
  refine lv_iadd hx hb dX1_farFrom_23 ?_
  exact hret _ _ _ _ _ _ dX1_farFrom_24 hM (⟨rfl, rfl⟩)
set_option maxHeartbeats 4000000 in
set_option maxRecDepth 100000 in
theorem c_m_xOf (l : Launch) (G : GT) (b : Nat) (σ : Mem) (q : Nat) (hq : q < 16) : KI l G b yX11_xOf cX11_xOf 1 0 σ [.int (nI q)] (fun r σ' => r = gx q ∧ σ' = σ) := by
  refine sg_metI [.int (nI q)] (by decide) (Nat.le_of_ble_eq_true rfl) ?_
  intro vp ve vs vm args below meth vc ls Q hx hb hml hown hts hK hM hl hret
  have hl : lv_has ls 1 [(0, .int (nI q))] := hl
  refine lv_bipush (v := nI 20) hx hb dX11_xOf_0 (by decide) ?_
  refine lv_iload_n hx hb dX11_xOf_2 rfl (lv_at hl 0 rfl) ?_
  refine lv_iconst (v := nI 4) hx hb dX11_xOf_3 (by decide) ?_
  refine sn_idiv hx hb dX11_xOf_4 (by omega) (by omega) (by omega) ?_
  refine sn_imul hx hb dX11_xOf_5 ?_
  refine lv_bipush (v := nI 30) hx hb dX11_xOf_6 (by decide) ?_
  refine lv_isub hx hb dX11_xOf_8 ?_
  exact hret _ _ _ _ _ _ dX11_xOf_9 hM (⟨rfl, rfl⟩)
set_option maxHeartbeats 4000000 in
set_option maxRecDepth 100000 in
theorem c_m_yOf (l : Launch) (G : GT) (b : Nat) (σ : Mem) (q : Nat) (hq : q < 16) : KI l G b yX11_yOf cX11_yOf 1 0 σ [.int (nI q)] (fun r σ' => r = gy q ∧ σ' = σ) := by
  refine sg_metI [.int (nI q)] (by decide) (Nat.le_of_ble_eq_true rfl) ?_
  intro vp ve vs vm args below meth vc ls Q hx hb hml hown hts hK hM hl hret
  have hl : lv_has ls 1 [(0, .int (nI q))] := hl
  refine lv_bipush (v := nI 20) hx hb dX11_yOf_0 (by decide) ?_
  refine lv_iload_n hx hb dX11_yOf_2 rfl (lv_at hl 0 rfl) ?_
  refine lv_iconst (v := nI 4) hx hb dX11_yOf_3 (by decide) ?_
  refine sn_irem hx hb dX11_yOf_4 (by omega) (by omega) (by omega) ?_
  refine sn_imul hx hb dX11_yOf_5 ?_
  refine lv_bipush (v := nI 30) hx hb dX11_yOf_6 (by decide) ?_
  refine lv_isub hx hb dX11_yOf_8 ?_
  exact hret _ _ _ _ _ _ dX11_yOf_9 hM (⟨rfl, rfl⟩)
set_option maxHeartbeats 4000000 in
set_option maxRecDepth 100000 in
theorem c_m_familyOf (l : Launch) (G : GT) (b : Nat) (σ : Mem) (q : Nat) (hq : q < 16) : KI l G b yX11_familyOf cX11_familyOf 3 0 σ [.int (nI q)] (fun r σ' => r = nI (gf q) ∧ σ' = σ) := by
  refine sg_metI [.int (nI q)] (by decide) (Nat.le_of_ble_eq_true rfl) ?_
  intro vp ve vs vm args below meth vc ls Q hx hb hml hown hts hK hM hl hret
  have hl : lv_has ls 3 [(0, .int (nI q))] := hl
  refine lv_iload_n hx hb dX11_familyOf_0 rfl (lv_at hl 0 rfl) ?_
  refine lv_iconst (v := nI 4) hx hb dX11_familyOf_1 (by decide) ?_
  refine sn_idiv hx hb dX11_familyOf_2 (by omega) (by omega) (by omega) ?_
  refine lv_istore_n (lv' := [(1, .int (nI (q / 4))), (0, .int (nI q))]) hx hb dX11_familyOf_3 rfl hl (by decide) rfl (fun ls hl => ?_)
  refine lv_iload_n hx hb dX11_familyOf_4 rfl (lv_at hl 1 rfl) ?_
  refine lv_iconst (v := nI 4) hx hb dX11_familyOf_5 (by decide) ?_
  refine sn_irem hx hb dX11_familyOf_6 (by omega) (by omega) (by omega) ?_
  refine lv_istore_n (lv' := [(2, .int (nI (q % 4))), (1, .int (nI (q / 4))), (0, .int (nI q))]) hx hb dX11_familyOf_7 rfl hl (by decide) rfl (fun ls hl => ?_)
  refine lv_iconst (v := nI 2) hx hb dX11_familyOf_8 (by decide) ?_
  refine lv_iload_n hx hb dX11_familyOf_9 rfl (lv_at hl 1 rfl) ?_
  refine lv_iload_n hx hb dX11_familyOf_10 rfl (lv_at hl 0 rfl) ?_
  refine sn_iadd hx hb dX11_familyOf_11 ?_
  refine lv_iconst (v := nI 2) hx hb dX11_familyOf_12 (by decide) ?_
  refine sn_irem hx hb dX11_familyOf_13 (by omega) (by omega) (by omega) ?_
  refine sn_imul hx hb dX11_familyOf_14 ?_
  refine lv_iload_n hx hb dX11_familyOf_15 rfl (lv_at hl 0 rfl) ?_
  refine lv_iconst (v := nI 2) hx hb dX11_familyOf_16 (by decide) ?_
  refine sn_irem hx hb dX11_familyOf_17 (by omega) (by omega) (by omega) ?_
  refine sn_iadd hx hb dX11_familyOf_18 ?_
  exact hret _ _ _ _ _ _ dX11_familyOf_19 hM (⟨rfl, rfl⟩)
set_option maxHeartbeats 4000000 in
set_option maxRecDepth 100000 in
theorem c_m_turn (l : Launch) (G : GT) (b : Nat) (σ : Mem) (q : Nat) (hq : q < 16) : KI l G b yX11_turn cX11_turn 1 0 σ [.int (nI q)] (fun r σ' => r = nI (tn q) ∧ σ' = σ) := by
  refine sg_metI [.int (nI q)] (by decide) (Nat.le_of_ble_eq_true rfl) ?_
  intro vp ve vs vm args below meth vc ls Q hx hb hml hown hts hK hM hl hret
  have hl : lv_has ls 1 [(0, .int (nI q))] := hl
  refine lv_iconst (v := nI 4) hx hb dX11_turn_0 (by decide) ?_
  refine lv_iconst (v := nI 3) hx hb dX11_turn_1 (by decide) ?_
  refine lv_iload_n hx hb dX11_turn_2 rfl (lv_at hl 0 rfl) ?_
  refine lv_iconst (v := nI 4) hx hb dX11_turn_3 (by decide) ?_
  refine sn_irem hx hb dX11_turn_4 (by omega) (by omega) (by omega) ?_
  refine sn_isub hx hb dX11_turn_5 (by omega) ?_
  refine sn_imul hx hb dX11_turn_6 ?_
  refine lv_iload_n hx hb dX11_turn_7 rfl (lv_at hl 0 rfl) ?_
  refine lv_iconst (v := nI 4) hx hb dX11_turn_8 (by decide) ?_
  refine sn_idiv hx hb dX11_turn_9 (by omega) (by omega) (by omega) ?_
  refine sn_iadd hx hb dX11_turn_10 ?_
  exact hret _ _ _ _ _ _ dX11_turn_11 hM (⟨rfl, rfl⟩)
set_option maxHeartbeats 4000000 in
set_option maxRecDepth 100000 in
theorem c_m_far (l : Launch) (G : GT) (b : Nat) (σ : Mem) (q : Nat) (x y : Int32) (hq : q < 16) : KI l G b yX11_far cX11_far 5 1 σ [.int (nI q), .int x, .int y] (fun r σ' => r = far q x y ∧ σ' = σ) := by
  refine sg_metI [.int (nI q), .int x, .int y] (by decide) (Nat.le_of_ble_eq_true rfl) ?_
  intro vp ve vs vm args below meth vc ls Q hx hb hml hown hts hK hM hl hret
  have hl : lv_has ls 5 [(0, .int (nI q)), (1, .int x), (2, .int y)] := hl
  refine lv_iload_n hx hb dX11_far_0 rfl (lv_at hl 0 rfl) ?_
  refine sg_ci (sg_runS (d := 0) (As := [.int (nI q)]) (rest := []) hx hb hml hts hown hK hM (c_m_xOf l G b σ q (by first | omega | exact fam_lt _ _ _ _ _ | exact gf_lt _ | exact tf_lt _ | exact pt_lt (by first | omega | exact fam_lt _ _ _ _ _) (by omega) | exact tn_lt (by first | omega | exact pt_lt (by omega) (by omega)))) mi_X11_xOf wl_X11_51 rfl hl.1 rfl (Nat.le_of_ble_eq_true rfl) dX11_far_1 ⟨by decide, by decide⟩ ⟨Nat.le_refl 0, Nat.le_refl 0⟩) hM sgA (fun r_1 σ_1 H locs hp_1 hM => ?_)
  obtain ⟨hr_1, hs_1⟩ := hp_1; subst r_1; subst σ_1
  refine lv_iload_n hx hb dX11_far_4 rfl (lv_at hl 1 rfl) ?_
  refine lv_isub hx hb dX11_far_5 ?_
  refine lv_istore_n (lv' := [(3, .int ((gx q) - x)), (0, .int (nI q)), (1, .int x), (2, .int y)]) hx hb dX11_far_6 rfl hl (by decide) rfl (fun ls hl => ?_)
  refine lv_iload_n hx hb dX11_far_7 rfl (lv_at hl 1 rfl) ?_
  refine sg_ci (sg_runS (d := 0) (As := [.int (nI q)]) (rest := []) hx hb hml hts hown hK hM (c_m_yOf l G b σ q (by first | omega | exact fam_lt _ _ _ _ _ | exact gf_lt _ | exact tf_lt _ | exact pt_lt (by first | omega | exact fam_lt _ _ _ _ _) (by omega) | exact tn_lt (by first | omega | exact pt_lt (by omega) (by omega)))) mi_X11_yOf wl_X11_54 rfl hl.1 rfl (Nat.le_of_ble_eq_true rfl) dX11_far_8 ⟨by decide, by decide⟩ ⟨Nat.le_refl 0, Nat.le_refl 0⟩) hM sgA (fun r_8 σ_8 H locs hp_8 hM => ?_)
  obtain ⟨hr_8, hs_8⟩ := hp_8; subst r_8; subst σ_8
  refine lv_iload_n hx hb dX11_far_11 rfl (lv_at hl 3 rfl) ?_
  refine lv_isub hx hb dX11_far_12 ?_
  refine lv_istore (lv' := [(4, .int ((gy q) - y)), (3, .int ((gx q) - x)), (0, .int (nI q)), (1, .int x), (2, .int y)]) hx hb dX11_far_13 hl (by decide) rfl (fun ls hl => ?_)
  refine lv_iload_n hx hb dX11_far_15 rfl (lv_at hl 1 rfl) ?_
  refine lv_iload_n hx hb dX11_far_16 rfl (lv_at hl 1 rfl) ?_
  refine lv_imul hx hb dX11_far_17 ?_
  refine lv_iload hx hb dX11_far_18 (lv_at hl 0 rfl) ?_
  refine lv_iload hx hb dX11_far_20 (lv_at hl 0 rfl) ?_
  refine lv_imul hx hb dX11_far_22 ?_
  refine lv_iadd hx hb dX11_far_23 ?_
  exact hret _ _ _ _ _ _ dX11_far_24 hM (⟨rfl, rfl⟩)
set_option maxHeartbeats 4000000 in
set_option maxRecDepth 100000 in
theorem c_g_rankOf (l : Launch) (G : GT) (b : Nat) (σ : Mem) (q : Nat) (hq : q < 16) : KI l G b yX1_rankOf cX1_rankOf 3 0 σ [.int (nI q)] (fun r σ' => r = nI (grk q) ∧ σ' = σ) := by
  refine sg_metI [.int (nI q)] (by decide) (Nat.le_of_ble_eq_true rfl) ?_
  intro vp ve vs vm args below meth vc ls Q hx hb hml hown hts hK hM hl hret
  have hl : lv_has ls 3 [(0, .int (nI q))] := hl
  refine lv_iload_n hx hb dX1_rankOf_0 rfl (lv_at hl 0 rfl) ?_
  refine lv_iconst (v := nI 4) hx hb dX1_rankOf_1 (by decide) ?_
  refine sn_idiv hx hb dX1_rankOf_2 (by omega) (by omega) (by omega) ?_
  refine lv_istore_n (lv' := [(1, .int (nI (q / 4))), (0, .int (nI q))]) hx hb dX1_rankOf_3 rfl hl (by decide) rfl (fun ls hl => ?_)
  refine lv_iload_n hx hb dX1_rankOf_4 rfl (lv_at hl 1 rfl) ?_
  refine lv_iconst (v := nI 4) hx hb dX1_rankOf_5 (by decide) ?_
  refine sn_irem hx hb dX1_rankOf_6 (by omega) (by omega) (by omega) ?_
  refine lv_istore_n (lv' := [(2, .int (nI (q % 4))), (1, .int (nI (q / 4))), (0, .int (nI q))]) hx hb dX1_rankOf_7 rfl hl (by decide) rfl (fun ls hl => ?_)
  refine lv_iconst (v := nI 2) hx hb dX1_rankOf_8 (by decide) ?_
  refine lv_iload_n hx hb dX1_rankOf_9 rfl (lv_at hl 1 rfl) ?_
  refine lv_iconst (v := nI 2) hx hb dX1_rankOf_10 (by decide) ?_
  refine sn_idiv hx hb dX1_rankOf_11 (by omega) (by omega) (by omega) ?_
  refine sn_imul hx hb dX1_rankOf_12 ?_
  refine lv_iload_n hx hb dX1_rankOf_13 rfl (lv_at hl 0 rfl) ?_
  refine lv_iconst (v := nI 2) hx hb dX1_rankOf_14 (by decide) ?_
  refine sn_idiv hx hb dX1_rankOf_15 (by omega) (by omega) (by omega) ?_
  refine sn_iadd hx hb dX1_rankOf_16 ?_
  exact hret _ _ _ _ _ _ dX1_rankOf_17 hM (⟨rfl, rfl⟩)
set_option maxHeartbeats 4000000 in
set_option maxRecDepth 100000 in
theorem c_g_pointOf (l : Launch) (G : GT) (b : Nat) (σ : Mem) (f w : Nat) (hf : f < 4) (hw : w < 4) : KI l G b yX1_pointOf cX1_pointOf 6 0 σ [.int (nI f), .int (nI w)] (fun r σ' => r = nI (pt f w) ∧ σ' = σ) := by
  refine sg_metI [.int (nI f), .int (nI w)] (by decide) (Nat.le_of_ble_eq_true rfl) ?_
  intro vp ve vs vm args below meth vc ls Q hx hb hml hown hts hK hM hl hret
  have hl : lv_has ls 6 [(0, .int (nI f)), (1, .int (nI w))] := hl
  refine lv_iload_n hx hb dX1_pointOf_0 rfl (lv_at hl 0 rfl) ?_
  refine lv_iconst (v := nI 2) hx hb dX1_pointOf_1 (by decide) ?_
  refine sn_irem hx hb dX1_pointOf_2 (by omega) (by omega) (by omega) ?_
  refine lv_istore_n (lv' := [(2, .int (nI (f % 2))), (0, .int (nI f)), (1, .int (nI w))]) hx hb dX1_pointOf_3 rfl hl (by decide) rfl (fun ls hl => ?_)
  refine lv_iload_n hx hb dX1_pointOf_4 rfl (lv_at hl 1 rfl) ?_
  refine lv_iconst (v := nI 2) hx hb dX1_pointOf_5 (by decide) ?_
  refine sn_idiv hx hb dX1_pointOf_6 (by omega) (by omega) (by omega) ?_
  refine lv_iload_n hx hb dX1_pointOf_7 rfl (lv_at hl 0 rfl) ?_
  refine sn_iadd hx hb dX1_pointOf_8 ?_
  refine lv_iconst (v := nI 2) hx hb dX1_pointOf_9 (by decide) ?_
  refine sn_irem hx hb dX1_pointOf_10 (by omega) (by omega) (by omega) ?_
  refine lv_istore_n (lv' := [(3, .int (nI (((f / 2) + (f % 2)) % 2))), (2, .int (nI (f % 2))), (0, .int (nI f)), (1, .int (nI w))]) hx hb dX1_pointOf_11 rfl hl (by decide) rfl (fun ls hl => ?_)
  refine lv_iload_n hx hb dX1_pointOf_12 rfl (lv_at hl 0 rfl) ?_
  refine lv_iconst (v := nI 2) hx hb dX1_pointOf_13 (by decide) ?_
  refine lv_iload_n hx hb dX1_pointOf_14 rfl (lv_at hl 3 rfl) ?_
  refine lv_iconst (v := nI 2) hx hb dX1_pointOf_15 (by decide) ?_
  refine sn_idiv hx hb dX1_pointOf_16 (by omega) (by omega) (by omega) ?_
  refine sn_imul hx hb dX1_pointOf_17 ?_
  refine sn_iadd hx hb dX1_pointOf_18 ?_
  refine lv_istore (lv' := [(4, .int (nI ((((f / 2) + (f % 2)) % 2) + (2 * (w / 2))))), (3, .int (nI (((f / 2) + (f % 2)) % 2))), (2, .int (nI (f % 2))), (0, .int (nI f)), (1, .int (nI w))]) hx hb dX1_pointOf_19 hl (by decide) rfl (fun ls hl => ?_)
  refine lv_iload_n hx hb dX1_pointOf_21 rfl (lv_at hl 2 rfl) ?_
  refine lv_iconst (v := nI 2) hx hb dX1_pointOf_22 (by decide) ?_
  refine lv_iload_n hx hb dX1_pointOf_23 rfl (lv_at hl 4 rfl) ?_
  refine lv_iconst (v := nI 2) hx hb dX1_pointOf_24 (by decide) ?_
  refine sn_irem hx hb dX1_pointOf_25 (by omega) (by omega) (by omega) ?_
  refine sn_imul hx hb dX1_pointOf_26 ?_
  refine sn_iadd hx hb dX1_pointOf_27 ?_
  refine lv_istore (lv' := [(5, .int (nI ((f % 2) + (2 * (w % 2))))), (4, .int (nI ((((f / 2) + (f % 2)) % 2) + (2 * (w / 2))))), (3, .int (nI (((f / 2) + (f % 2)) % 2))), (2, .int (nI (f % 2))), (0, .int (nI f)), (1, .int (nI w))]) hx hb dX1_pointOf_28 hl (by decide) rfl (fun ls hl => ?_)
  refine lv_iconst (v := nI 4) hx hb dX1_pointOf_30 (by decide) ?_
  refine lv_iload hx hb dX1_pointOf_31 (lv_at hl 1 rfl) ?_
  refine sn_imul hx hb dX1_pointOf_33 ?_
  refine lv_iload hx hb dX1_pointOf_34 (lv_at hl 0 rfl) ?_
  refine sn_iadd hx hb dX1_pointOf_36 ?_
  exact hret _ _ _ _ _ _ dX1_pointOf_37 hM (⟨rfl, rfl⟩)
set_option maxHeartbeats 4000000 in
set_option maxRecDepth 100000 in
theorem c_g_turnOfFamily (l : Launch) (G : GT) (b : Nat) (σ : Mem) (f : Nat) (hf : f < 4) : KI l G b yX1_turnOfFamily cX1_turnOfFamily 1 1 σ [.int (nI f)] (fun r σ' => r = nI (tf f) ∧ σ' = σ) := by
  refine sg_metI [.int (nI f)] (by decide) (Nat.le_of_ble_eq_true rfl) ?_
  intro vp ve vs vm args below meth vc ls Q hx hb hml hown hts hK hM hl hret
  have hl : lv_has ls 1 [(0, .int (nI f))] := hl
  refine lv_iload_n hx hb dX1_turnOfFamily_0 rfl (lv_at hl 0 rfl) ?_
  refine lv_iconst (v := nI 0) hx hb dX1_turnOfFamily_1 (by decide) ?_
  refine sg_ci (sg_runS (d := 0) (As := [.int (nI f), .int (nI 0)]) (rest := []) hx hb hml hts hown hK hM (c_g_pointOf l G b σ f 0 (by first | omega | exact fam_lt _ _ _ _ _ | exact gf_lt _ | exact tf_lt _ | exact pt_lt (by first | omega | exact fam_lt _ _ _ _ _) (by omega) | exact tn_lt (by first | omega | exact pt_lt (by omega) (by omega))) (by first | omega | exact fam_lt _ _ _ _ _ | exact gf_lt _ | exact tf_lt _ | exact pt_lt (by first | omega | exact fam_lt _ _ _ _ _) (by omega) | exact tn_lt (by first | omega | exact pt_lt (by omega) (by omega)))) mi_X1_pointOf wl_X1_9 rfl hl.1 rfl (Nat.le_of_ble_eq_true rfl) dX1_turnOfFamily_2 ⟨by decide, by decide⟩ ⟨Nat.le_refl 0, Nat.le_refl 0⟩) hM sgA (fun r_2 σ_2 H locs hp_2 hM => ?_)
  obtain ⟨hr_2, hs_2⟩ := hp_2; subst r_2; subst σ_2
  refine sg_ci (sg_runS (d := 0) (As := [.int (nI (pt f 0))]) (rest := []) hx hb hml hts hown hK hM (c_g_turn l G b σ (pt f 0) (by first | omega | exact fam_lt _ _ _ _ _ | exact gf_lt _ | exact tf_lt _ | exact pt_lt (by first | omega | exact fam_lt _ _ _ _ _) (by omega) | exact tn_lt (by first | omega | exact pt_lt (by omega) (by omega)))) mi_X1_turnOf wl_X1_15 rfl hl.1 rfl (Nat.le_of_ble_eq_true rfl) dX1_turnOfFamily_5 ⟨by decide, by decide⟩ ⟨Nat.le_refl 0, Nat.le_refl 0⟩) hM sgA (fun r_5 σ_5 H locs hp_5 hM => ?_)
  obtain ⟨hr_5, hs_5⟩ := hp_5; subst r_5; subst σ_5
  refine sg_ci (sg_runS (d := 0) (As := [.int (nI (tn (pt f 0)))]) (rest := []) hx hb hml hts hown hK hM (c_g_familyOf l G b σ (tn (pt f 0)) (by first | omega | exact fam_lt _ _ _ _ _ | exact gf_lt _ | exact tf_lt _ | exact pt_lt (by first | omega | exact fam_lt _ _ _ _ _) (by omega) | exact tn_lt (by first | omega | exact pt_lt (by omega) (by omega)))) mi_X1_familyOf wl_X1_19 rfl hl.1 rfl (Nat.le_of_ble_eq_true rfl) dX1_turnOfFamily_8 ⟨by decide, by decide⟩ ⟨Nat.le_refl 0, Nat.le_refl 0⟩) hM sgA (fun r_8 σ_8 H locs hp_8 hM => ?_)
  obtain ⟨hr_8, hs_8⟩ := hp_8; subst r_8; subst σ_8
  exact hret _ _ _ _ _ _ dX1_turnOfFamily_11 hM (⟨rfl, rfl⟩)
set_option maxHeartbeats 4000000 in
set_option maxRecDepth 100000 in
theorem c_g_pointAt (l : Launch) (G : GT) (b : Nat) (σ : Mem) (x y : Int32) : KI l G b yX1_pointAt cX1_pointAt 4 2 σ [.int x, .int y] (fun r σ' => r = nI (pa x y 16) ∧ σ' = σ) := by
  refine sg_metI [.int x, .int y] (by decide) (Nat.le_of_ble_eq_true rfl) ?_
  intro vp ve vs vm args below meth vc ls Q hx hb hml hown hts hK hM hl hret
  have hl : lv_has ls 4 [(0, .int x), (1, .int y)] := hl
  refine lv_iconst (v := nI 0) hx hb dX1_pointAt_0 (by decide) ?_
  refine lv_istore_n (lv' := [(2, .int (nI 0)), (0, .int x), (1, .int y)]) hx hb dX1_pointAt_1 rfl hl (by decide) rfl (fun ls hl => ?_)
  refine lv_iconst (v := nI 1) hx hb dX1_pointAt_2 (by decide) ?_
  refine lv_istore_n (lv' := [(3, .int (nI 1)), (2, .int (nI 0)), (0, .int x), (1, .int y)]) hx hb dX1_pointAt_3 rfl hl (by decide) rfl (fun ls hl => ?_)
  have L4 : ∀ (fuel : Nat) (k : Nat) (v : Nat), (1 ≤ k) → (k ≤ 16) → (v = pa x y k) → (16 - k) < fuel → ∀ (H : Heap) (locs : List Loc) (ls : Array Slot), St G (Fr b) b σ vs H locs → lv_has ls 4 [(0, .int x), (1, .int y), (2, .int (nI v)), (3, .int (nI k))] → W vp l ve (RM 2) vs vm args below meth vc H locs 0 0 Q (F0 vm 4 ls []) := by
    intro fuel
    induction fuel with
    | zero => intro k v hk1 hk hv hF; exact absurd hF (Nat.not_lt_zero _)
    | succ fuel ih4 =>
      intro k v hk1 hk hv hF H locs ls hM hl
      refine lv_iload_n hx hb dX1_pointAt_4 rfl (lv_at hl 3 rfl) ?_
      refine lv_bipush (v := nI 16) hx hb dX1_pointAt_5 (by decide) ?_
      refine sn_icmp_ge (tgt := 33) hx hb dX1_pointAt_7 (by decide) (by omega) (by omega) (fun hlt => ?_) (fun hlt => ?_)
      · refine lv_iload_n hx hb dX1_pointAt_33 rfl (lv_at hl 2 rfl) ?_
        exact hret _ _ _ _ _ _ dX1_pointAt_34 hM (⟨by rw [hv, show k = 16 by omega], rfl⟩)
      · refine lv_iload_n hx hb dX1_pointAt_10 rfl (lv_at hl 3 rfl) ?_
        refine lv_iload_n hx hb dX1_pointAt_11 rfl (lv_at hl 0 rfl) ?_
        refine lv_iload_n hx hb dX1_pointAt_12 rfl (lv_at hl 1 rfl) ?_
        refine sg_ci (sg_runS (d := 1) (As := [.int (nI k), .int x, .int y]) (rest := []) hx hb hml hts hown hK hM (c_g_far l G b σ k x y (by first | omega | exact fam_lt _ _ _ _ _ | exact gf_lt _ | exact tf_lt _ | exact pt_lt (by first | omega | exact fam_lt _ _ _ _ _) (by omega) | exact tn_lt (by first | omega | exact pt_lt (by omega) (by omega)))) mi_X1_farFrom wl_X1_28 rfl hl.1 rfl (Nat.le_of_ble_eq_true rfl) dX1_pointAt_13 ⟨by decide, by decide⟩ ⟨Nat.le_refl 0, Nat.le_refl 0⟩) hM sgA (fun r_13 σ_13 H locs hp_13 hM => ?_)
        obtain ⟨hr_13, hs_13⟩ := hp_13; subst r_13; subst σ_13
        refine lv_iload_n hx hb dX1_pointAt_16 rfl (lv_at hl 2 rfl) ?_
        refine lv_iload_n hx hb dX1_pointAt_17 rfl (lv_at hl 0 rfl) ?_
        refine lv_iload_n hx hb dX1_pointAt_18 rfl (lv_at hl 1 rfl) ?_
        refine sg_ci (sg_runS (d := 1) (As := [.int (nI v), .int x, .int y]) (rest := [.int (far k x y)]) hx hb hml hts hown hK hM (c_g_far l G b σ v x y (by rw [hv]; exact pa_lt x y k hk)) mi_X1_farFrom wl_X1_28 rfl hl.1 rfl (Nat.le_of_ble_eq_true rfl) dX1_pointAt_19 ⟨by decide, by decide⟩ ⟨Nat.le_refl 0, Nat.le_refl 0⟩) hM sgA (fun r_19 σ_19 H locs hp_19 hM => ?_)
        obtain ⟨hr_19, hs_19⟩ := hp_19; subst r_19; subst σ_19
        refine lv_icmp_ge (tgt := 27) hx hb dX1_pointAt_22 (by decide) (fun c_22 => ?_) (fun c_22 => ?_)
        · refine lv_iinc (v := nI (k + 1)) (lv' := [(3, .int (nI (k + 1))), (0, .int x), (1, .int y), (2, .int (nI v))]) hx hb dX1_pointAt_27 hl (k := 3) rfl (q_inc _) (by decide) rfl (fun ls hl => ?_)
          refine lv_goto (tgt := 4) hx hb dX1_pointAt_30 (by decide) ?_
          exact ih4 (k + 1) v (by omega) (by omega) (by rw [pa_s, if_neg (Int32.not_lt.mpr (by rw [← hv]; exact c_22))]; exact hv) (by omega) _ _ _ hM (lv_sub hl [1, 2, 3, 0] rfl)
        · refine lv_iload_n hx hb dX1_pointAt_25 rfl (lv_at hl 3 rfl) ?_
          refine lv_istore_n (lv' := [(2, .int (nI k)), (0, .int x), (1, .int y), (3, .int (nI k))]) hx hb dX1_pointAt_26 rfl hl (by decide) rfl (fun ls hl => ?_)
          refine lv_iinc (v := nI (k + 1)) (lv' := [(3, .int (nI (k + 1))), (2, .int (nI k)), (0, .int x), (1, .int y)]) hx hb dX1_pointAt_27 hl (k := 3) rfl (q_inc _) (by decide) rfl (fun ls hl => ?_)
          refine lv_goto (tgt := 4) hx hb dX1_pointAt_30 (by decide) ?_
          exact ih4 (k + 1) k (by omega) (by omega) (by rw [pa_s, if_pos (Int32.not_le.mp (by rw [← hv]; exact c_22))]) (by omega) _ _ _ hM (lv_sub hl [2, 3, 1, 0] rfl)
  exact L4 (_ + 1) 1 0 (by decide) (by decide) ((pa_1 x y).symm) (Nat.lt_succ_self _) _ _ _ hM (lv_sub hl [2, 3, 1, 0] rfl)
set_option maxHeartbeats 4000000 in
set_option maxRecDepth 100000 in
theorem c_g_gapOf (l : Launch) (G : GT) (b : Nat) (σ : Mem) (f o : Nat) (hf : f < 4) (ho : o < 4) : KI l G b yX1_gapOf cX1_gapOf 7 2 σ [.int (nI f), .int (nI o)] (fun r σ' => r = nI (gap f o) ∧ σ' = σ) := by
  refine sg_metI [.int (nI f), .int (nI o)] (by decide) (Nat.le_of_ble_eq_true rfl) ?_
  intro vp ve vs vm args below meth vc ls Q hx hb hml hown hts hK hM hl hret
  have hl : lv_has ls 7 [(0, .int (nI f)), (1, .int (nI o))] := hl
  refine lv_ldc (v := nI 99999999) hx hb hown (hts (Cond.constant RX1 32 (nI 99999999)) wk_X1_32) dX1_gapOf_0 ?_
  refine lv_istore_n (lv' := [(2, .int (nI 99999999)), (0, .int (nI f)), (1, .int (nI o))]) hx hb dX1_gapOf_2 rfl hl (by decide) rfl (fun ls hl => ?_)
  refine lv_iconst (v := nI 0) hx hb dX1_gapOf_3 (by decide) ?_
  refine lv_istore_n (lv' := [(3, .int (nI 0)), (2, .int (nI 99999999)), (0, .int (nI f)), (1, .int (nI o))]) hx hb dX1_gapOf_4 rfl hl (by decide) rfl (fun ls hl => ?_)
  have L5 : ∀ (fuel : Nat) (a : Nat) (r : Int32), (a ≤ 4) → (r = gpC f o (4 * a)) → (4 - a) < fuel → ∀ (H : Heap) (locs : List Loc) (ls : Array Slot), St G (Fr b) b σ vs H locs → lv_has ls 7 [(0, .int (nI f)), (1, .int (nI o)), (2, .int r), (3, .int (nI a))] → W vp l ve (RM 2) vs vm args below meth vc H locs 0 0 Q (F0 vm 5 ls []) := by
    intro fuel
    induction fuel with
    | zero => intro a r ha hr hF; exact absurd hF (Nat.not_lt_zero _)
    | succ fuel ih5 =>
      intro a r ha hr hF H locs ls hM hl
      refine lv_iload_n hx hb dX1_gapOf_5 rfl (lv_at hl 3 rfl) ?_
      refine lv_iconst (v := nI 4) hx hb dX1_gapOf_6 (by decide) ?_
      refine sn_icmp_ge (tgt := 73) hx hb dX1_gapOf_7 (by decide) (by omega) (by omega) (fun hla => ?_) (fun hla => ?_)
      · refine lv_iload_n hx hb dX1_gapOf_73 rfl (lv_at hl 2 rfl) ?_
        exact hret _ _ _ _ _ _ dX1_gapOf_74 hM (⟨by rw [hr, show a = 4 by omega]; exact (gap_ok f hf o ho).1, rfl⟩)
      · refine lv_iconst (v := nI 0) hx hb dX1_gapOf_10 (by decide) ?_
        refine lv_istore (lv' := [(4, .int (nI 0)), (0, .int (nI f)), (1, .int (nI o)), (2, .int r), (3, .int (nI a))]) hx hb dX1_gapOf_11 hl (by decide) rfl (fun ls hl => ?_)
        have L13 : ∀ (fuel : Nat) (w : Nat) (r2 : Int32), (w ≤ 4) → (r2 = gpC f o (4 * a + w)) → (4 - w) < fuel → ∀ (H : Heap) (locs : List Loc) (ls : Array Slot), St G (Fr b) b σ vs H locs → lv_has ls 7 [(0, .int (nI f)), (1, .int (nI o)), (2, .int r2), (3, .int (nI a)), (4, .int (nI w))] → W vp l ve (RM 2) vs vm args below meth vc H locs 0 0 Q (F0 vm 13 ls []) := by
          intro fuel
          induction fuel with
          | zero => intro w r2 hw hr2 hF; exact absurd hF (Nat.not_lt_zero _)
          | succ fuel ih13 =>
            intro w r2 hw hr2 hF H locs ls hM hl
            refine lv_iload hx hb dX1_gapOf_13 (lv_at hl 4 rfl) ?_
            refine lv_iconst (v := nI 4) hx hb dX1_gapOf_15 (by decide) ?_
            refine sn_icmp_ge (tgt := 67) hx hb dX1_gapOf_16 (by decide) (by omega) (by omega) (fun hlt => ?_) (fun hlt => ?_)
            · refine lv_iinc (v := nI (a + 1)) (lv' := [(3, .int (nI (a + 1))), (0, .int (nI f)), (1, .int (nI o)), (2, .int r2), (4, .int (nI w))]) hx hb dX1_gapOf_67 hl (k := 3) rfl (q_inc _) (by decide) rfl (fun ls hl => ?_)
              refine lv_goto (tgt := 5) hx hb dX1_gapOf_70 (by decide) ?_
              exact ih5 (a + 1) r2 (by omega) (by rw [hr2, show w = 4 by omega]; rfl) (by omega) _ _ _ hM (lv_sub hl [1, 2, 3, 0] rfl)
            · refine lv_iload_n hx hb dX1_gapOf_19 rfl (lv_at hl 0 rfl) ?_
              refine lv_iload_n hx hb dX1_gapOf_20 rfl (lv_at hl 3 rfl) ?_
              refine sg_ci (sg_runS (d := 0) (As := [.int (nI f), .int (nI a)]) (rest := []) hx hb hml hts hown hK hM (c_g_pointOf l G b σ f a (by first | omega | exact fam_lt _ _ _ _ _ | exact gf_lt _ | exact tf_lt _ | exact pt_lt (by first | omega | exact fam_lt _ _ _ _ _) (by omega) | exact tn_lt (by first | omega | exact pt_lt (by omega) (by omega))) (by first | omega | exact fam_lt _ _ _ _ _ | exact gf_lt _ | exact tf_lt _ | exact pt_lt (by first | omega | exact fam_lt _ _ _ _ _) (by omega) | exact tn_lt (by first | omega | exact pt_lt (by omega) (by omega)))) mi_X1_pointOf wl_X1_9 rfl hl.1 rfl (Nat.le_of_ble_eq_true rfl) dX1_gapOf_21 ⟨by decide, by decide⟩ ⟨Nat.le_refl 0, Nat.le_refl 0⟩) hM sgA (fun r_21 σ_21 H locs hp_21 hM => ?_)
              obtain ⟨hr_21, hs_21⟩ := hp_21; subst r_21; subst σ_21
              refine lv_istore (lv' := [(5, .int (nI (pt f a))), (0, .int (nI f)), (1, .int (nI o)), (2, .int r2), (3, .int (nI a)), (4, .int (nI w))]) hx hb dX1_gapOf_24 hl (by decide) rfl (fun ls hl => ?_)
              refine lv_iload_n hx hb dX1_gapOf_26 rfl (lv_at hl 2 rfl) ?_
              refine lv_iload hx hb dX1_gapOf_27 (lv_at hl 5 rfl) ?_
              refine sg_ci (sg_runS (d := 0) (As := [.int (nI o), .int (nI w)]) (rest := []) hx hb hml hts hown hK hM (c_g_pointOf l G b σ o w (by first | omega | exact fam_lt _ _ _ _ _ | exact gf_lt _ | exact tf_lt _ | exact pt_lt (by first | omega | exact fam_lt _ _ _ _ _) (by omega) | exact tn_lt (by first | omega | exact pt_lt (by omega) (by omega))) (by first | omega | exact fam_lt _ _ _ _ _ | exact gf_lt _ | exact tf_lt _ | exact pt_lt (by first | omega | exact fam_lt _ _ _ _ _) (by omega) | exact tn_lt (by first | omega | exact pt_lt (by omega) (by omega)))) mi_X1_pointOf wl_X1_9 rfl hl.1 rfl (Nat.le_of_ble_eq_true rfl) dX1_gapOf_29 ⟨by decide, by decide⟩ ⟨Nat.le_refl 0, Nat.le_refl 0⟩) hM sgA (fun r_29 σ_29 H locs hp_29 hM => ?_)
              obtain ⟨hr_29, hs_29⟩ := hp_29; subst r_29; subst σ_29
              refine lv_istore (lv' := [(6, .int (nI (pt o w))), (5, .int (nI (pt f a))), (0, .int (nI f)), (1, .int (nI o)), (2, .int r2), (3, .int (nI a)), (4, .int (nI w))]) hx hb dX1_gapOf_32 hl (by decide) rfl (fun ls hl => ?_)
              refine lv_iload hx hb dX1_gapOf_34 (lv_at hl 1 rfl) ?_
              refine lv_iload hx hb dX1_gapOf_36 (lv_at hl 0 rfl) ?_
              refine sn_icmp_eq (tgt := 61) hx hb dX1_gapOf_38 (by decide) (by have := pt_lt hf hla; omega) (by have := pt_lt ho hlt; omega) (fun c_38 => ?_) (fun c_38 => ?_)
              · refine lv_iinc (v := nI (w + 1)) (lv' := [(4, .int (nI (w + 1))), (6, .int (nI (pt o w))), (5, .int (nI (pt f a))), (0, .int (nI f)), (1, .int (nI o)), (2, .int r2), (3, .int (nI a))]) hx hb dX1_gapOf_61 hl (k := 6) rfl (q_inc _) (by decide) rfl (fun ls hl => ?_)
                refine lv_goto (tgt := 13) hx hb dX1_gapOf_64 (by decide) ?_
                exact ih13 (w + 1) r2 (by omega) (by rw [show 4 * a + (w + 1) = 4 * a + w + 1 by omega, gpC_s hlt, if_pos c_38]; exact hr2) (by omega) _ _ _ hM (lv_sub hl [3, 4, 5, 6, 0] rfl)
              · refine lv_iload_n hx hb dX1_gapOf_41 rfl (lv_at hl 4 rfl) ?_
                refine lv_iload hx hb dX1_gapOf_42 (lv_at hl 1 rfl) ?_
                refine lv_iload hx hb dX1_gapOf_44 (lv_at hl 0 rfl) ?_
                refine sg_ci (sg_runS (d := 0) (As := [.int (nI (pt o w))]) (rest := [.int (nI (pt f a)), .int r2]) hx hb hml hts hown hK hM (c_g_xOf l G b σ (pt o w) (by first | omega | exact fam_lt _ _ _ _ _ | exact gf_lt _ | exact tf_lt _ | exact pt_lt (by first | omega | exact fam_lt _ _ _ _ _) (by omega) | exact tn_lt (by first | omega | exact pt_lt (by omega) (by omega)))) mi_X1_xOf wl_X1_22 rfl hl.1 rfl (Nat.le_of_ble_eq_true rfl) dX1_gapOf_46 ⟨by decide, by decide⟩ ⟨Nat.le_refl 0, Nat.le_refl 0⟩) hM sgA (fun r_46 σ_46 H locs hp_46 hM => ?_)
                obtain ⟨hr_46, hs_46⟩ := hp_46; subst r_46; subst σ_46
                refine lv_iload hx hb dX1_gapOf_49 (lv_at hl 0 rfl) ?_
                refine sg_ci (sg_runS (d := 0) (As := [.int (nI (pt o w))]) (rest := [.int (gx (pt o w)), .int (nI (pt f a)), .int r2]) hx hb hml hts hown hK hM (c_g_yOf l G b σ (pt o w) (by first | omega | exact fam_lt _ _ _ _ _ | exact gf_lt _ | exact tf_lt _ | exact pt_lt (by first | omega | exact fam_lt _ _ _ _ _) (by omega) | exact tn_lt (by first | omega | exact pt_lt (by omega) (by omega)))) mi_X1_yOf wl_X1_25 rfl hl.1 rfl (Nat.le_of_ble_eq_true rfl) dX1_gapOf_51 ⟨by decide, by decide⟩ ⟨Nat.le_refl 0, Nat.le_refl 0⟩) hM sgA (fun r_51 σ_51 H locs hp_51 hM => ?_)
                obtain ⟨hr_51, hs_51⟩ := hp_51; subst r_51; subst σ_51
                refine sg_ci (sg_runS (d := 1) (As := [.int (nI (pt f a)), .int (gx (pt o w)), .int (gy (pt o w))]) (rest := [.int r2]) hx hb hml hts hown hK hM (c_g_far l G b σ (pt f a) (gx (pt o w)) (gy (pt o w)) (by first | omega | exact fam_lt _ _ _ _ _ | exact gf_lt _ | exact tf_lt _ | exact pt_lt (by first | omega | exact fam_lt _ _ _ _ _) (by omega) | exact tn_lt (by first | omega | exact pt_lt (by omega) (by omega)))) mi_X1_farFrom wl_X1_28 rfl hl.1 rfl (Nat.le_of_ble_eq_true rfl) dX1_gapOf_54 ⟨by decide, by decide⟩ ⟨Nat.le_refl 0, Nat.le_refl 0⟩) hM sgA (fun r_54 σ_54 H locs hp_54 hM => ?_)
                obtain ⟨hr_54, hs_54⟩ := hp_54; subst r_54; subst σ_54
                refine va_mmin hx hb (by rw [hml]; exact hl.1.symm) hown (hts _ wl_X1_33) (hts _ ws_J9_min_7cf53) (hts _ wi_RJ9) (hts _ wc_J9_min_7cf53) (by decide) (Nat.le_of_ble_eq_true rfl) (Nat.le_refl 0) (Nat.le_refl 0) dX1_gapOf_57 ?_
                refine lv_istore_n (lv' := [(2, .int (if far (pt f a) (gx (pt o w)) (gy (pt o w)) < r2 then far (pt f a) (gx (pt o w)) (gy (pt o w)) else r2)), (6, .int (nI (pt o w))), (5, .int (nI (pt f a))), (0, .int (nI f)), (1, .int (nI o)), (3, .int (nI a)), (4, .int (nI w))]) hx hb dX1_gapOf_60 rfl hl (by decide) rfl (fun ls hl => ?_)
                refine lv_iinc (v := nI (w + 1)) (lv' := [(4, .int (nI (w + 1))), (2, .int (if far (pt f a) (gx (pt o w)) (gy (pt o w)) < r2 then far (pt f a) (gx (pt o w)) (gy (pt o w)) else r2)), (6, .int (nI (pt o w))), (5, .int (nI (pt f a))), (0, .int (nI f)), (1, .int (nI o)), (3, .int (nI a))]) hx hb dX1_gapOf_61 hl (k := 6) rfl (q_inc _) (by decide) rfl (fun ls hl => ?_)
                refine lv_goto (tgt := 13) hx hb dX1_gapOf_64 (by decide) ?_
                exact ih13 (w + 1) (if far (pt f a) (gx (pt o w)) (gy (pt o w)) < r2 then far (pt f a) (gx (pt o w)) (gy (pt o w)) else r2) (by omega) (by rw [show 4 * a + (w + 1) = 4 * a + w + 1 by omega, gpC_s hlt, if_neg c_38, ← hr2]) (by omega) _ _ _ hM (lv_sub hl [4, 5, 1, 6, 0] rfl)
        exact L13 (_ + 1) 0 r (by omega) hr (Nat.lt_succ_self _) _ _ _ hM (lv_sub hl [1, 2, 3, 4, 0] rfl)
  exact L5 (_ + 1) 0 (nI 99999999) (by omega) rfl (Nat.lt_succ_self _) _ _ _ hM (lv_sub hl [2, 3, 1, 0] rfl)

set_option maxHeartbeats 4000000 in
set_option maxRecDepth 100000 in
theorem c_Code_set (l : Launch) (G : GT) (b : Nat) (σ : Mem) (cd : Nat) (x y z : Int32) (hcd : kd cd = 2) : KV l G b yX0_set cX0_set 4 0 σ [.ref (b + cd), .int x, .int y, .int z] (fun σ' => σ' = codeSet σ cd x y z) := by
  refine sg_metV [.ref (b + cd), .int x, .int y, .int z] (by decide) (Nat.le_of_ble_eq_true rfl) ?_
  intro vp ve vs vm args below meth vc ls Q hx hb hml hown hts hK hM hl hret
  have hl : lv_has ls 4 [(0, .ref (b + cd)), (1, .int x), (2, .int y), (3, .int z)] := hl
  refine lv_aload_n hx hb dX0_set_0 rfl (lv_at hl 0 rfl) ?_
  refine lv_iload_n hx hb dX0_set_1 rfl (lv_at hl 1 rfl) ?_
  refine sg_put (v := x) (ty := .int) hx hb hts hown hK hM sgA (sh2 hcd) (kd_lt hcd (by decide)) rfl inX0 tyX0 tyX0_ok nmX0 0 (by decide) wf_X0_13 rfl (by decide +kernel) rfl rfl (Nat.le_of_ble_eq_true rfl) (by rw [sh2 hcd]; rfl) dX0_set_2 (fun H locs hM => ?_)
  refine lv_aload_n hx hb dX0_set_5 rfl (lv_at hl 0 rfl) ?_
  refine lv_iload_n hx hb dX0_set_6 rfl (lv_at hl 2 rfl) ?_
  refine sg_put (v := y) (ty := .int) hx hb hts hown hK hM sgA (sh2 hcd) (kd_lt hcd (by decide)) rfl inX0 tyX0 tyX0_ok nmX0 1 (by decide) wf_X0_17 rfl (by decide +kernel) rfl rfl (Nat.le_of_ble_eq_true rfl) (by rw [sh2 hcd]; rfl) dX0_set_7 (fun H locs hM => ?_)
  refine lv_aload_n hx hb dX0_set_10 rfl (lv_at hl 0 rfl) ?_
  refine lv_iload_n hx hb dX0_set_11 rfl (lv_at hl 3 rfl) ?_
  refine sg_put (v := z) (ty := .int) hx hb hts hown hK hM sgA (sh2 hcd) (kd_lt hcd (by decide)) rfl inX0 tyX0 tyX0_ok nmX0 2 (by decide) wf_X0_20 rfl (by decide +kernel) rfl rfl (Nat.le_of_ble_eq_true rfl) (by rw [sh2 hcd]; rfl) dX0_set_12 (fun H locs hM => ?_)
  exact hret _ _ _ _ _ dX0_set_15 hM (rfl)
set_option maxHeartbeats 4000000 in
set_option maxRecDepth 100000 in
theorem c_Code_states (l : Launch) (G : GT) (b : Nat) (σ : Mem) (cd m g h : Nat) (hcd : kd cd = 2) (hc : CodeAt σ cd m g h) : KI l G b yX0_states cX0_states 1 0 σ [.ref (b + cd)] (fun r σ' => r = nI (2 ^ m) ∧ σ' = σ) := by
  refine sg_metI [.ref (b + cd)] (by decide) (Nat.le_of_ble_eq_true rfl) ?_
  intro vp ve vs vm args below meth vc ls Q hx hb hml hown hts hK hM hl hret
  have hl : lv_has ls 1 [(0, .ref (b + cd))] := hl
  refine lv_iconst (v := nI 1) hx hb dX0_states_0 (by decide) ?_
  refine lv_aload_n hx hb dX0_states_1 rfl (lv_at hl 0 rfl) ?_
  refine sg_get (v := .int (σ cd 0)) hx hb hts hown hK hM (sh2 hcd) (kd_lt hcd (by decide)) rfl inX0 0 (by decide) wf_X0_13 rfl dX0_states_2 ?_
  refine sn_top (y := nI m) (hc.1) ?_
  refine sn_ishl hx hb dX0_states_5 (by have := hc.m; omega) (by have := p2_le hc.m; omega) ?_
  refine sn_top (y := nI (2 ^ m)) (by rw [Nat.one_mul]) ?_
  exact hret _ _ _ _ _ _ dX0_states_6 hM (⟨rfl, rfl⟩)
set_option maxHeartbeats 4000000 in
set_option maxRecDepth 100000 in
theorem c_Code_reg (l : Launch) (G : GT) (b : Nat) (σ : Mem) (cd m g h s u : Nat) (hcd : kd cd = 2) (hc : CodeAt σ cd m g h) (hu : u < 2) (hs : s < 2 ^ m) : KI l G b yX0_registerOf cX0_registerOf 3 0 σ [.ref (b + cd), .int (nI s), .int (nI u)] (fun r σ' => r = nI (rg m s u) ∧ σ' = σ) := by
  refine sg_metI [.ref (b + cd), .int (nI s), .int (nI u)] (by decide) (Nat.le_of_ble_eq_true rfl) ?_
  intro vp ve vs vm args below meth vc ls Q hx hb hml hown hts hK hM hl hret
  have hl : lv_has ls 3 [(0, .ref (b + cd)), (1, .int (nI s)), (2, .int (nI u))] := hl
  refine lv_iload_n hx hb dX0_registerOf_0 rfl (lv_at hl 2 rfl) ?_
  refine lv_aload_n hx hb dX0_registerOf_1 rfl (lv_at hl 0 rfl) ?_
  refine sg_get (v := .int (σ cd 0)) hx hb hts hown hK hM (sh2 hcd) (kd_lt hcd (by decide)) rfl inX0 0 (by decide) wf_X0_13 rfl dX0_registerOf_2 ?_
  refine sn_top (y := nI m) (hc.1) ?_
  refine sn_ishl hx hb dX0_registerOf_5 (by have := hc.m; omega) (sh_ok hu hc.m) ?_
  refine lv_iload_n hx hb dX0_registerOf_6 rfl (lv_at hl 1 rfl) ?_
  refine sn_iadd hx hb dX0_registerOf_7 ?_
  exact hret _ _ _ _ _ _ dX0_registerOf_8 hM (⟨rfl, rfl⟩)
set_option maxHeartbeats 4000000 in
set_option maxRecDepth 100000 in
theorem c_Code_next (l : Launch) (G : GT) (b : Nat) (σ : Mem) (cd m g h s u : Nat) (hcd : kd cd = 2) (hc : CodeAt σ cd m g h) (hu : u < 2) (hs : s < 2 ^ m) : KI l G b yX0_stateAfter cX0_stateAfter 3 1 σ [.ref (b + cd), .int (nI s), .int (nI u)] (fun r σ' => r = nI (nx m s u) ∧ σ' = σ) := by
  refine sg_metI [.ref (b + cd), .int (nI s), .int (nI u)] (by decide) (Nat.le_of_ble_eq_true rfl) ?_
  intro vp ve vs vm args below meth vc ls Q hx hb hml hown hts hK hM hl hret
  have hl : lv_has ls 3 [(0, .ref (b + cd)), (1, .int (nI s)), (2, .int (nI u))] := hl
  refine lv_aload_n hx hb dX0_stateAfter_0 rfl (lv_at hl 0 rfl) ?_
  refine lv_iload_n hx hb dX0_stateAfter_1 rfl (lv_at hl 1 rfl) ?_
  refine lv_iload_n hx hb dX0_stateAfter_2 rfl (lv_at hl 2 rfl) ?_
  refine sg_ci (sg_runV (d := 0) (As := [.int (nI s), .int (nI u)]) (rest := []) hx hb hml hts hown hK hM (c_Code_reg l G b σ cd m g h s u hcd hc hu hs) mi_X0_registerOf wl_X0_23 (sh2 hcd) (kd_lt hcd (by decide)) rfl rfl rfl hl.1 rfl (Nat.le_of_ble_eq_true rfl) dX0_stateAfter_3 ⟨by decide, by decide⟩ ⟨Nat.le_refl 0, Nat.le_refl 0⟩) hM sgA (fun r_3 σ_3 H locs hp_3 hM => ?_)
  obtain ⟨hr_3, hs_3⟩ := hp_3; subst r_3; subst σ_3
  refine lv_iconst (v := nI 2) hx hb dX0_stateAfter_6 (by decide) ?_
  refine sn_idiv hx hb dX0_stateAfter_7 (by have := rg_16 hc.m hu hs; omega) (by omega) (by omega) ?_
  exact hret _ _ _ _ _ _ dX0_stateAfter_8 hM (⟨rfl, rfl⟩)
set_option maxHeartbeats 4000000 in
set_option maxRecDepth 100000 in
theorem c_Code_fam (l : Launch) (G : GT) (b : Nat) (σ : Mem) (cd m g h s u : Nat) (hcd : kd cd = 2) (hc : CodeAt σ cd m g h) (hu : u < 2) (hs : s < 2 ^ m) : KI l G b yX0_familyFrom cX0_familyFrom 4 1 σ [.ref (b + cd), .int (nI s), .int (nI u)] (fun r σ' => r = nI (fam m g h s u) ∧ σ' = σ) := by
  refine sg_metI [.ref (b + cd), .int (nI s), .int (nI u)] (by decide) (Nat.le_of_ble_eq_true rfl) ?_
  intro vp ve vs vm args below meth vc ls Q hx hb hml hown hts hK hM hl hret
  have hl : lv_has ls 4 [(0, .ref (b + cd)), (1, .int (nI s)), (2, .int (nI u))] := hl
  refine lv_aload_n hx hb dX0_familyFrom_0 rfl (lv_at hl 0 rfl) ?_
  refine lv_iload_n hx hb dX0_familyFrom_1 rfl (lv_at hl 1 rfl) ?_
  refine lv_iload_n hx hb dX0_familyFrom_2 rfl (lv_at hl 2 rfl) ?_
  refine sg_ci (sg_runV (d := 0) (As := [.int (nI s), .int (nI u)]) (rest := []) hx hb hml hts hown hK hM (c_Code_reg l G b σ cd m g h s u hcd hc hu hs) mi_X0_registerOf wl_X0_23 (sh2 hcd) (kd_lt hcd (by decide)) rfl rfl rfl hl.1 rfl (Nat.le_of_ble_eq_true rfl) dX0_familyFrom_3 ⟨by decide, by decide⟩ ⟨Nat.le_refl 0, Nat.le_refl 0⟩) hM sgA (fun r_3 σ_3 H locs hp_3 hM => ?_)
  obtain ⟨hr_3, hs_3⟩ := hp_3; subst r_3; subst σ_3
  refine lv_istore_n (lv' := [(3, .int (nI (rg m s u))), (0, .ref (b + cd)), (1, .int (nI s)), (2, .int (nI u))]) hx hb dX0_familyFrom_6 rfl hl (by decide) rfl (fun ls hl => ?_)
  refine lv_iconst (v := nI 2) hx hb dX0_familyFrom_7 (by decide) ?_
  refine lv_iload_n hx hb dX0_familyFrom_8 rfl (lv_at hl 0 rfl) ?_
  refine lv_aload_n hx hb dX0_familyFrom_9 rfl (lv_at hl 1 rfl) ?_
  refine sg_get (v := .int (σ cd 1)) hx hb hts hown hK hM (sh2 hcd) (kd_lt hcd (by decide)) rfl inX0 1 (by decide) wf_X0_17 rfl dX0_familyFrom_10 ?_
  refine sn_top (y := nI g) (hc.2.1) ?_
  refine sn_iand hx hb dX0_familyFrom_13 ?_
  refine sg_ci (sg_runS (d := 0) (As := [.int (nI ((rg m s u) &&& g))]) (rest := [.int (nI 2)]) hx hb hml hts hown hK hM (c_bitCount l G b σ (rg m s u &&& g) (and_16 (rg_16 hc.m hu hs))) mi_J6_bitCount_0f7a4 wl_X0_27 rfl hl.1 rfl (Nat.le_of_ble_eq_true rfl) dX0_familyFrom_14 ⟨by decide, by decide⟩ ⟨Nat.le_refl 0, Nat.le_refl 0⟩) hM sgA (fun r_14 σ_14 H locs hp_14 hM => ?_)
  obtain ⟨hr_14, hs_14⟩ := hp_14; subst r_14; subst σ_14
  refine lv_iconst (v := nI 2) hx hb dX0_familyFrom_17 (by decide) ?_
  refine sn_irem hx hb dX0_familyFrom_18 (by unfold pc1; omega) (by omega) (by omega) ?_
  refine sn_imul hx hb dX0_familyFrom_19 ?_
  refine lv_iload_n hx hb dX0_familyFrom_20 rfl (lv_at hl 0 rfl) ?_
  refine lv_aload_n hx hb dX0_familyFrom_21 rfl (lv_at hl 1 rfl) ?_
  refine sg_get (v := .int (σ cd 2)) hx hb hts hown hK hM (sh2 hcd) (kd_lt hcd (by decide)) rfl inX0 2 (by decide) wf_X0_20 rfl dX0_familyFrom_22 ?_
  refine sn_top (y := nI h) (hc.2.2.1) ?_
  refine sn_iand hx hb dX0_familyFrom_25 ?_
  refine sg_ci (sg_runS (d := 0) (As := [.int (nI ((rg m s u) &&& h))]) (rest := [.int (nI (2 * ((pc1 (rg m s u &&& g)) % 2)))]) hx hb hml hts hown hK hM (c_bitCount l G b σ (rg m s u &&& h) (and_16 (rg_16 hc.m hu hs))) mi_J6_bitCount_0f7a4 wl_X0_27 rfl hl.1 rfl (Nat.le_of_ble_eq_true rfl) dX0_familyFrom_26 ⟨by decide, by decide⟩ ⟨Nat.le_refl 0, Nat.le_refl 0⟩) hM sgA (fun r_26 σ_26 H locs hp_26 hM => ?_)
  obtain ⟨hr_26, hs_26⟩ := hp_26; subst r_26; subst σ_26
  refine lv_iconst (v := nI 2) hx hb dX0_familyFrom_29 (by decide) ?_
  refine sn_irem hx hb dX0_familyFrom_30 (by unfold pc1; omega) (by omega) (by omega) ?_
  refine sn_iadd hx hb dX0_familyFrom_31 ?_
  exact hret _ _ _ _ _ _ dX0_familyFrom_32 hM (⟨rfl, rfl⟩)
set_option maxHeartbeats 4000000 in
set_option maxRecDepth 100000 in
theorem c_Row_isFull (l : Launch) (G : GT) (b : Nat) (σ : Mem) (r n : Nat) (hr : kd r = 3) (h0 : σ r 0 = nI n) (hn : n ≤ 24) : KZ l G b yX7_isFull cX7_isFull 1 0 σ [.ref (b + r)] (fun r σ' => r = bz (decide (24 ≤ n)) ∧ σ' = σ) := by
  refine sg_metZ [.ref (b + r)] (by decide) (Nat.le_of_ble_eq_true rfl) ?_
  intro vp ve vs vm args below meth vc ls Q hx hb hml hown hts hK hM hl hret
  have hl : lv_has ls 1 [(0, .ref (b + r))] := hl
  refine lv_aload_n hx hb dX7_isFull_0 rfl (lv_at hl 0 rfl) ?_
  refine sg_get (v := .int (σ r 0)) hx hb hts hown hK hM (sh3 hr) (kd_lt hr (by decide)) rfl inX7 0 (by decide) wf_X7_24 rfl dX7_isFull_1 ?_
  refine sn_top (y := nI n) (h0) ?_
  refine lv_bipush (v := nI 24) hx hb dX7_isFull_4 (by decide) ?_
  refine sn_icmp_lt (tgt := 13) hx hb dX7_isFull_6 (by decide) (by omega) (by omega) (fun c_6 => ?_) (fun c_6 => ?_)
  · refine lv_iconst (v := nI 0) hx hb dX7_isFull_13 (by decide) ?_
    exact hret _ _ (decide (24 ≤ n)) _ _ _ _ dX7_isFull_14 hM (by first | rw [decide_eq_true (by omega)]; rfl | rw [decide_eq_false (by omega)]; rfl) (⟨rfl, rfl⟩)
  · refine lv_iconst (v := nI 1) hx hb dX7_isFull_9 (by decide) ?_
    refine lv_goto (tgt := 14) hx hb dX7_isFull_10 (by decide) ?_
    exact hret _ _ (decide (24 ≤ n)) _ _ _ _ dX7_isFull_14 hM (by first | rw [decide_eq_true (by omega)]; rfl | rw [decide_eq_false (by omega)]; rfl) (⟨rfl, rfl⟩)
set_option maxHeartbeats 4000000 in
set_option maxRecDepth 100000 in
theorem c_Pl_isFull (l : Launch) (G : GT) (b : Nat) (σ : Mem) (r n : Nat) (hr : kd r = 5) (h0 : σ r 0 = nI n) (hn : n ≤ 24) : KZ l G b yX6_isFull cX6_isFull 1 0 σ [.ref (b + r)] (fun r σ' => r = bz (decide (24 ≤ n)) ∧ σ' = σ) := by
  refine sg_metZ [.ref (b + r)] (by decide) (Nat.le_of_ble_eq_true rfl) ?_
  intro vp ve vs vm args below meth vc ls Q hx hb hml hown hts hK hM hl hret
  have hl : lv_has ls 1 [(0, .ref (b + r))] := hl
  refine lv_aload_n hx hb dX6_isFull_0 rfl (lv_at hl 0 rfl) ?_
  refine sg_get (v := .int (σ r 0)) hx hb hts hown hK hM (sh5 hr) (kd_lt hr (by decide)) rfl inX6 0 (by decide) wf_X6_18 rfl dX6_isFull_1 ?_
  refine sn_top (y := nI n) (h0) ?_
  refine lv_bipush (v := nI 24) hx hb dX6_isFull_4 (by decide) ?_
  refine sn_icmp_lt (tgt := 13) hx hb dX6_isFull_6 (by decide) (by omega) (by omega) (fun c_6 => ?_) (fun c_6 => ?_)
  · refine lv_iconst (v := nI 0) hx hb dX6_isFull_13 (by decide) ?_
    exact hret _ _ (decide (24 ≤ n)) _ _ _ _ dX6_isFull_14 hM (by first | rw [decide_eq_true (by omega)]; rfl | rw [decide_eq_false (by omega)]; rfl) (⟨rfl, rfl⟩)
  · refine lv_iconst (v := nI 1) hx hb dX6_isFull_9 (by decide) ?_
    refine lv_goto (tgt := 14) hx hb dX6_isFull_10 (by decide) ?_
    exact hret _ _ (decide (24 ≤ n)) _ _ _ _ dX6_isFull_14 hM (by first | rw [decide_eq_true (by omega)]; rfl | rw [decide_eq_false (by omega)]; rfl) (⟨rfl, rfl⟩)
set_option maxHeartbeats 4000000 in
set_option maxRecDepth 100000 in
theorem c_Row_last (l : Launch) (G : GT) (b : Nat) (σ : Mem) (r n : Nat) (hr : kd r = 3) (h0 : σ r 0 = nI n) (hn : n ≤ 24) : KI l G b yX7_lastState cX7_lastState 1 0 σ [.ref (b + r)] (fun r' σ' => r' = lastV σ r n ∧ σ' = σ) := by
  refine sg_metI [.ref (b + r)] (by decide) (Nat.le_of_ble_eq_true rfl) ?_
  intro vp ve vs vm args below meth vc ls Q hx hb hml hown hts hK hM hl hret
  have hl : lv_has ls 1 [(0, .ref (b + r))] := hl
  refine lv_aload_n hx hb dX7_lastState_0 rfl (lv_at hl 0 rfl) ?_
  refine sg_get (v := .int (σ r 0)) hx hb hts hown hK hM (sh3 hr) (kd_lt hr (by decide)) rfl inX7 0 (by decide) wf_X7_24 rfl dX7_lastState_1 ?_
  refine sn_top (y := nI n) (h0) ?_
  refine sn_if_ne (tgt := 11) hx hb dX7_lastState_4 (by decide) (by omega) (fun c_4 => ?_) (fun c_4 => ?_)
  · refine lv_aload_n hx hb dX7_lastState_11 rfl (lv_at hl 0 rfl) ?_
    refine sg_get (v := .ref (b + (r + 4))) hx hb hts hown hK hM (sh3 hr) (kd_lt hr (by decide)) rfl inX7 4 (by decide) wf_X7_21 rfl dX7_lastState_12 ?_
    refine lv_aload_n hx hb dX7_lastState_15 rfl (lv_at hl 0 rfl) ?_
    refine sg_get (v := .int (σ r 0)) hx hb hts hown hK hM (sh3 hr) (kd_lt hr (by decide)) rfl inX7 0 (by decide) wf_X7_24 rfl dX7_lastState_16 ?_
    refine sn_top (y := nI n) (h0) ?_
    refine lv_iconst (v := nI 1) hx hb dX7_lastState_19 (by decide) ?_
    refine sn_isub hx hb dX7_lastState_20 (by omega) ?_
    refine sg_iald hx hb hK hM (sh4 (kR4 hr)) (kd_lt (kR4 hr) (by decide)) (i := n - 1) (by omega) (by decide) dX7_lastState_21 ?_
    exact hret _ _ _ _ _ _ dX7_lastState_22 hM (⟨by unfold lastV; first | rw [if_pos (by omega)] | rw [if_neg (by omega)], rfl⟩)
  · refine lv_iconst (v := nI 0) hx hb dX7_lastState_7 (by decide) ?_
    refine lv_goto (tgt := 22) hx hb dX7_lastState_8 (by decide) ?_
    exact hret _ _ _ _ _ _ dX7_lastState_22 hM (⟨by unfold lastV; first | rw [if_pos (by omega)] | rw [if_neg (by omega)], rfl⟩)
set_option maxHeartbeats 4000000 in
set_option maxRecDepth 100000 in
theorem c_Row_part (l : Launch) (G : GT) (b : Nat) (σ : Mem) (r k : Nat) (what : Int32) (hr : kd r = 3) (hk : k < 24) : KI l G b yX7_partOf cX7_partOf 3 0 σ [.ref (b + r), .int (nI k), .int what] (fun r' σ' => r' = partV σ r k what ∧ σ' = σ) := by
  refine sg_metI [.ref (b + r), .int (nI k), .int what] (by decide) (Nat.le_of_ble_eq_true rfl) ?_
  intro vp ve vs vm args below meth vc ls Q hx hb hml hown hts hK hM hl hret
  have hl : lv_has ls 3 [(0, .ref (b + r)), (1, .int (nI k)), (2, .int what)] := hl
  refine lv_iload_n hx hb dX7_partOf_0 rfl (lv_at hl 2 rfl) ?_
  rcases swc what 3 with c_1 | ⟨j, hj, c_1⟩
  · refine lv_tableOut (tgt := 60) hx hb dX7_partOf_1 c_1 (by decide) ?_
    refine lv_ldc (v := (-1000000002)) hx hb hown (hts (Cond.constant RX7 51 ((-1000000002))) wk_X7_51) dX7_partOf_60 ?_
    exact hret _ _ _ _ _ _ dX7_partOf_62 hM (⟨(partV_out c_1).symm, rfl⟩)
  · match j, hj with
    | 0, _ =>
      subst c_1
      refine lv_tableIn (tgt := 32) (off := 31) hx hb dX7_partOf_1 (by decide) (by decide) (by decide) (by decide) ?_
      have hl : lv_has ls 3 [(0, .ref (b + r)), (1, .int (nI k)), (2, .int (nI 0))] := hl
      refine lv_aload_n hx hb dX7_partOf_32 rfl (lv_at hl 0 rfl) ?_
      refine sg_get (v := .ref (b + (r + 1))) hx hb hts hown hK hM (sh3 hr) (kd_lt hr (by decide)) rfl inX7 1 (by decide) wf_X7_9 rfl dX7_partOf_33 ?_
      refine lv_iload_n hx hb dX7_partOf_36 rfl (lv_at hl 1 rfl) ?_
      refine sg_iald hx hb hK hM (sh4 (kR1 hr)) (kd_lt (kR1 hr) (by decide)) (i := k) (by omega) (by decide) dX7_partOf_37 ?_
      exact hret _ _ _ _ _ _ dX7_partOf_38 hM (⟨rfl, rfl⟩)
    | 1, _ =>
      subst c_1
      refine lv_tableIn (tgt := 39) (off := 38) hx hb dX7_partOf_1 (by decide) (by decide) (by decide) (by decide) ?_
      have hl : lv_has ls 3 [(0, .ref (b + r)), (1, .int (nI k)), (2, .int (nI 1))] := hl
      refine lv_aload_n hx hb dX7_partOf_39 rfl (lv_at hl 0 rfl) ?_
      refine sg_get (v := .ref (b + (r + 2))) hx hb hts hown hK hM (sh3 hr) (kd_lt hr (by decide)) rfl inX7 2 (by decide) wf_X7_15 rfl dX7_partOf_40 ?_
      refine lv_iload_n hx hb dX7_partOf_43 rfl (lv_at hl 1 rfl) ?_
      refine sg_iald hx hb hK hM (sh4 (kR2 hr)) (kd_lt (kR2 hr) (by decide)) (i := k) (by omega) (by decide) dX7_partOf_44 ?_
      exact hret _ _ _ _ _ _ dX7_partOf_45 hM (⟨rfl, rfl⟩)
    | 2, _ =>
      subst c_1
      refine lv_tableIn (tgt := 46) (off := 45) hx hb dX7_partOf_1 (by decide) (by decide) (by decide) (by decide) ?_
      have hl : lv_has ls 3 [(0, .ref (b + r)), (1, .int (nI k)), (2, .int (nI 2))] := hl
      refine lv_aload_n hx hb dX7_partOf_46 rfl (lv_at hl 0 rfl) ?_
      refine sg_get (v := .ref (b + (r + 3))) hx hb hts hown hK hM (sh3 hr) (kd_lt hr (by decide)) rfl inX7 3 (by decide) wf_X7_18 rfl dX7_partOf_47 ?_
      refine lv_iload_n hx hb dX7_partOf_50 rfl (lv_at hl 1 rfl) ?_
      refine sg_iald hx hb hK hM (sh4 (kR3 hr)) (kd_lt (kR3 hr) (by decide)) (i := k) (by omega) (by decide) dX7_partOf_51 ?_
      exact hret _ _ _ _ _ _ dX7_partOf_52 hM (⟨rfl, rfl⟩)
    | 3, _ =>
      subst c_1
      refine lv_tableIn (tgt := 53) (off := 52) hx hb dX7_partOf_1 (by decide) (by decide) (by decide) (by decide) ?_
      have hl : lv_has ls 3 [(0, .ref (b + r)), (1, .int (nI k)), (2, .int (nI 3))] := hl
      refine lv_aload_n hx hb dX7_partOf_53 rfl (lv_at hl 0 rfl) ?_
      refine sg_get (v := .ref (b + (r + 4))) hx hb hts hown hK hM (sh3 hr) (kd_lt hr (by decide)) rfl inX7 4 (by decide) wf_X7_21 rfl dX7_partOf_54 ?_
      refine lv_iload_n hx hb dX7_partOf_57 rfl (lv_at hl 1 rfl) ?_
      refine sg_iald hx hb hK hM (sh4 (kR4 hr)) (kd_lt (kR4 hr) (by decide)) (i := k) (by omega) (by decide) dX7_partOf_58 ?_
      exact hret _ _ _ _ _ _ dX7_partOf_59 hM (⟨rfl, rfl⟩)
    | j + 4, hj => exact absurd hj (by omega)
set_option maxHeartbeats 4000000 in
set_option maxRecDepth 100000 in
theorem c_Row_append (l : Launch) (G : GT) (b : Nat) (σ : Mem) (r n cd m g h s u w : Nat) (hr : kd r = 3) (hcd : kd cd = 2) (hc : CodeAt σ cd m g h) (h0 : σ r 0 = nI n) (hn : n < 24) (hls : lastV σ r n = nI s) (hs : s < 2 ^ m) (hu : u < 2) (hw : w < 4) : KI l G b yX7_append cX7_append 6 2 σ [.ref (b + r), .ref (b + cd), .int (nI u), .int (nI w)] (fun r' σ' => r' = nI (pt (fam m g h s u) w) ∧ σ' = rowApp σ r n u w (pt (fam m g h s u) w) (nx m s u)) := by
  refine sg_metI [.ref (b + r), .ref (b + cd), .int (nI u), .int (nI w)] (by decide) (Nat.le_of_ble_eq_true rfl) ?_
  intro vp ve vs vm args below meth vc ls Q hx hb hml hown hts hK hM hl hret
  have hl : lv_has ls 6 [(0, .ref (b + r)), (1, .ref (b + cd)), (2, .int (nI u)), (3, .int (nI w))] := hl
  have n1 := kd_ne hcd (kR1 hr) (by decide)
  have n2 := kd_ne hcd (kR2 hr) (by decide)
  have n3 := kd_ne hcd (kR3 hr) (by decide)
  refine lv_aload_n hx hb dX7_append_0 rfl (lv_at hl 0 rfl) ?_
  refine sg_ci (sg_runV (d := 0) (As := []) (rest := []) hx hb hml hts hown hK hM (c_Row_isFull l G b σ r n hr h0 (by omega)) mi_X7_isFull wl_X7_28 (sh3 hr) (kd_lt hr (by decide)) rfl rfl rfl hl.1 rfl (Nat.le_of_ble_eq_true rfl) dX7_append_1 ⟨by decide, by decide⟩ ⟨Nat.le_refl 0, Nat.le_refl 0⟩) hM sgA (fun r_1 σ_1 H locs hp_1 hM => ?_)
  obtain ⟨hr_1, hs_1⟩ := hp_1; subst r_1; subst σ_1
  refine sn_ifz_eq (tgt := 10) hx hb dX7_append_4 (by decide) (fun c_4 => ?_) (fun c_4 => ?_)
  · refine lv_aload_n hx hb dX7_append_10 rfl (lv_at hl 0 rfl) ?_
    refine sg_ci (sg_runV (d := 0) (As := []) (rest := []) hx hb hml hts hown hK hM (c_Row_last l G b σ r n hr h0 (by omega)) mi_X7_lastState wl_X7_33 (sh3 hr) (kd_lt hr (by decide)) rfl rfl rfl hl.1 rfl (Nat.le_of_ble_eq_true rfl) dX7_append_11 ⟨by decide, by decide⟩ ⟨Nat.le_refl 0, Nat.le_refl 0⟩) hM sgA (fun r_11 σ_11 H locs hp_11 hM => ?_)
    obtain ⟨hr_11, hs_11⟩ := hp_11; subst r_11; subst σ_11
    refine sn_top (y := nI s) (hls) ?_
    refine lv_istore (lv' := [(4, .int (nI s)), (0, .ref (b + r)), (1, .ref (b + cd)), (2, .int (nI u)), (3, .int (nI w))]) hx hb dX7_append_14 hl (by decide) rfl (fun ls hl => ?_)
    refine lv_aload_n hx hb dX7_append_16 rfl (lv_at hl 2 rfl) ?_
    refine lv_iload hx hb dX7_append_17 (lv_at hl 0 rfl) ?_
    refine lv_iload_n hx hb dX7_append_19 rfl (lv_at hl 3 rfl) ?_
    refine sg_ci (sg_runV (d := 1) (As := [.int (nI s), .int (nI u)]) (rest := []) hx hb hml hts hown hK hM (c_Code_fam l G b σ cd m g h s u hcd (hc) (hu) (hs)) mi_X0_familyFrom wl_X7_37 (sh2 hcd) (kd_lt hcd (by decide)) rfl rfl rfl hl.1 rfl (Nat.le_of_ble_eq_true rfl) dX7_append_20 ⟨by decide, by decide⟩ ⟨Nat.le_refl 0, Nat.le_refl 0⟩) hM sgA (fun r_20 σ_20 H locs hp_20 hM => ?_)
    obtain ⟨hr_20, hs_20⟩ := hp_20; subst r_20; subst σ_20
    refine lv_iload_n hx hb dX7_append_23 rfl (lv_at hl 4 rfl) ?_
    refine sg_ci (sg_runS (d := 0) (As := [.int (nI (fam m g h s u)), .int (nI w)]) (rest := []) hx hb hml hts hown hK hM (c_g_pointOf l G b σ (fam m g h s u) w (by first | omega | exact fam_lt _ _ _ _ _ | exact gf_lt _ | exact tf_lt _ | exact pt_lt (by first | omega | exact fam_lt _ _ _ _ _) (by omega) | exact tn_lt (by first | omega | exact pt_lt (by omega) (by omega))) (by first | omega | exact fam_lt _ _ _ _ _ | exact gf_lt _ | exact tf_lt _ | exact pt_lt (by first | omega | exact fam_lt _ _ _ _ _) (by omega) | exact tn_lt (by first | omega | exact pt_lt (by omega) (by omega)))) mi_X1_pointOf wl_X7_43 rfl hl.1 rfl (Nat.le_of_ble_eq_true rfl) dX7_append_24 ⟨by decide, by decide⟩ ⟨Nat.le_refl 0, Nat.le_refl 0⟩) hM sgA (fun r_24 σ_24 H locs hp_24 hM => ?_)
    obtain ⟨hr_24, hs_24⟩ := hp_24; subst r_24; subst σ_24
    refine lv_istore (lv' := [(5, .int (nI (pt (fam m g h s u) w))), (4, .int (nI s)), (0, .ref (b + r)), (1, .ref (b + cd)), (2, .int (nI u)), (3, .int (nI w))]) hx hb dX7_append_27 hl (by decide) rfl (fun ls hl => ?_)
    refine lv_aload_n hx hb dX7_append_29 rfl (lv_at hl 2 rfl) ?_
    refine sg_get (v := .ref (b + (r + 1))) hx hb hts hown hK hM (sh3 hr) (kd_lt hr (by decide)) rfl inX7 1 (by decide) wf_X7_9 rfl dX7_append_30 ?_
    refine lv_aload_n hx hb dX7_append_33 rfl (lv_at hl 2 rfl) ?_
    refine sg_get (v := .int (σ r 0)) hx hb hts hown hK hM (sh3 hr) (kd_lt hr (by decide)) rfl inX7 0 (by decide) wf_X7_24 rfl dX7_append_34 ?_
    refine sn_top (y := nI n) (h0) ?_
    refine lv_iload_n hx hb dX7_append_37 rfl (lv_at hl 4 rfl) ?_
    refine sg_iast hx hb hK hM sgA (fun f => sh4 (kR1 hr)) (kd_lt (kR1 hr) (by decide)) (i := n) (by omega) (by decide) dX7_append_38 (fun H locs hM => ?_)
    refine lv_aload_n hx hb dX7_append_39 rfl (lv_at hl 2 rfl) ?_
    refine sg_get (v := .ref (b + (r + 2))) hx hb hts hown hK hM (sh3 hr) (kd_lt hr (by decide)) rfl inX7 2 (by decide) wf_X7_15 rfl dX7_append_40 ?_
    refine lv_aload_n hx hb dX7_append_43 rfl (lv_at hl 2 rfl) ?_
    refine sg_get (v := .int ((m2 σ (r + 1) n (nI u)) r 0)) hx hb hts hown hK hM (sh3 hr) (kd_lt hr (by decide)) rfl inX7 0 (by decide) wf_X7_24 rfl dX7_append_44 ?_
    refine sn_top (y := nI n) (by rw [m2_o (by omega)]; exact h0) ?_
    refine lv_iload_n hx hb dX7_append_47 rfl (lv_at hl 5 rfl) ?_
    refine sg_iast hx hb hK hM sgA (fun f => sh4 (kR2 hr)) (kd_lt (kR2 hr) (by decide)) (i := n) (by omega) (by decide) dX7_append_48 (fun H locs hM => ?_)
    refine lv_aload_n hx hb dX7_append_49 rfl (lv_at hl 2 rfl) ?_
    refine sg_get (v := .ref (b + (r + 3))) hx hb hts hown hK hM (sh3 hr) (kd_lt hr (by decide)) rfl inX7 3 (by decide) wf_X7_18 rfl dX7_append_50 ?_
    refine lv_aload_n hx hb dX7_append_53 rfl (lv_at hl 2 rfl) ?_
    refine sg_get (v := .int ((m2 (m2 σ (r + 1) n (nI u)) (r + 2) n (nI w)) r 0)) hx hb hts hown hK hM (sh3 hr) (kd_lt hr (by decide)) rfl inX7 0 (by decide) wf_X7_24 rfl dX7_append_54 ?_
    refine sn_top (y := nI n) (by rw [m2_o (by omega), m2_o (by omega)]; exact h0) ?_
    refine lv_iload hx hb dX7_append_57 (lv_at hl 0 rfl) ?_
    refine sg_iast hx hb hK hM sgA (fun f => sh4 (kR3 hr)) (kd_lt (kR3 hr) (by decide)) (i := n) (by omega) (by decide) dX7_append_59 (fun H locs hM => ?_)
    refine lv_aload_n hx hb dX7_append_60 rfl (lv_at hl 2 rfl) ?_
    refine sg_get (v := .ref (b + (r + 4))) hx hb hts hown hK hM (sh3 hr) (kd_lt hr (by decide)) rfl inX7 4 (by decide) wf_X7_21 rfl dX7_append_61 ?_
    refine lv_aload_n hx hb dX7_append_64 rfl (lv_at hl 2 rfl) ?_
    refine sg_get (v := .int ((m2 (m2 (m2 σ (r + 1) n (nI u)) (r + 2) n (nI w)) (r + 3) n (nI (pt (fam m g h s u) w))) r 0)) hx hb hts hown hK hM (sh3 hr) (kd_lt hr (by decide)) rfl inX7 0 (by decide) wf_X7_24 rfl dX7_append_65 ?_
    refine sn_top (y := nI n) (by rw [m2_o (by omega), m2_o (by omega), m2_o (by omega)]; exact h0) ?_
    refine lv_aload_n hx hb dX7_append_68 rfl (lv_at hl 3 rfl) ?_
    refine lv_iload hx hb dX7_append_69 (lv_at hl 1 rfl) ?_
    refine lv_iload_n hx hb dX7_append_71 rfl (lv_at hl 4 rfl) ?_
    refine sg_ci (sg_runV (d := 1) (As := [.int (nI s), .int (nI u)]) (rest := [.int (nI n), .ref (b + (r + 4))]) hx hb hml hts hown hK hM (c_Code_next l G b (m2 (m2 (m2 σ (r + 1) n (nI u)) (r + 2) n (nI w)) (r + 3) n (nI (pt (fam m g h s u) w))) cd m g h s u hcd (hc.keep (by rw [m2_o (by assumption), m2_o (by assumption), m2_o (by assumption)])) (hu) (hs)) mi_X0_stateAfter wl_X7_48 (sh2 hcd) (kd_lt hcd (by decide)) rfl rfl rfl hl.1 rfl (Nat.le_of_ble_eq_true rfl) dX7_append_72 ⟨by decide, by decide⟩ ⟨Nat.le_refl 0, Nat.le_refl 0⟩) hM sgA (fun r_72 σ_72 H locs hp_72 hM => ?_)
    obtain ⟨hr_72, hs_72⟩ := hp_72; subst r_72; subst σ_72
    refine sg_iast hx hb hK hM sgA (fun f => sh4 (kR4 hr)) (kd_lt (kR4 hr) (by decide)) (i := n) (by omega) (by decide) dX7_append_75 (fun H locs hM => ?_)
    refine lv_aload_n hx hb dX7_append_76 rfl (lv_at hl 2 rfl) ?_
    refine lv_dup hx hb dX7_append_77 rfl ?_
    refine sg_get (v := .int ((m2 (m2 (m2 (m2 σ (r + 1) n (nI u)) (r + 2) n (nI w)) (r + 3) n (nI (pt (fam m g h s u) w))) (r + 4) n (nI (nx m s u))) r 0)) hx hb hts hown hK hM (sh3 hr) (kd_lt hr (by decide)) rfl inX7 0 (by decide) wf_X7_24 rfl dX7_append_78 ?_
    refine sn_top (y := nI n) (by rw [m2_o (by omega), m2_o (by omega), m2_o (by omega), m2_o (by omega)]; exact h0) ?_
    refine lv_iconst (v := nI 1) hx hb dX7_append_81 (by decide) ?_
    refine sn_iadd hx hb dX7_append_82 ?_
    refine sg_put (v := nI (n + 1)) (ty := .int) hx hb hts hown hK hM sgA (sh3 hr) (kd_lt hr (by decide)) rfl inX7 tyX7 tyX7_ok nmX7 0 (by decide) wf_X7_24 rfl (by decide +kernel) rfl rfl (Nat.le_of_ble_eq_true rfl) (by rw [sh3 hr]; rfl) dX7_append_83 (fun H locs hM => ?_)
    refine lv_iload hx hb dX7_append_86 (lv_at hl 0 rfl) ?_
    exact hret _ _ _ _ _ _ dX7_append_88 hM (⟨rfl, rfl⟩)
  · exact absurd c_4 (by rw [decide_eq_false (by omega)]; decide)
set_option maxHeartbeats 4000000 in
set_option maxRecDepth 100000 in
theorem c_Pl_append (l : Launch) (G : GT) (b : Nat) (σ : Mem) (r n : Nat) (x y : Int32) (hr : kd r = 5) (h0 : σ r 0 = nI n) (hn : n < 24) : KV l G b yX6_append cX6_append 3 1 σ [.ref (b + r), .int x, .int y] (fun σ' => σ' = plApp σ r n x y) := by
  refine sg_metV [.ref (b + r), .int x, .int y] (by decide) (Nat.le_of_ble_eq_true rfl) ?_
  intro vp ve vs vm args below meth vc ls Q hx hb hml hown hts hK hM hl hret
  have hl : lv_has ls 3 [(0, .ref (b + r)), (1, .int x), (2, .int y)] := hl
  refine lv_aload_n hx hb dX6_append_0 rfl (lv_at hl 0 rfl) ?_
  refine sg_ci (sg_runV (d := 0) (As := []) (rest := []) hx hb hml hts hown hK hM (c_Pl_isFull l G b σ r n hr h0 (by omega)) mi_X6_isFull wl_X6_22 (sh5 hr) (kd_lt hr (by decide)) rfl rfl rfl hl.1 rfl (Nat.le_of_ble_eq_true rfl) dX6_append_1 ⟨by decide, by decide⟩ ⟨Nat.le_refl 0, Nat.le_refl 0⟩) hM sgA (fun r_1 σ_1 H locs hp_1 hM => ?_)
  obtain ⟨hr_1, hs_1⟩ := hp_1; subst r_1; subst σ_1
  refine sn_ifz_eq (tgt := 8) hx hb dX6_append_4 (by decide) (fun c_4 => ?_) (fun c_4 => ?_)
  · refine lv_aload_n hx hb dX6_append_8 rfl (lv_at hl 0 rfl) ?_
    refine sg_get (v := .ref (b + (r + 1))) hx hb hts hown hK hM (sh5 hr) (kd_lt hr (by decide)) rfl inX6 1 (by decide) wf_X6_9 rfl dX6_append_9 ?_
    refine lv_aload_n hx hb dX6_append_12 rfl (lv_at hl 0 rfl) ?_
    refine sg_get (v := .int (σ r 0)) hx hb hts hown hK hM (sh5 hr) (kd_lt hr (by decide)) rfl inX6 0 (by decide) wf_X6_18 rfl dX6_append_13 ?_
    refine sn_top (y := nI n) (h0) ?_
    refine lv_iload_n hx hb dX6_append_16 rfl (lv_at hl 1 rfl) ?_
    refine sg_iast hx hb hK hM sgA (fun f => sh4 (kP1 hr)) (kd_lt (kP1 hr) (by decide)) (i := n) (by omega) (by decide) dX6_append_17 (fun H locs hM => ?_)
    refine lv_aload_n hx hb dX6_append_18 rfl (lv_at hl 0 rfl) ?_
    refine sg_get (v := .ref (b + (r + 2))) hx hb hts hown hK hM (sh5 hr) (kd_lt hr (by decide)) rfl inX6 2 (by decide) wf_X6_15 rfl dX6_append_19 ?_
    refine lv_aload_n hx hb dX6_append_22 rfl (lv_at hl 0 rfl) ?_
    refine sg_get (v := .int ((m2 σ (r + 1) n x) r 0)) hx hb hts hown hK hM (sh5 hr) (kd_lt hr (by decide)) rfl inX6 0 (by decide) wf_X6_18 rfl dX6_append_23 ?_
    refine sn_top (y := nI n) (by rw [m2_o (by omega)]; exact h0) ?_
    refine lv_iload_n hx hb dX6_append_26 rfl (lv_at hl 2 rfl) ?_
    refine sg_iast hx hb hK hM sgA (fun f => sh4 (kP2 hr)) (kd_lt (kP2 hr) (by decide)) (i := n) (by omega) (by decide) dX6_append_27 (fun H locs hM => ?_)
    refine lv_aload_n hx hb dX6_append_28 rfl (lv_at hl 0 rfl) ?_
    refine lv_dup hx hb dX6_append_29 rfl ?_
    refine sg_get (v := .int ((m2 (m2 σ (r + 1) n x) (r + 2) n y) r 0)) hx hb hts hown hK hM (sh5 hr) (kd_lt hr (by decide)) rfl inX6 0 (by decide) wf_X6_18 rfl dX6_append_30 ?_
    refine sn_top (y := nI n) (by rw [m2_o (by omega), m2_o (by omega)]; exact h0) ?_
    refine lv_iconst (v := nI 1) hx hb dX6_append_33 (by decide) ?_
    refine sn_iadd hx hb dX6_append_34 ?_
    refine sg_put (v := nI (n + 1)) (ty := .int) hx hb hts hown hK hM sgA (sh5 hr) (kd_lt hr (by decide)) rfl inX6 tyX6 tyX6_ok nmX6 0 (by decide) wf_X6_18 rfl (by decide +kernel) rfl rfl (Nat.le_of_ble_eq_true rfl) (by rw [sh5 hr]; rfl) dX6_append_35 (fun H locs hM => ?_)
    exact hret _ _ _ _ _ dX6_append_38 hM (rfl)
  · exact absurd c_4 (by rw [decide_eq_false (by omega)]; decide)
set_option maxHeartbeats 4000000 in
set_option maxRecDepth 100000 in
theorem c_Row_become (l : Launch) (G : GT) (b : Nat) (σ : Mem) (r o n : Nat) (hr : kd r = 3) (ho : kd o = 3) (h0 : σ o 0 = nI n) (hn : n ≤ 24) : KV l G b yX7_become cX7_become 2 1 σ [.ref (b + r), .ref (b + o)] (fun σ' => σ' = rowCp σ r o n) := by
  refine sg_metV [.ref (b + r), .ref (b + o)] (by decide) (Nat.le_of_ble_eq_true rfl) ?_
  intro vp ve vs vm args below meth vc ls Q hx hb hml hown hts hK hM hl hret
  have hl : lv_has ls 2 [(0, .ref (b + r)), (1, .ref (b + o))] := hl
  refine lv_aload_n hx hb dX7_become_0 rfl (lv_at hl 0 rfl) ?_
  refine lv_aload_n hx hb dX7_become_1 rfl (lv_at hl 1 rfl) ?_
  refine sg_get (v := .int (σ o 0)) hx hb hts hown hK hM (sh3 ho) (kd_lt ho (by decide)) rfl inX7 0 (by decide) wf_X7_24 rfl dX7_become_2 ?_
  refine sn_top (y := nI n) (h0) ?_
  refine sg_put (v := nI n) (ty := .int) hx hb hts hown hK hM sgA (sh3 hr) (kd_lt hr (by decide)) rfl inX7 tyX7 tyX7_ok nmX7 0 (by decide) wf_X7_24 rfl (by decide +kernel) rfl rfl (Nat.le_of_ble_eq_true rfl) (by rw [sh3 hr]; rfl) dX7_become_5 (fun H locs hM => ?_)
  refine lv_aload_n hx hb dX7_become_8 rfl (lv_at hl 1 rfl) ?_
  refine sg_get (v := .ref (b + (o + 1))) hx hb hts hown hK hM (sh3 ho) (kd_lt ho (by decide)) rfl inX7 1 (by decide) wf_X7_9 rfl dX7_become_9 ?_
  refine lv_iconst (v := nI 0) hx hb dX7_become_12 (by decide) ?_
  refine lv_aload_n hx hb dX7_become_13 rfl (lv_at hl 0 rfl) ?_
  refine sg_get (v := .ref (b + (r + 1))) hx hb hts hown hK hM (sh3 hr) (kd_lt hr (by decide)) rfl inX7 1 (by decide) wf_X7_9 rfl dX7_become_14 ?_
  refine lv_iconst (v := nI 0) hx hb dX7_become_17 (by decide) ?_
  refine lv_aload_n hx hb dX7_become_18 rfl (lv_at hl 0 rfl) ?_
  refine sg_get (v := .int ((m2 σ r 0 (nI n)) r 0)) hx hb hts hown hK hM (sh3 hr) (kd_lt hr (by decide)) rfl inX7 0 (by decide) wf_X7_24 rfl dX7_become_19 ?_
  refine sn_top (y := nI n) (by rw [m2_ss]) ?_
  refine sg_copy hx hb (by rw [hml]; exact hl.1.symm) hts hown hK hM sgA wl_X7_52 (n := n) (sh4 (kR1 ho)) (fun f => sh4 (kR1 hr)) (kd_lt (kR1 ho) (by decide)) (kd_lt (kR1 hr) (by decide)) (by omega) (by omega) (by omega) (by decide) (Nat.le_of_ble_eq_true rfl) dX7_become_22 (fun H locs hM => ?_)
  refine lv_aload_n hx hb dX7_become_25 rfl (lv_at hl 1 rfl) ?_
  refine sg_get (v := .ref (b + (o + 2))) hx hb hts hown hK hM (sh3 ho) (kd_lt ho (by decide)) rfl inX7 2 (by decide) wf_X7_15 rfl dX7_become_26 ?_
  refine lv_iconst (v := nI 0) hx hb dX7_become_29 (by decide) ?_
  refine lv_aload_n hx hb dX7_become_30 rfl (lv_at hl 0 rfl) ?_
  refine sg_get (v := .ref (b + (r + 2))) hx hb hts hown hK hM (sh3 hr) (kd_lt hr (by decide)) rfl inX7 2 (by decide) wf_X7_15 rfl dX7_become_31 ?_
  refine lv_iconst (v := nI 0) hx hb dX7_become_34 (by decide) ?_
  refine lv_aload_n hx hb dX7_become_35 rfl (lv_at hl 0 rfl) ?_
  refine sg_get (v := .int ((mcp (m2 σ r 0 (nI n)) (o + 1) (r + 1) n) r 0)) hx hb hts hown hK hM (sh3 hr) (kd_lt hr (by decide)) rfl inX7 0 (by decide) wf_X7_24 rfl dX7_become_36 ?_
  refine sn_top (y := nI n) (by rw [mcp_o (by omega), m2_ss]) ?_
  refine sg_copy hx hb (by rw [hml]; exact hl.1.symm) hts hown hK hM sgA wl_X7_52 (n := n) (sh4 (kR2 ho)) (fun f => sh4 (kR2 hr)) (kd_lt (kR2 ho) (by decide)) (kd_lt (kR2 hr) (by decide)) (by omega) (by omega) (by omega) (by decide) (Nat.le_of_ble_eq_true rfl) dX7_become_39 (fun H locs hM => ?_)
  refine lv_aload_n hx hb dX7_become_42 rfl (lv_at hl 1 rfl) ?_
  refine sg_get (v := .ref (b + (o + 3))) hx hb hts hown hK hM (sh3 ho) (kd_lt ho (by decide)) rfl inX7 3 (by decide) wf_X7_18 rfl dX7_become_43 ?_
  refine lv_iconst (v := nI 0) hx hb dX7_become_46 (by decide) ?_
  refine lv_aload_n hx hb dX7_become_47 rfl (lv_at hl 0 rfl) ?_
  refine sg_get (v := .ref (b + (r + 3))) hx hb hts hown hK hM (sh3 hr) (kd_lt hr (by decide)) rfl inX7 3 (by decide) wf_X7_18 rfl dX7_become_48 ?_
  refine lv_iconst (v := nI 0) hx hb dX7_become_51 (by decide) ?_
  refine lv_aload_n hx hb dX7_become_52 rfl (lv_at hl 0 rfl) ?_
  refine sg_get (v := .int ((mcp (mcp (m2 σ r 0 (nI n)) (o + 1) (r + 1) n) (o + 2) (r + 2) n) r 0)) hx hb hts hown hK hM (sh3 hr) (kd_lt hr (by decide)) rfl inX7 0 (by decide) wf_X7_24 rfl dX7_become_53 ?_
  refine sn_top (y := nI n) (by rw [mcp_o (by omega), mcp_o (by omega), m2_ss]) ?_
  refine sg_copy hx hb (by rw [hml]; exact hl.1.symm) hts hown hK hM sgA wl_X7_52 (n := n) (sh4 (kR3 ho)) (fun f => sh4 (kR3 hr)) (kd_lt (kR3 ho) (by decide)) (kd_lt (kR3 hr) (by decide)) (by omega) (by omega) (by omega) (by decide) (Nat.le_of_ble_eq_true rfl) dX7_become_56 (fun H locs hM => ?_)
  refine lv_aload_n hx hb dX7_become_59 rfl (lv_at hl 1 rfl) ?_
  refine sg_get (v := .ref (b + (o + 4))) hx hb hts hown hK hM (sh3 ho) (kd_lt ho (by decide)) rfl inX7 4 (by decide) wf_X7_21 rfl dX7_become_60 ?_
  refine lv_iconst (v := nI 0) hx hb dX7_become_63 (by decide) ?_
  refine lv_aload_n hx hb dX7_become_64 rfl (lv_at hl 0 rfl) ?_
  refine sg_get (v := .ref (b + (r + 4))) hx hb hts hown hK hM (sh3 hr) (kd_lt hr (by decide)) rfl inX7 4 (by decide) wf_X7_21 rfl dX7_become_65 ?_
  refine lv_iconst (v := nI 0) hx hb dX7_become_68 (by decide) ?_
  refine lv_aload_n hx hb dX7_become_69 rfl (lv_at hl 0 rfl) ?_
  refine sg_get (v := .int ((mcp (mcp (mcp (m2 σ r 0 (nI n)) (o + 1) (r + 1) n) (o + 2) (r + 2) n) (o + 3) (r + 3) n) r 0)) hx hb hts hown hK hM (sh3 hr) (kd_lt hr (by decide)) rfl inX7 0 (by decide) wf_X7_24 rfl dX7_become_70 ?_
  refine sn_top (y := nI n) (by rw [mcp_o (by omega), mcp_o (by omega), mcp_o (by omega), m2_ss]) ?_
  refine sg_copy hx hb (by rw [hml]; exact hl.1.symm) hts hown hK hM sgA wl_X7_52 (n := n) (sh4 (kR4 ho)) (fun f => sh4 (kR4 hr)) (kd_lt (kR4 ho) (by decide)) (kd_lt (kR4 hr) (by decide)) (by omega) (by omega) (by omega) (by decide) (Nat.le_of_ble_eq_true rfl) dX7_become_73 (fun H locs hM => ?_)
  exact hret _ _ _ _ _ dX7_become_76 hM (rfl)
set_option maxHeartbeats 4000000 in
set_option maxRecDepth 100000 in
theorem c_Pl_become (l : Launch) (G : GT) (b : Nat) (σ : Mem) (r o n : Nat) (hr : kd r = 5) (ho : kd o = 5) (h0 : σ o 0 = nI n) (hn : n ≤ 24) : KV l G b yX6_become cX6_become 2 1 σ [.ref (b + r), .ref (b + o)] (fun σ' => σ' = plCp σ r o n) := by
  refine sg_metV [.ref (b + r), .ref (b + o)] (by decide) (Nat.le_of_ble_eq_true rfl) ?_
  intro vp ve vs vm args below meth vc ls Q hx hb hml hown hts hK hM hl hret
  have hl : lv_has ls 2 [(0, .ref (b + r)), (1, .ref (b + o))] := hl
  refine lv_aload_n hx hb dX6_become_0 rfl (lv_at hl 0 rfl) ?_
  refine lv_aload_n hx hb dX6_become_1 rfl (lv_at hl 1 rfl) ?_
  refine sg_get (v := .int (σ o 0)) hx hb hts hown hK hM (sh5 ho) (kd_lt ho (by decide)) rfl inX6 0 (by decide) wf_X6_18 rfl dX6_become_2 ?_
  refine sn_top (y := nI n) (h0) ?_
  refine sg_put (v := nI n) (ty := .int) hx hb hts hown hK hM sgA (sh5 hr) (kd_lt hr (by decide)) rfl inX6 tyX6 tyX6_ok nmX6 0 (by decide) wf_X6_18 rfl (by decide +kernel) rfl rfl (Nat.le_of_ble_eq_true rfl) (by rw [sh5 hr]; rfl) dX6_become_5 (fun H locs hM => ?_)
  refine lv_aload_n hx hb dX6_become_8 rfl (lv_at hl 1 rfl) ?_
  refine sg_get (v := .ref (b + (o + 1))) hx hb hts hown hK hM (sh5 ho) (kd_lt ho (by decide)) rfl inX6 1 (by decide) wf_X6_9 rfl dX6_become_9 ?_
  refine lv_iconst (v := nI 0) hx hb dX6_become_12 (by decide) ?_
  refine lv_aload_n hx hb dX6_become_13 rfl (lv_at hl 0 rfl) ?_
  refine sg_get (v := .ref (b + (r + 1))) hx hb hts hown hK hM (sh5 hr) (kd_lt hr (by decide)) rfl inX6 1 (by decide) wf_X6_9 rfl dX6_become_14 ?_
  refine lv_iconst (v := nI 0) hx hb dX6_become_17 (by decide) ?_
  refine lv_aload_n hx hb dX6_become_18 rfl (lv_at hl 0 rfl) ?_
  refine sg_get (v := .int ((m2 σ r 0 (nI n)) r 0)) hx hb hts hown hK hM (sh5 hr) (kd_lt hr (by decide)) rfl inX6 0 (by decide) wf_X6_18 rfl dX6_become_19 ?_
  refine sn_top (y := nI n) (by rw [m2_ss]) ?_
  refine sg_copy hx hb (by rw [hml]; exact hl.1.symm) hts hown hK hM sgA wl_X6_26 (n := n) (sh4 (kP1 ho)) (fun f => sh4 (kP1 hr)) (kd_lt (kP1 ho) (by decide)) (kd_lt (kP1 hr) (by decide)) (by omega) (by omega) (by omega) (by decide) (Nat.le_of_ble_eq_true rfl) dX6_become_22 (fun H locs hM => ?_)
  refine lv_aload_n hx hb dX6_become_25 rfl (lv_at hl 1 rfl) ?_
  refine sg_get (v := .ref (b + (o + 2))) hx hb hts hown hK hM (sh5 ho) (kd_lt ho (by decide)) rfl inX6 2 (by decide) wf_X6_15 rfl dX6_become_26 ?_
  refine lv_iconst (v := nI 0) hx hb dX6_become_29 (by decide) ?_
  refine lv_aload_n hx hb dX6_become_30 rfl (lv_at hl 0 rfl) ?_
  refine sg_get (v := .ref (b + (r + 2))) hx hb hts hown hK hM (sh5 hr) (kd_lt hr (by decide)) rfl inX6 2 (by decide) wf_X6_15 rfl dX6_become_31 ?_
  refine lv_iconst (v := nI 0) hx hb dX6_become_34 (by decide) ?_
  refine lv_aload_n hx hb dX6_become_35 rfl (lv_at hl 0 rfl) ?_
  refine sg_get (v := .int ((mcp (m2 σ r 0 (nI n)) (o + 1) (r + 1) n) r 0)) hx hb hts hown hK hM (sh5 hr) (kd_lt hr (by decide)) rfl inX6 0 (by decide) wf_X6_18 rfl dX6_become_36 ?_
  refine sn_top (y := nI n) (by rw [mcp_o (by omega), m2_ss]) ?_
  refine sg_copy hx hb (by rw [hml]; exact hl.1.symm) hts hown hK hM sgA wl_X6_26 (n := n) (sh4 (kP2 ho)) (fun f => sh4 (kP2 hr)) (kd_lt (kP2 ho) (by decide)) (kd_lt (kP2 hr) (by decide)) (by omega) (by omega) (by omega) (by decide) (Nat.le_of_ble_eq_true rfl) dX6_become_39 (fun H locs hM => ?_)
  exact hret _ _ _ _ _ dX6_become_42 hM (rfl)
set_option maxHeartbeats 4000000 in
set_option maxRecDepth 100000 in
theorem c_Mo_clear (l : Launch) (G : GT) (b : Nat) (σ : Mem) (mo : Nat) (hmo : kd mo = 1) : KV l G b yX3_clear cX3_clear 1 0 σ [.ref (b + mo)] (fun σ' => σ' = moClear σ mo) := by
  refine sg_metV [.ref (b + mo)] (by decide) (Nat.le_of_ble_eq_true rfl) ?_
  intro vp ve vs vm args below meth vc ls Q hx hb hml hown hts hK hM hl hret
  have hl : lv_has ls 1 [(0, .ref (b + mo))] := hl
  refine lv_aload_n hx hb dX3_clear_0 rfl (lv_at hl 0 rfl) ?_
  refine sg_get (v := .ref (b + (mo + 2))) hx hb hts hown hK hM (sh1 hmo) (kd_lt hmo (by decide)) rfl inX3 1 (by decide) wf_X3_21 rfl dX3_clear_1 ?_
  refine lv_iconst (v := nI 0) hx hb dX3_clear_4 (by decide) ?_
  refine sg_put (v := nI 0) (ty := .int) hx hb hts hown hK hM sgA (sh3 (kM2 hmo)) (kd_lt (kM2 hmo) (by decide)) rfl inX7 tyX7 tyX7_ok nmX7 0 (by decide) wf_X3_36 rfl (by decide +kernel) rfl rfl (Nat.le_of_ble_eq_true rfl) (by rw [sh3 (kM2 hmo)]; rfl) dX3_clear_5 (fun H locs hM => ?_)
  refine lv_aload_n hx hb dX3_clear_8 rfl (lv_at hl 0 rfl) ?_
  refine sg_get (v := .ref (b + (mo + 7))) hx hb hts hown hK hM (sh1 hmo) (kd_lt hmo (by decide)) rfl inX3 2 (by decide) wf_X3_28 rfl dX3_clear_9 ?_
  refine lv_iconst (v := nI 0) hx hb dX3_clear_12 (by decide) ?_
  refine sg_put (v := nI 0) (ty := .int) hx hb hts hown hK hM sgA (sh5 (kM7 hmo)) (kd_lt (kM7 hmo) (by decide)) rfl inX6 tyX6 tyX6_ok nmX6 0 (by decide) wf_X3_39 rfl (by decide +kernel) rfl rfl (Nat.le_of_ble_eq_true rfl) (by rw [sh5 (kM7 hmo)]; rfl) dX3_clear_13 (fun H locs hM => ?_)
  exact hret _ _ _ _ _ dX3_clear_16 hM (rfl)
set_option maxHeartbeats 4000000 in
set_option maxRecDepth 100000 in
theorem c_Mo_become (l : Launch) (G : GT) (b : Nat) (σ : Mem) (mo oo n k : Nat) (hmo : kd mo = 1) (hoo : kd oo = 1) (hne : mo ≠ oo) (hn0 : σ (oo + 2) 0 = nI n) (hn : n ≤ 24) (hk0 : σ (oo + 7) 0 = nI k) (hk : k ≤ 24) : KV l G b yX3_become cX3_become 2 2 σ [.ref (b + mo), .ref (b + oo)] (fun σ' => σ' = moCp σ mo oo n k (σ (oo + 1) 0) (σ (oo + 1) 1) (σ (oo + 1) 2) (σ oo 3)) := by
  refine sg_metV [.ref (b + mo), .ref (b + oo)] (by decide) (Nat.le_of_ble_eq_true rfl) ?_
  intro vp ve vs vm args below meth vc ls Q hx hb hml hown hts hK hM hl hret
  have hl : lv_has ls 2 [(0, .ref (b + mo)), (1, .ref (b + oo))] := hl
  have hap := mo_ap hmo hoo hne
  refine lv_aload_n hx hb dX3_become_0 rfl (lv_at hl 0 rfl) ?_
  refine sg_get (v := .ref (b + (mo + 1))) hx hb hts hown hK hM (sh1 hmo) (kd_lt hmo (by decide)) rfl inX3 0 (by decide) wf_X3_12 rfl dX3_become_1 ?_
  refine lv_aload_n hx hb dX3_become_4 rfl (lv_at hl 1 rfl) ?_
  refine sg_get (v := .ref (b + (oo + 1))) hx hb hts hown hK hM (sh1 hoo) (kd_lt hoo (by decide)) rfl inX3 0 (by decide) wf_X3_12 rfl dX3_become_5 ?_
  refine sg_get (v := .int (σ (oo + 1) 0)) hx hb hts hown hK hM (sh2 (kM1 hoo)) (kd_lt (kM1 hoo) (by decide)) rfl inX0 0 (by decide) wf_X3_40 rfl dX3_become_8 ?_
  refine lv_aload_n hx hb dX3_become_11 rfl (lv_at hl 1 rfl) ?_
  refine sg_get (v := .ref (b + (oo + 1))) hx hb hts hown hK hM (sh1 hoo) (kd_lt hoo (by decide)) rfl inX3 0 (by decide) wf_X3_12 rfl dX3_become_12 ?_
  refine sg_get (v := .int (σ (oo + 1) 1)) hx hb hts hown hK hM (sh2 (kM1 hoo)) (kd_lt (kM1 hoo) (by decide)) rfl inX0 1 (by decide) wf_X3_43 rfl dX3_become_15 ?_
  refine lv_aload_n hx hb dX3_become_18 rfl (lv_at hl 1 rfl) ?_
  refine sg_get (v := .ref (b + (oo + 1))) hx hb hts hown hK hM (sh1 hoo) (kd_lt hoo (by decide)) rfl inX3 0 (by decide) wf_X3_12 rfl dX3_become_19 ?_
  refine sg_get (v := .int (σ (oo + 1) 2)) hx hb hts hown hK hM (sh2 (kM1 hoo)) (kd_lt (kM1 hoo) (by decide)) rfl inX0 2 (by decide) wf_X3_46 rfl dX3_become_22 ?_
  refine sg_cv (sg_runV (d := 0) (As := [.int (σ (oo + 1) 0), .int (σ (oo + 1) 1), .int (σ (oo + 1) 2)]) (rest := []) hx hb hml hts hown hK hM (c_Code_set l G b σ (mo + 1) (σ (oo + 1) 0) (σ (oo + 1) 1) (σ (oo + 1) 2) (kM1 hmo)) mi_X0_set wl_X3_49 (sh2 (kM1 hmo)) (kd_lt (kM1 hmo) (by decide)) rfl rfl rfl hl.1 rfl (Nat.le_of_ble_eq_true rfl) dX3_become_25 ⟨by decide, by decide⟩ ⟨Nat.le_refl 0, Nat.le_refl 0⟩) hM sgA (fun σ_25 H locs hp_25 hM => ?_)
  subst σ_25
  refine lv_aload_n hx hb dX3_become_28 rfl (lv_at hl 0 rfl) ?_
  refine sg_get (v := .ref (b + (mo + 2))) hx hb hts hown hK hM (sh1 hmo) (kd_lt hmo (by decide)) rfl inX3 1 (by decide) wf_X3_21 rfl dX3_become_29 ?_
  refine lv_aload_n hx hb dX3_become_32 rfl (lv_at hl 1 rfl) ?_
  refine sg_get (v := .ref (b + (oo + 2))) hx hb hts hown hK hM (sh1 hoo) (kd_lt hoo (by decide)) rfl inX3 1 (by decide) wf_X3_21 rfl dX3_become_33 ?_
  refine sg_cv (sg_runV (d := 1) (As := [.ref (b + (oo + 2))]) (rest := []) hx hb hml hts hown hK hM (c_Row_become l G b (codeSet σ (mo + 1) (σ (oo + 1) 0) (σ (oo + 1) 1) (σ (oo + 1) 2)) (mo + 2) (oo + 2) n (kM2 hmo) (kM2 hoo) (by unfold codeSet; rw [m2_o (by omega), m2_o (by omega), m2_o (by omega)]; exact hn0) hn) mi_X7_become wl_X3_53 (sh3 (kM2 hmo)) (kd_lt (kM2 hmo) (by decide)) rfl rfl rfl hl.1 rfl (Nat.le_of_ble_eq_true rfl) dX3_become_36 ⟨by decide, by decide⟩ ⟨Nat.le_refl 0, Nat.le_refl 0⟩) hM sgA (fun σ_36 H locs hp_36 hM => ?_)
  subst σ_36
  refine lv_aload_n hx hb dX3_become_39 rfl (lv_at hl 0 rfl) ?_
  refine sg_get (v := .ref (b + (mo + 7))) hx hb hts hown hK hM (sh1 hmo) (kd_lt hmo (by decide)) rfl inX3 2 (by decide) wf_X3_28 rfl dX3_become_40 ?_
  refine lv_aload_n hx hb dX3_become_43 rfl (lv_at hl 1 rfl) ?_
  refine sg_get (v := .ref (b + (oo + 7))) hx hb hts hown hK hM (sh1 hoo) (kd_lt hoo (by decide)) rfl inX3 2 (by decide) wf_X3_28 rfl dX3_become_44 ?_
  refine sg_cv (sg_runV (d := 1) (As := [.ref (b + (oo + 7))]) (rest := []) hx hb hml hts hown hK hM (c_Pl_become l G b (rowCp (codeSet σ (mo + 1) (σ (oo + 1) 0) (σ (oo + 1) 1) (σ (oo + 1) 2)) (mo + 2) (oo + 2) n) (mo + 7) (oo + 7) k (kM7 hmo) (kM7 hoo) (by unfold rowCp codeSet; rw [mcp_o (by omega), mcp_o (by omega), mcp_o (by omega), mcp_o (by omega), m2_o (by omega), m2_o (by omega), m2_o (by omega), m2_o (by omega)]; exact hk0) hk) mi_X6_become wl_X3_57 (sh5 (kM7 hmo)) (kd_lt (kM7 hmo) (by decide)) rfl rfl rfl hl.1 rfl (Nat.le_of_ble_eq_true rfl) dX3_become_47 ⟨by decide, by decide⟩ ⟨Nat.le_refl 0, Nat.le_refl 0⟩) hM sgA (fun σ_47 H locs hp_47 hM => ?_)
  subst σ_47
  refine lv_aload_n hx hb dX3_become_50 rfl (lv_at hl 0 rfl) ?_
  refine lv_aload_n hx hb dX3_become_51 rfl (lv_at hl 1 rfl) ?_
  refine sg_get (v := .int ((plCp (rowCp (codeSet σ (mo + 1) (σ (oo + 1) 0) (σ (oo + 1) 1) (σ (oo + 1) 2)) (mo + 2) (oo + 2) n) (mo + 7) (oo + 7) k) oo 3)) hx hb hts hown hK hM (sh1 hoo) (kd_lt hoo (by decide)) rfl inX3 3 (by decide) wf_X3_32 rfl dX3_become_52 ?_
  refine sn_top (y := σ oo 3) (by unfold plCp rowCp codeSet; rw [mcp_o (by omega), mcp_o (by omega), m2_o (by omega), mcp_o (by omega), mcp_o (by omega), mcp_o (by omega), mcp_o (by omega), m2_o (by omega), m2_o (by omega), m2_o (by omega), m2_o (by omega)]) ?_
  refine sg_put (v := σ oo 3) (ty := .int) hx hb hts hown hK hM sgA (sh1 hmo) (kd_lt hmo (by decide)) rfl inX3 tyX3 tyX3_ok nmX3 3 (by decide) wf_X3_32 rfl (by decide +kernel) rfl rfl (Nat.le_of_ble_eq_true rfl) (by rw [sh1 hmo]; rfl) dX3_become_55 (fun H locs hM => ?_)
  exact hret _ _ _ _ _ dX3_become_58 hM (rfl)

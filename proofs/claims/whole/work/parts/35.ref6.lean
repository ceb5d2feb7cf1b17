set_option maxHeartbeats 4000000 in
set_option maxRecDepth 100000 in
theorem y_point (l : Launch) (G : GT) (b : Nat) (σ : Mem) (w : World) (hI : IRw σ w) (x what : Int32) : KI l G b yX11_point cX11_point 3 2 σ [.ref (b + 131), .int x, .int what] (fun r σ' => r = F_point x what ∧ IRw σ' w ∧ ∀ k, k < 131 → σ' k = σ k) := by
  refine sg_metI [.ref (b + 131), .int x, .int what] (by decide) (Nat.le_of_ble_eq_true rfl) ?_
  intro vp ve vs vm args below meth vc ls Q hx hb hml hown hts hK hM hl hret
  have hl : lv_has ls 3 [(0, .ref (b + 131)), (1, .int x), (2, .int what)] := hl
  obtain ⟨hR, hA, hn, hP, hJ⟩ := id hI
  have hc := RCd.of hR hA
  have hS24 := hR.2.1.1
  have hN24 := hR.2.1.2
  have hm8 := p2_le hR.1.1.2
  refine lv_iload_n hx hb dX11_point_0 rfl (lv_at hl 1 rfl) ?_
  refine sg_ci (sg_runS (d := 1) (As := [.int x]) (rest := []) hx hb hml hts hown hK hM (m_isPoint l G b σ x) mi_X11_isPoint wl_X11_164 rfl hl.1 rfl (Nat.le_of_ble_eq_true rfl) dX11_point_1 ⟨by decide, by decide⟩ ⟨Nat.le_refl 0, Nat.le_refl 0⟩) hM sgA (fun r_1 σ_1 H locs hp_1 hM => ?_)
  obtain ⟨hr_1, hs_1⟩ := hp_1; subst r_1; subst σ_1
  refine sn_ifz_ne (tgt := 10) hx hb dX11_point_4 (by decide) (fun dq1 => ?_) (fun dq1 => ?_)
  · obtain ⟨q, hq, rfl⟩ := inR_nat (by decide) dq1
    have hl : lv_has ls 3 [(0, .ref (b + 131)), (1, .int (nI q)), (2, .int what)] := hl
    refine lv_iload_n hx hb dX11_point_10 rfl (lv_at hl 2 rfl) ?_
    rcases swc what 4 with c_11 | ⟨j, hj, c_11⟩
    · refine lv_tableOut (tgt := 69) hx hb dX11_point_11 c_11 (by decide) ?_
      refine lv_ldc (v := (-1000000002)) hx hb hown (hts (Cond.constant RX11 84 ((-1000000002))) wk_X11_84) dX11_point_69 ?_
      exact hret _ _ _ _ _ _ dX11_point_71 hM (⟨by rw [F_point_in hq, swp_out c_11 rfl], hI, fun _ _ => rfl⟩)
    · match j, hj with
      | 0, _ =>
        subst c_11
        refine lv_tableIn (tgt := 44) (off := 33) hx hb dX11_point_11 (by decide) (by decide) (by decide) (by decide) ?_
        have hl : lv_has ls 3 [(0, .ref (b + 131)), (1, .int (nI q)), (2, .int (nI 0))] := hl
        refine lv_iload_n hx hb dX11_point_44 rfl (lv_at hl 1 rfl) ?_
        refine sg_ci (sg_runS (d := 0) (As := [.int (nI q)]) (rest := []) hx hb hml hts hown hK hM (c_m_xOf l G b σ q (by first | omega | exact fam_lt _ _ _ _ _ | exact gf_lt _ | exact tf_lt _ | exact pt_lt (by first | omega | exact fam_lt _ _ _ _ _) (by omega) | exact tn_lt (by first | omega | exact pt_lt (by omega) (by omega)))) mi_X11_xOf wl_X11_51 rfl hl.1 rfl (Nat.le_of_ble_eq_true rfl) dX11_point_45 ⟨by decide, by decide⟩ ⟨Nat.le_refl 0, Nat.le_refl 0⟩) hM sgA (fun r_45 σ_45 H locs hp_45 hM => ?_)
        obtain ⟨hr_45, hs_45⟩ := hp_45; subst r_45; subst σ_45
        exact hret _ _ _ _ _ _ dX11_point_48 hM (⟨by rw [F_point_in hq, swp_in 0 (Nat.le_of_ble_eq_true rfl) (Nat.le_of_ble_eq_true rfl)]; rfl, hI, fun _ _ => rfl⟩)
      | 1, _ =>
        subst c_11
        refine lv_tableIn (tgt := 49) (off := 38) hx hb dX11_point_11 (by decide) (by decide) (by decide) (by decide) ?_
        have hl : lv_has ls 3 [(0, .ref (b + 131)), (1, .int (nI q)), (2, .int (nI 1))] := hl
        refine lv_iload_n hx hb dX11_point_49 rfl (lv_at hl 1 rfl) ?_
        refine sg_ci (sg_runS (d := 0) (As := [.int (nI q)]) (rest := []) hx hb hml hts hown hK hM (c_m_yOf l G b σ q (by first | omega | exact fam_lt _ _ _ _ _ | exact gf_lt _ | exact tf_lt _ | exact pt_lt (by first | omega | exact fam_lt _ _ _ _ _) (by omega) | exact tn_lt (by first | omega | exact pt_lt (by omega) (by omega)))) mi_X11_yOf wl_X11_54 rfl hl.1 rfl (Nat.le_of_ble_eq_true rfl) dX11_point_50 ⟨by decide, by decide⟩ ⟨Nat.le_refl 0, Nat.le_refl 0⟩) hM sgA (fun r_50 σ_50 H locs hp_50 hM => ?_)
        obtain ⟨hr_50, hs_50⟩ := hp_50; subst r_50; subst σ_50
        exact hret _ _ _ _ _ _ dX11_point_53 hM (⟨by rw [F_point_in hq, swp_in 1 (Nat.le_of_ble_eq_true rfl) (Nat.le_of_ble_eq_true rfl)]; rfl, hI, fun _ _ => rfl⟩)
      | 2, _ =>
        subst c_11
        refine lv_tableIn (tgt := 54) (off := 43) hx hb dX11_point_11 (by decide) (by decide) (by decide) (by decide) ?_
        have hl : lv_has ls 3 [(0, .ref (b + 131)), (1, .int (nI q)), (2, .int (nI 2))] := hl
        refine lv_iload_n hx hb dX11_point_54 rfl (lv_at hl 1 rfl) ?_
        refine sg_ci (sg_runS (d := 0) (As := [.int (nI q)]) (rest := []) hx hb hml hts hown hK hM (c_m_familyOf l G b σ q (by first | omega | exact fam_lt _ _ _ _ _ | exact gf_lt _ | exact tf_lt _ | exact pt_lt (by first | omega | exact fam_lt _ _ _ _ _) (by omega) | exact tn_lt (by first | omega | exact pt_lt (by omega) (by omega)))) mi_X11_familyOf wl_X11_47 rfl hl.1 rfl (Nat.le_of_ble_eq_true rfl) dX11_point_55 ⟨by decide, by decide⟩ ⟨Nat.le_refl 0, Nat.le_refl 0⟩) hM sgA (fun r_55 σ_55 H locs hp_55 hM => ?_)
        obtain ⟨hr_55, hs_55⟩ := hp_55; subst r_55; subst σ_55
        exact hret _ _ _ _ _ _ dX11_point_58 hM (⟨by rw [F_point_in hq, swp_in 2 (Nat.le_of_ble_eq_true rfl) (Nat.le_of_ble_eq_true rfl)]; rfl, hI, fun _ _ => rfl⟩)
      | 3, _ =>
        subst c_11
        refine lv_tableIn (tgt := 59) (off := 48) hx hb dX11_point_11 (by decide) (by decide) (by decide) (by decide) ?_
        have hl : lv_has ls 3 [(0, .ref (b + 131)), (1, .int (nI q)), (2, .int (nI 3))] := hl
        refine lv_iload_n hx hb dX11_point_59 rfl (lv_at hl 1 rfl) ?_
        refine sg_ci (sg_runS (d := 1) (As := [.int (nI q)]) (rest := []) hx hb hml hts hown hK hM (m_orderOf l G b σ q (by first | omega | exact fam_lt _ _ _ _ _ | exact gf_lt _ | exact tf_lt _ | exact pt_lt (by first | omega | exact fam_lt _ _ _ _ _) (by omega) | exact tn_lt (by first | omega | exact pt_lt (by omega) (by omega)))) mi_X11_orderOf wl_X11_167 rfl hl.1 rfl (Nat.le_of_ble_eq_true rfl) dX11_point_60 ⟨by decide, by decide⟩ ⟨Nat.le_refl 0, Nat.le_refl 0⟩) hM sgA (fun r_60 σ_60 H locs hp_60 hM => ?_)
        obtain ⟨hr_60, hs_60⟩ := hp_60; subst r_60; subst σ_60
        exact hret _ _ _ _ _ _ dX11_point_63 hM (⟨by rw [F_point_in hq, swp_in 3 (Nat.le_of_ble_eq_true rfl) (Nat.le_of_ble_eq_true rfl)]; rfl, hI, fun _ _ => rfl⟩)
      | 4, _ =>
        subst c_11
        refine lv_tableIn (tgt := 64) (off := 53) hx hb dX11_point_11 (by decide) (by decide) (by decide) (by decide) ?_
        have hl : lv_has ls 3 [(0, .ref (b + 131)), (1, .int (nI q)), (2, .int (nI 4))] := hl
        refine lv_iload_n hx hb dX11_point_64 rfl (lv_at hl 1 rfl) ?_
        refine sg_ci (sg_runS (d := 0) (As := [.int (nI q)]) (rest := []) hx hb hml hts hown hK hM (c_m_turn l G b σ q (by first | omega | exact fam_lt _ _ _ _ _ | exact gf_lt _ | exact tf_lt _ | exact pt_lt (by first | omega | exact fam_lt _ _ _ _ _) (by omega) | exact tn_lt (by first | omega | exact pt_lt (by omega) (by omega)))) mi_X11_turn wl_X11_66 rfl hl.1 rfl (Nat.le_of_ble_eq_true rfl) dX11_point_65 ⟨by decide, by decide⟩ ⟨Nat.le_refl 0, Nat.le_refl 0⟩) hM sgA (fun r_65 σ_65 H locs hp_65 hM => ?_)
        obtain ⟨hr_65, hs_65⟩ := hp_65; subst r_65; subst σ_65
        exact hret _ _ _ _ _ _ dX11_point_68 hM (⟨by rw [F_point_in hq, swp_in 4 (Nat.le_of_ble_eq_true rfl) (Nat.le_of_ble_eq_true rfl)]; rfl, hI, fun _ _ => rfl⟩)
      | j + 5, hj => exact absurd hj (by omega)
  · refine lv_ldc (v := (-1000000001)) hx hb hown (hts (Cond.constant RX11 127 ((-1000000001))) wk_X11_127) dX11_point_7 ?_
    exact hret _ _ _ _ _ _ dX11_point_9 hM (⟨by unfold F_point; rw [dq1]; rfl, hI, fun _ _ => rfl⟩)
set_option maxHeartbeats 4000000 in
set_option maxRecDepth 100000 in
theorem y_member (l : Launch) (G : GT) (b : Nat) (σ : Mem) (w : World) (hI : IRw σ w) (x y : Int32) : KI l G b yX11_member cX11_member 3 2 σ [.ref (b + 131), .int x, .int y] (fun r σ' => r = F_member x y ∧ IRw σ' w ∧ ∀ k, k < 131 → σ' k = σ k) := by
  refine sg_metI [.ref (b + 131), .int x, .int y] (by decide) (Nat.le_of_ble_eq_true rfl) ?_
  intro vp ve vs vm args below meth vc ls Q hx hb hml hown hts hK hM hl hret
  have hl : lv_has ls 3 [(0, .ref (b + 131)), (1, .int x), (2, .int y)] := hl
  obtain ⟨hR, hA, hn, hP, hJ⟩ := id hI
  have hc := RCd.of hR hA
  have hS24 := hR.2.1.1
  have hN24 := hR.2.1.2
  have hm8 := p2_le hR.1.1.2
  refine lv_iload_n hx hb dX11_member_0 rfl (lv_at hl 1 rfl) ?_
  refine sg_ci (sg_runS (d := 1) (As := [.int x]) (rest := []) hx hb hml hts hown hK hM (m_isFamily l G b σ x) mi_X11_isFamily wl_X11_170 rfl hl.1 rfl (Nat.le_of_ble_eq_true rfl) dX11_member_1 ⟨by decide, by decide⟩ ⟨Nat.le_refl 0, Nat.le_refl 0⟩) hM sgA (fun r_1 σ_1 H locs hp_1 hM => ?_)
  obtain ⟨hr_1, hs_1⟩ := hp_1; subst r_1; subst σ_1
  refine sn_ifz_ne (tgt := 12) hx hb dX11_member_4 (by decide) (fun dq1 => ?_) (fun dq1 => ?_)
  · obtain ⟨f, hf, rfl⟩ := inR_nat (by decide) dq1
    have hl : lv_has ls 3 [(0, .ref (b + 131)), (1, .int (nI f)), (2, .int y)] := hl
    refine lv_iload_n hx hb dX11_member_12 rfl (lv_at hl 2 rfl) ?_
    refine lv_iconst (v := nI 0) hx hb dX11_member_13 (by decide) ?_
    refine lv_iconst (v := nI 3) hx hb dX11_member_14 (by decide) ?_
    refine sg_ci (sg_runS (d := 0) (As := [.int y, .int (nI 0), .int (nI 3)]) (rest := []) hx hb hml hts hown hK hM (m_in l G b σ y (nI 0) (nI 3)) mi_X11_in wl_X11_69 rfl hl.1 rfl (Nat.le_of_ble_eq_true rfl) dX11_member_15 ⟨by decide, by decide⟩ ⟨Nat.le_refl 0, Nat.le_refl 0⟩) hM sgA (fun r_15 σ_15 H locs hp_15 hM => ?_)
    obtain ⟨hr_15, hs_15⟩ := hp_15; subst r_15; subst σ_15
    refine sn_ifz_eq (tgt := 29) hx hb dX11_member_18 (by decide) (fun dq2 => ?_) (fun dq2 => ?_)
    · refine lv_ldc (v := (-1000000002)) hx hb hown (hts (Cond.constant RX11 84 ((-1000000002))) wk_X11_84) dX11_member_29 ?_
      exact hret _ _ _ _ _ _ dX11_member_31 hM (⟨(F_member_o hf dq2).symm, hI, fun _ _ => rfl⟩)
    · obtain ⟨v, hv, rfl⟩ := inR_nat (by decide) dq2
      have hl : lv_has ls 3 [(0, .ref (b + 131)), (1, .int (nI f)), (2, .int (nI v))] := hl
      refine lv_iload_n hx hb dX11_member_21 rfl (lv_at hl 1 rfl) ?_
      refine lv_iload_n hx hb dX11_member_22 rfl (lv_at hl 2 rfl) ?_
      refine sg_ci (sg_runS (d := 1) (As := [.int (nI f), .int (nI v)]) (rest := []) hx hb hml hts hown hK hM (m_memberOf l G b σ f v (by first | omega | exact fam_lt _ _ _ _ _ | exact gf_lt _ | exact tf_lt _ | exact pt_lt (by first | omega | exact fam_lt _ _ _ _ _) (by omega) | exact tn_lt (by first | omega | exact pt_lt (by omega) (by omega))) (by first | omega | exact fam_lt _ _ _ _ _ | exact gf_lt _ | exact tf_lt _ | exact pt_lt (by first | omega | exact fam_lt _ _ _ _ _) (by omega) | exact tn_lt (by first | omega | exact pt_lt (by omega) (by omega)))) mi_X11_memberOf wl_X11_62 rfl hl.1 rfl (Nat.le_of_ble_eq_true rfl) dX11_member_23 ⟨by decide, by decide⟩ ⟨Nat.le_refl 0, Nat.le_refl 0⟩) hM sgA (fun r_23 σ_23 H locs hp_23 hM => ?_)
      obtain ⟨hr_23, hs_23⟩ := hp_23; subst r_23; subst σ_23
      refine lv_goto (tgt := 31) hx hb dX11_member_26 (by decide) ?_
      exact hret _ _ _ _ _ _ dX11_member_31 hM (⟨(F_member_in hf hv).symm, hI, fun _ _ => rfl⟩)
  · refine lv_ldc (v := (-1000000001)) hx hb hown (hts (Cond.constant RX11 127 ((-1000000001))) wk_X11_127) dX11_member_7 ?_
    refine lv_goto (tgt := 31) hx hb dX11_member_9 (by decide) ?_
    exact hret _ _ _ _ _ _ dX11_member_31 hM (⟨by unfold F_member; rw [dq1]; rfl, hI, fun _ _ => rfl⟩)
set_option maxHeartbeats 4000000 in
set_option maxRecDepth 100000 in
theorem y_apart (l : Launch) (G : GT) (b : Nat) (σ : Mem) (w : World) (hI : IRw σ w) (x y : Int32) : KI l G b yX11_apart cX11_apart 3 3 σ [.ref (b + 131), .int x, .int y] (fun r σ' => r = F_apart x y ∧ IRw σ' w ∧ ∀ k, k < 131 → σ' k = σ k) := by
  refine sg_metI [.ref (b + 131), .int x, .int y] (by decide) (Nat.le_of_ble_eq_true rfl) ?_
  intro vp ve vs vm args below meth vc ls Q hx hb hml hown hts hK hM hl hret
  have hl : lv_has ls 3 [(0, .ref (b + 131)), (1, .int x), (2, .int y)] := hl
  obtain ⟨hR, hA, hn, hP, hJ⟩ := id hI
  have hc := RCd.of hR hA
  have hS24 := hR.2.1.1
  have hN24 := hR.2.1.2
  have hm8 := p2_le hR.1.1.2
  refine lv_iload_n hx hb dX11_apart_0 rfl (lv_at hl 1 rfl) ?_
  refine sg_ci (sg_runS (d := 1) (As := [.int x]) (rest := []) hx hb hml hts hown hK hM (m_isFamily l G b σ x) mi_X11_isFamily wl_X11_170 rfl hl.1 rfl (Nat.le_of_ble_eq_true rfl) dX11_apart_1 ⟨by decide, by decide⟩ ⟨Nat.le_refl 0, Nat.le_refl 0⟩) hM sgA (fun r_1 σ_1 H locs hp_1 hM => ?_)
  obtain ⟨hr_1, hs_1⟩ := hp_1; subst r_1; subst σ_1
  refine sn_ifz_eq (tgt := 22) hx hb dX11_apart_4 (by decide) (fun dq1 => ?_) (fun dq1 => ?_)
  · refine lv_ldc (v := (-1000000001)) hx hb hown (hts (Cond.constant RX11 127 ((-1000000001))) wk_X11_127) dX11_apart_22 ?_
    exact hret _ _ _ _ _ _ dX11_apart_24 hM (⟨by unfold F_apart; rw [dq1]; rfl, hI, fun _ _ => rfl⟩)
  · obtain ⟨f, hf, rfl⟩ := inR_nat (by decide) dq1
    have hl : lv_has ls 3 [(0, .ref (b + 131)), (1, .int (nI f)), (2, .int y)] := hl
    refine lv_iload_n hx hb dX11_apart_7 rfl (lv_at hl 2 rfl) ?_
    refine sg_ci (sg_runS (d := 1) (As := [.int y]) (rest := []) hx hb hml hts hown hK hM (m_isFamily l G b σ y) mi_X11_isFamily wl_X11_170 rfl hl.1 rfl (Nat.le_of_ble_eq_true rfl) dX11_apart_8 ⟨by decide, by decide⟩ ⟨Nat.le_refl 0, Nat.le_refl 0⟩) hM sgA (fun r_8 σ_8 H locs hp_8 hM => ?_)
    obtain ⟨hr_8, hs_8⟩ := hp_8; subst r_8; subst σ_8
    refine sn_ifz_eq (tgt := 22) hx hb dX11_apart_11 (by decide) (fun dq2 => ?_) (fun dq2 => ?_)
    · refine lv_ldc (v := (-1000000001)) hx hb hown (hts (Cond.constant RX11 127 ((-1000000001))) wk_X11_127) dX11_apart_22 ?_
      exact hret _ _ _ _ _ _ dX11_apart_24 hM (⟨(F_apart_o dq2).symm, hI, fun _ _ => rfl⟩)
    · obtain ⟨v, hv, rfl⟩ := inR_nat (by decide) dq2
      have hl : lv_has ls 3 [(0, .ref (b + 131)), (1, .int (nI f)), (2, .int (nI v))] := hl
      refine lv_iload_n hx hb dX11_apart_14 rfl (lv_at hl 1 rfl) ?_
      refine lv_iload_n hx hb dX11_apart_15 rfl (lv_at hl 2 rfl) ?_
      refine sg_ci (sg_runS (d := 2) (As := [.int (nI f), .int (nI v)]) (rest := []) hx hb hml hts hown hK hM (m_apartOf l G b σ f v (by first | omega | exact fam_lt _ _ _ _ _ | exact gf_lt _ | exact tf_lt _ | exact pt_lt (by first | omega | exact fam_lt _ _ _ _ _) (by omega) | exact tn_lt (by first | omega | exact pt_lt (by omega) (by omega))) (by first | omega | exact fam_lt _ _ _ _ _ | exact gf_lt _ | exact tf_lt _ | exact pt_lt (by first | omega | exact fam_lt _ _ _ _ _) (by omega) | exact tn_lt (by first | omega | exact pt_lt (by omega) (by omega)))) mi_X11_apartOf wl_X11_142 rfl hl.1 rfl (Nat.le_of_ble_eq_true rfl) dX11_apart_16 ⟨by decide, by decide⟩ ⟨Nat.le_refl 0, Nat.le_refl 0⟩) hM sgA (fun r_16 σ_16 H locs hp_16 hM => ?_)
      obtain ⟨hr_16, hs_16⟩ := hp_16; subst r_16; subst σ_16
      refine lv_goto (tgt := 24) hx hb dX11_apart_19 (by decide) ?_
      exact hret _ _ _ _ _ _ dX11_apart_24 hM (⟨(F_apart_in hf hv).symm, hI, fun _ _ => rfl⟩)
set_option maxHeartbeats 4000000 in
set_option maxRecDepth 100000 in
theorem y_distance (l : Launch) (G : GT) (b : Nat) (σ : Mem) (w : World) (hI : IRw σ w) (x y : Int32) : KI l G b yX11_distance cX11_distance 3 2 σ [.ref (b + 131), .int x, .int y] (fun r σ' => r = F_distance x y ∧ IRw σ' w ∧ ∀ k, k < 131 → σ' k = σ k) := by
  refine sg_metI [.ref (b + 131), .int x, .int y] (by decide) (Nat.le_of_ble_eq_true rfl) ?_
  intro vp ve vs vm args below meth vc ls Q hx hb hml hown hts hK hM hl hret
  have hl : lv_has ls 3 [(0, .ref (b + 131)), (1, .int x), (2, .int y)] := hl
  obtain ⟨hR, hA, hn, hP, hJ⟩ := id hI
  have hc := RCd.of hR hA
  have hS24 := hR.2.1.1
  have hN24 := hR.2.1.2
  have hm8 := p2_le hR.1.1.2
  refine lv_iload_n hx hb dX11_distance_0 rfl (lv_at hl 1 rfl) ?_
  refine sg_ci (sg_runS (d := 1) (As := [.int x]) (rest := []) hx hb hml hts hown hK hM (m_isPoint l G b σ x) mi_X11_isPoint wl_X11_164 rfl hl.1 rfl (Nat.le_of_ble_eq_true rfl) dX11_distance_1 ⟨by decide, by decide⟩ ⟨Nat.le_refl 0, Nat.le_refl 0⟩) hM sgA (fun r_1 σ_1 H locs hp_1 hM => ?_)
  obtain ⟨hr_1, hs_1⟩ := hp_1; subst r_1; subst σ_1
  refine sn_ifz_eq (tgt := 34) hx hb dX11_distance_4 (by decide) (fun dq1 => ?_) (fun dq1 => ?_)
  · refine lv_ldc (v := (-1000000001)) hx hb hown (hts (Cond.constant RX11 127 ((-1000000001))) wk_X11_127) dX11_distance_34 ?_
    exact hret _ _ _ _ _ _ dX11_distance_36 hM (⟨by unfold F_distance; rw [dq1]; rfl, hI, fun _ _ => rfl⟩)
  · obtain ⟨q, hq, rfl⟩ := inR_nat (by decide) dq1
    have hl : lv_has ls 3 [(0, .ref (b + 131)), (1, .int (nI q)), (2, .int y)] := hl
    refine lv_iload_n hx hb dX11_distance_7 rfl (lv_at hl 2 rfl) ?_
    refine sg_ci (sg_runS (d := 1) (As := [.int y]) (rest := []) hx hb hml hts hown hK hM (m_isPoint l G b σ y) mi_X11_isPoint wl_X11_164 rfl hl.1 rfl (Nat.le_of_ble_eq_true rfl) dX11_distance_8 ⟨by decide, by decide⟩ ⟨Nat.le_refl 0, Nat.le_refl 0⟩) hM sgA (fun r_8 σ_8 H locs hp_8 hM => ?_)
    obtain ⟨hr_8, hs_8⟩ := hp_8; subst r_8; subst σ_8
    refine sn_ifz_eq (tgt := 34) hx hb dX11_distance_11 (by decide) (fun dq2 => ?_) (fun dq2 => ?_)
    · refine lv_ldc (v := (-1000000001)) hx hb hown (hts (Cond.constant RX11 127 ((-1000000001))) wk_X11_127) dX11_distance_34 ?_
      exact hret _ _ _ _ _ _ dX11_distance_36 hM (⟨(F_dist_o2 dq2).symm, hI, fun _ _ => rfl⟩)
    · obtain ⟨v, hv, rfl⟩ := inR_nat (by decide) dq2
      have hl : lv_has ls 3 [(0, .ref (b + 131)), (1, .int (nI q)), (2, .int (nI v))] := hl
      refine lv_iload_n hx hb dX11_distance_14 rfl (lv_at hl 1 rfl) ?_
      refine lv_iload_n hx hb dX11_distance_15 rfl (lv_at hl 2 rfl) ?_
      refine sn_icmp_eq (tgt := 34) hx hb dX11_distance_16 (by decide) (by omega) (by omega) (fun dq3 => ?_) (fun dq3 => ?_)
      · refine lv_ldc (v := (-1000000001)) hx hb hown (hts (Cond.constant RX11 127 ((-1000000001))) wk_X11_127) dX11_distance_34 ?_
        exact hret _ _ _ _ _ _ dX11_distance_36 hM (⟨by subst dq3; exact F_dist_o3.symm, hI, fun _ _ => rfl⟩)
      · refine lv_iload_n hx hb dX11_distance_19 rfl (lv_at hl 1 rfl) ?_
        refine lv_iload_n hx hb dX11_distance_20 rfl (lv_at hl 2 rfl) ?_
        refine sg_ci (sg_runS (d := 0) (As := [.int (nI v)]) (rest := [.int (nI q)]) hx hb hml hts hown hK hM (c_m_xOf l G b σ v (by first | omega | exact fam_lt _ _ _ _ _ | exact gf_lt _ | exact tf_lt _ | exact pt_lt (by first | omega | exact fam_lt _ _ _ _ _) (by omega) | exact tn_lt (by first | omega | exact pt_lt (by omega) (by omega)))) mi_X11_xOf wl_X11_51 rfl hl.1 rfl (Nat.le_of_ble_eq_true rfl) dX11_distance_21 ⟨by decide, by decide⟩ ⟨Nat.le_refl 0, Nat.le_refl 0⟩) hM sgA (fun r_21 σ_21 H locs hp_21 hM => ?_)
        obtain ⟨hr_21, hs_21⟩ := hp_21; subst r_21; subst σ_21
        refine lv_iload_n hx hb dX11_distance_24 rfl (lv_at hl 2 rfl) ?_
        refine sg_ci (sg_runS (d := 0) (As := [.int (nI v)]) (rest := [.int (gx v), .int (nI q)]) hx hb hml hts hown hK hM (c_m_yOf l G b σ v (by first | omega | exact fam_lt _ _ _ _ _ | exact gf_lt _ | exact tf_lt _ | exact pt_lt (by first | omega | exact fam_lt _ _ _ _ _) (by omega) | exact tn_lt (by first | omega | exact pt_lt (by omega) (by omega)))) mi_X11_yOf wl_X11_54 rfl hl.1 rfl (Nat.le_of_ble_eq_true rfl) dX11_distance_25 ⟨by decide, by decide⟩ ⟨Nat.le_refl 0, Nat.le_refl 0⟩) hM sgA (fun r_25 σ_25 H locs hp_25 hM => ?_)
        obtain ⟨hr_25, hs_25⟩ := hp_25; subst r_25; subst σ_25
        refine sg_ci (sg_runS (d := 1) (As := [.int (nI q), .int (gx v), .int (gy v)]) (rest := []) hx hb hml hts hown hK hM (c_m_far l G b σ q (gx v) (gy v) (by first | omega | exact fam_lt _ _ _ _ _ | exact gf_lt _ | exact tf_lt _ | exact pt_lt (by first | omega | exact fam_lt _ _ _ _ _) (by omega) | exact tn_lt (by first | omega | exact pt_lt (by omega) (by omega)))) mi_X11_far wl_X11_58 rfl hl.1 rfl (Nat.le_of_ble_eq_true rfl) dX11_distance_28 ⟨by decide, by decide⟩ ⟨Nat.le_refl 0, Nat.le_refl 0⟩) hM sgA (fun r_28 σ_28 H locs hp_28 hM => ?_)
        obtain ⟨hr_28, hs_28⟩ := hp_28; subst r_28; subst σ_28
        refine lv_goto (tgt := 36) hx hb dX11_distance_31 (by decide) ?_
        exact hret _ _ _ _ _ _ dX11_distance_36 hM (⟨(F_dist_in hq hv dq3).symm, hI, fun _ _ => rfl⟩)
set_option maxHeartbeats 4000000 in
set_option maxRecDepth 100000 in
theorem y_turned (l : Launch) (G : GT) (b : Nat) (σ : Mem) (w : World) (hI : IRw σ w) (x : Int32) : KI l G b yX11_turned cX11_turned 2 3 σ [.ref (b + 131), .int x] (fun r σ' => r = F_turned x ∧ IRw σ' w ∧ ∀ k, k < 131 → σ' k = σ k) := by
  refine sg_metI [.ref (b + 131), .int x] (by decide) (Nat.le_of_ble_eq_true rfl) ?_
  intro vp ve vs vm args below meth vc ls Q hx hb hml hown hts hK hM hl hret
  have hl : lv_has ls 2 [(0, .ref (b + 131)), (1, .int x)] := hl
  obtain ⟨hR, hA, hn, hP, hJ⟩ := id hI
  have hc := RCd.of hR hA
  have hS24 := hR.2.1.1
  have hN24 := hR.2.1.2
  have hm8 := p2_le hR.1.1.2
  refine lv_iload_n hx hb dX11_turned_0 rfl (lv_at hl 1 rfl) ?_
  refine sg_ci (sg_runS (d := 1) (As := [.int x]) (rest := []) hx hb hml hts hown hK hM (m_isFamily l G b σ x) mi_X11_isFamily wl_X11_170 rfl hl.1 rfl (Nat.le_of_ble_eq_true rfl) dX11_turned_1 ⟨by decide, by decide⟩ ⟨Nat.le_refl 0, Nat.le_refl 0⟩) hM sgA (fun r_1 σ_1 H locs hp_1 hM => ?_)
  obtain ⟨hr_1, hs_1⟩ := hp_1; subst r_1; subst σ_1
  refine sn_ifz_eq (tgt := 14) hx hb dX11_turned_4 (by decide) (fun dq1 => ?_) (fun dq1 => ?_)
  · refine lv_ldc (v := (-1000000001)) hx hb hown (hts (Cond.constant RX11 127 ((-1000000001))) wk_X11_127) dX11_turned_14 ?_
    exact hret _ _ _ _ _ _ dX11_turned_16 hM (⟨by unfold F_turned; rw [dq1]; rfl, hI, fun _ _ => rfl⟩)
  · obtain ⟨f, hf, rfl⟩ := inR_nat (by decide) dq1
    have hl : lv_has ls 2 [(0, .ref (b + 131)), (1, .int (nI f))] := hl
    refine lv_iload_n hx hb dX11_turned_7 rfl (lv_at hl 1 rfl) ?_
    refine sg_ci (sg_runS (d := 2) (As := [.int (nI f)]) (rest := []) hx hb hml hts hown hK hM (m_turnedFamily l G b σ f (by first | omega | exact fam_lt _ _ _ _ _ | exact gf_lt _ | exact tf_lt _ | exact pt_lt (by first | omega | exact fam_lt _ _ _ _ _) (by omega) | exact tn_lt (by first | omega | exact pt_lt (by omega) (by omega)))) mi_X11_turnedFamily wl_X11_148 rfl hl.1 rfl (Nat.le_of_ble_eq_true rfl) dX11_turned_8 ⟨by decide, by decide⟩ ⟨Nat.le_refl 0, Nat.le_refl 0⟩) hM sgA (fun r_8 σ_8 H locs hp_8 hM => ?_)
    obtain ⟨hr_8, hs_8⟩ := hp_8; subst r_8; subst σ_8
    refine lv_goto (tgt := 16) hx hb dX11_turned_11 (by decide) ?_
    exact hret _ _ _ _ _ _ dX11_turned_16 hM (⟨(F_turned_in hf).symm, hI, fun _ _ => rfl⟩)
theorem swp_f {what : Int32} {l : List Int32} {d : Int32} {k : Nat} (h : inR what (nI 0) (nI k) = false) (hl : l.length = k + 1) (hk : k < 1000 := by decide) : swp what l d = d := by
  unfold swp
  split
  · rename_i q
    exfalso
    have a := of_decide_eq_false h
    apply a
    refine ⟨Int32.le_iff_toInt_le.mpr ?_, Int32.le_iff_toInt_le.mpr ?_⟩
    · rw [nI_toInt (by omega)]; omega
    · rw [nI_toInt (by omega)]; omega
  · rfl
set_option maxHeartbeats 4000000 in
set_option maxRecDepth 100000 in
theorem y_next (l : Launch) (G : GT) (b : Nat) (σ : Mem) (w : World) (hI : IRw σ w) (x y what : Int32) : KI l G b yX11_next cX11_next 4 2 σ [.ref (b + 131), .int x, .int y, .int what] (fun r σ' => r = F_next w.1 x y what ∧ IRw σ' w ∧ ∀ k, k < 131 → σ' k = σ k) := by
  refine sg_metI [.ref (b + 131), .int x, .int y, .int what] (by decide) (Nat.le_of_ble_eq_true rfl) ?_
  intro vp ve vs vm args below meth vc ls Q hx hb hml hown hts hK hM hl hret
  have hl : lv_has ls 4 [(0, .ref (b + 131)), (1, .int x), (2, .int y), (3, .int what)] := hl
  obtain ⟨hR, hA, hn, hP, hJ⟩ := id hI
  have hc := RCd.of hR hA
  have hS24 := hR.2.1.1
  have hN24 := hR.2.1.2
  have hm8 := p2_le hR.1.1.2
  refine lv_aload_n hx hb dX11_next_0 rfl (lv_at hl 0 rfl) ?_
  refine lv_iload_n hx hb dX11_next_1 rfl (lv_at hl 1 rfl) ?_
  refine sg_ci (sg_runV (d := 1) (As := [.int x]) (rest := []) hx hb hml hts hown hK hM (m_isState l G b σ (rM w.1) (rG w.1) (rH w.1) x hc) mi_X11_isState wl_X11_123 (sh18 kc_131) (kd_lt kc_131 (by decide)) rfl rfl rfl hl.1 rfl (Nat.le_of_ble_eq_true rfl) dX11_next_2 ⟨by decide, by decide⟩ ⟨Nat.le_refl 0, Nat.le_refl 0⟩) hM sgA (fun r_2 σ_2 H locs hp_2 hM => ?_)
  obtain ⟨hr_2, hs_2⟩ := hp_2; subst r_2; subst σ_2
  refine sn_ifz_ne (tgt := 11) hx hb dX11_next_5 (by decide) (fun dq1 => ?_) (fun dq1 => ?_)
  · obtain ⟨s, hs, rfl⟩ := stB_t hR.1.1.2 dq1
    have hl : lv_has ls 4 [(0, .ref (b + 131)), (1, .int (nI s)), (2, .int y), (3, .int what)] := hl
    refine lv_iload_n hx hb dX11_next_11 rfl (lv_at hl 2 rfl) ?_
    refine lv_iconst (v := nI 0) hx hb dX11_next_12 (by decide) ?_
    refine lv_iconst (v := nI 1) hx hb dX11_next_13 (by decide) ?_
    refine sg_ci (sg_runS (d := 0) (As := [.int y, .int (nI 0), .int (nI 1)]) (rest := []) hx hb hml hts hown hK hM (m_in l G b σ y (nI 0) (nI 1)) mi_X11_in wl_X11_69 rfl hl.1 rfl (Nat.le_of_ble_eq_true rfl) dX11_next_14 ⟨by decide, by decide⟩ ⟨Nat.le_refl 0, Nat.le_refl 0⟩) hM sgA (fun r_14 σ_14 H locs hp_14 hM => ?_)
    obtain ⟨hr_14, hs_14⟩ := hp_14; subst r_14; subst σ_14
    refine sn_ifz_eq (tgt := 29) hx hb dX11_next_17 (by decide) (fun dq2 => ?_) (fun dq2 => ?_)
    · refine lv_ldc (v := (-1000000002)) hx hb hown (hts (Cond.constant RX11 84 ((-1000000002))) wk_X11_84) dX11_next_29 ?_
      exact hret _ _ _ _ _ _ dX11_next_31 hM (⟨(F_next_o dq1 dq2).symm, hI, fun _ _ => rfl⟩)
    · obtain ⟨u, hu, rfl⟩ := inR_nat (by decide) dq2
      have hl : lv_has ls 4 [(0, .ref (b + 131)), (1, .int (nI s)), (2, .int (nI u)), (3, .int what)] := hl
      refine lv_iload_n hx hb dX11_next_20 rfl (lv_at hl 3 rfl) ?_
      refine lv_iconst (v := nI 0) hx hb dX11_next_21 (by decide) ?_
      refine lv_iconst (v := nI 1) hx hb dX11_next_22 (by decide) ?_
      refine sg_ci (sg_runS (d := 0) (As := [.int what, .int (nI 0), .int (nI 1)]) (rest := []) hx hb hml hts hown hK hM (m_in l G b σ what (nI 0) (nI 1)) mi_X11_in wl_X11_69 rfl hl.1 rfl (Nat.le_of_ble_eq_true rfl) dX11_next_23 ⟨by decide, by decide⟩ ⟨Nat.le_refl 0, Nat.le_refl 0⟩) hM sgA (fun r_23 σ_23 H locs hp_23 hM => ?_)
      obtain ⟨hr_23, hs_23⟩ := hp_23; subst r_23; subst σ_23
      refine sn_ifz_ne (tgt := 32) hx hb dX11_next_26 (by decide) (fun dq3 => ?_) (fun dq3 => ?_)
      · obtain ⟨j, hj, rfl⟩ := inR_nat (by decide) dq3
        have hl : lv_has ls 4 [(0, .ref (b + 131)), (1, .int (nI s)), (2, .int (nI u)), (3, .int (nI j))] := hl
        refine lv_iload_n hx hb dX11_next_32 rfl (lv_at hl 3 rfl) ?_
        refine sn_if_ne (tgt := 45) hx hb dX11_next_33 (by decide) (by omega) (fun c_33 => ?_) (fun c_33 => ?_)
        · refine lv_aload_n hx hb dX11_next_45 rfl (lv_at hl 0 rfl) ?_
          refine lv_iload_n hx hb dX11_next_46 rfl (lv_at hl 1 rfl) ?_
          refine lv_iload_n hx hb dX11_next_47 rfl (lv_at hl 2 rfl) ?_
          refine sg_ci (sg_runV (d := 0) (As := [.int (nI s), .int (nI u)]) (rest := []) hx hb hml hts hown hK hM (m_next l G b σ (rM w.1) (rG w.1) (rH w.1) s u (hc) (by omega) (hs)) mi_X11_stateBy wl_X11_88 (sh18 kc_131) (kd_lt kc_131 (by decide)) rfl rfl rfl hl.1 rfl (Nat.le_of_ble_eq_true rfl) dX11_next_48 ⟨by decide, by decide⟩ ⟨Nat.le_refl 0, Nat.le_refl 0⟩) hM sgA (fun r_48 σ_48 H locs hp_48 hM => ?_)
          obtain ⟨hr_48, hs_48⟩ := hp_48; subst r_48; subst σ_48
          have ej : j = 1 := by omega
          exact hret _ _ _ _ _ _ dX11_next_51 hM (⟨by subst ej; rw [F_next_in hR.1.1.2 hs hu, swp_in 1 (Nat.le_of_ble_eq_true rfl) (Nat.le_of_ble_eq_true rfl)]; rfl, hI, fun _ _ => rfl⟩)
        · refine lv_aload_n hx hb dX11_next_36 rfl (lv_at hl 0 rfl) ?_
          refine lv_iload_n hx hb dX11_next_37 rfl (lv_at hl 1 rfl) ?_
          refine lv_iload_n hx hb dX11_next_38 rfl (lv_at hl 2 rfl) ?_
          refine sg_ci (sg_runV (d := 1) (As := [.int (nI s), .int (nI u)]) (rest := []) hx hb hml hts hown hK hM (m_fam l G b σ (rM w.1) (rG w.1) (rH w.1) s u (hc) (by omega) (hs)) mi_X11_familyBy wl_X11_94 (sh18 kc_131) (kd_lt kc_131 (by decide)) rfl rfl rfl hl.1 rfl (Nat.le_of_ble_eq_true rfl) dX11_next_39 ⟨by decide, by decide⟩ ⟨Nat.le_refl 0, Nat.le_refl 0⟩) hM sgA (fun r_39 σ_39 H locs hp_39 hM => ?_)
          obtain ⟨hr_39, hs_39⟩ := hp_39; subst r_39; subst σ_39
          refine lv_goto (tgt := 51) hx hb dX11_next_42 (by decide) ?_
          exact hret _ _ _ _ _ _ dX11_next_51 hM (⟨by subst c_33; rw [F_next_in hR.1.1.2 hs hu, swp_in 0 (Nat.le_of_ble_eq_true rfl) (Nat.le_of_ble_eq_true rfl)]; rfl, hI, fun _ _ => rfl⟩)
      · refine lv_ldc (v := (-1000000002)) hx hb hown (hts (Cond.constant RX11 84 ((-1000000002))) wk_X11_84) dX11_next_29 ?_
        exact hret _ _ _ _ _ _ dX11_next_31 hM (⟨by rw [F_next_in hR.1.1.2 hs hu, swp_f dq3 rfl], hI, fun _ _ => rfl⟩)
  · refine lv_ldc (v := (-1000000001)) hx hb hown (hts (Cond.constant RX11 127 ((-1000000001))) wk_X11_127) dX11_next_8 ?_
    exact hret _ _ _ _ _ _ dX11_next_10 hM (⟨by unfold F_next; rw [dq1]; rfl, hI, fun _ _ => rfl⟩)
set_option maxHeartbeats 4000000 in
set_option maxRecDepth 100000 in
theorem y_sent (l : Launch) (G : GT) (b : Nat) (σ : Mem) (w : World) (hI : IRw σ w) (x what : Int32) : KI l G b yX11_sent cX11_sent 3 3 σ [.ref (b + 131), .int x, .int what] (fun r σ' => r = F_sent w.1 x what ∧ IRw σ' w ∧ ∀ k, k < 131 → σ' k = σ k) := by
  refine sg_metI [.ref (b + 131), .int x, .int what] (by decide) (Nat.le_of_ble_eq_true rfl) ?_
  intro vp ve vs vm args below meth vc ls Q hx hb hml hown hts hK hM hl hret
  have hl : lv_has ls 3 [(0, .ref (b + 131)), (1, .int x), (2, .int what)] := hl
  obtain ⟨hR, hA, hn, hP, hJ⟩ := id hI
  have hc := RCd.of hR hA
  have hS24 := hR.2.1.1
  have hN24 := hR.2.1.2
  have hm8 := p2_le hR.1.1.2
  refine lv_iload_n hx hb dX11_sent_0 rfl (lv_at hl 1 rfl) ?_
  refine lv_iconst (v := nI 0) hx hb dX11_sent_1 (by decide) ?_
  refine lv_aload_n hx hb dX11_sent_2 rfl (lv_at hl 0 rfl) ?_
  refine sg_get (v := .ref (b + 132)) hx hb hts hown hK hM (sh18 kc_131) (kd_lt kc_131 (by decide)) rfl inX11 0 (by decide) wf_X11_7 rfl dX11_sent_3 ?_
  refine lv_iconst (v := nI 4) hx hb dX11_sent_6 (by decide) ?_
  refine sg_iald hx hb hK hM (sh19 kc_132) (kd_lt kc_132 (by decide)) (i := 4) (by omega) (by decide) dX11_sent_7 ?_
  refine sn_top (y := nI (rS w.1)) (hA.1.2.2.2.2.1) ?_
  refine lv_iconst (v := nI 1) hx hb dX11_sent_8 (by decide) ?_
  refine lv_isub hx hb dX11_sent_9 ?_
  refine sg_ci (sg_runS (d := 0) (As := [.int x, .int (nI 0), .int ((nI (rS w.1)) - (nI 1))]) (rest := []) hx hb hml hts hown hK hM (m_in l G b σ x (nI 0) ((nI (rS w.1)) - (nI 1))) mi_X11_in wl_X11_69 rfl hl.1 rfl (Nat.le_of_ble_eq_true rfl) dX11_sent_10 ⟨by decide, by decide⟩ ⟨Nat.le_refl 0, Nat.le_refl 0⟩) hM sgA (fun r_10 σ_10 H locs hp_10 hM => ?_)
  obtain ⟨hr_10, hs_10⟩ := hp_10; subst r_10; subst σ_10
  refine sn_ifz_ne (tgt := 19) hx hb dX11_sent_13 (by decide) (fun dq1 => ?_) (fun dq1 => ?_)
  · obtain ⟨k, hk, rfl⟩ := ixB_t (by omega) dq1
    have hl : lv_has ls 3 [(0, .ref (b + 131)), (1, .int (nI k)), (2, .int what)] := hl
    refine lv_iload_n hx hb dX11_sent_19 rfl (lv_at hl 2 rfl) ?_
    rcases swc what 3 with c_20 | ⟨j, hj, c_20⟩
    · refine lv_tableOut (tgt := 80) hx hb dX11_sent_20 c_20 (by decide) ?_
      refine lv_ldc (v := (-1000000002)) hx hb hown (hts (Cond.constant RX11 84 ((-1000000002))) wk_X11_84) dX11_sent_80 ?_
      exact hret _ _ _ _ _ _ dX11_sent_82 hM (⟨by rw [F_sent_in hk hS24, swp_out c_20 rfl], hI, fun _ _ => rfl⟩)
    · match j, hj with
      | 0, _ =>
        subst c_20
        refine lv_tableIn (tgt := 52) (off := 32) hx hb dX11_sent_20 (by decide) (by decide) (by decide) (by decide) ?_
        have hl : lv_has ls 3 [(0, .ref (b + 131)), (1, .int (nI k)), (2, .int (nI 0))] := hl
        refine lv_aload_n hx hb dX11_sent_52 rfl (lv_at hl 0 rfl) ?_
        refine sg_get (v := .ref (b + 132)) hx hb hts hown hK hM (sh18 kc_131) (kd_lt kc_131 (by decide)) rfl inX11 0 (by decide) wf_X11_7 rfl dX11_sent_53 ?_
        refine lv_bipush (v := nI 6) hx hb dX11_sent_56 (by decide) ?_
        refine lv_iconst (v := nI 2) hx hb dX11_sent_58 (by decide) ?_
        refine lv_iload_n hx hb dX11_sent_59 rfl (lv_at hl 1 rfl) ?_
        refine sn_imul hx hb dX11_sent_60 ?_
        refine sn_iadd hx hb dX11_sent_61 ?_
        refine lv_iload_n hx hb dX11_sent_62 rfl (lv_at hl 2 rfl) ?_
        refine sn_iadd hx hb dX11_sent_63 ?_
        refine sg_iald hx hb hK hM (sh19 kc_132) (kd_lt kc_132 (by decide)) (i := (6 + (2 * k)) + 0) (by omega) (by decide) dX11_sent_64 ?_
        refine sn_top (y := nI (rU w.1 k)) ((hA.2.1 k hk).1) ?_
        exact hret _ _ _ _ _ _ dX11_sent_65 hM (⟨by rw [F_sent_in hk hS24, swp_in 0 (Nat.le_of_ble_eq_true rfl) (Nat.le_of_ble_eq_true rfl)]; rfl, hI, fun _ _ => rfl⟩)
      | 1, _ =>
        subst c_20
        refine lv_tableIn (tgt := 52) (off := 32) hx hb dX11_sent_20 (by decide) (by decide) (by decide) (by decide) ?_
        have hl : lv_has ls 3 [(0, .ref (b + 131)), (1, .int (nI k)), (2, .int (nI 1))] := hl
        refine lv_aload_n hx hb dX11_sent_52 rfl (lv_at hl 0 rfl) ?_
        refine sg_get (v := .ref (b + 132)) hx hb hts hown hK hM (sh18 kc_131) (kd_lt kc_131 (by decide)) rfl inX11 0 (by decide) wf_X11_7 rfl dX11_sent_53 ?_
        refine lv_bipush (v := nI 6) hx hb dX11_sent_56 (by decide) ?_
        refine lv_iconst (v := nI 2) hx hb dX11_sent_58 (by decide) ?_
        refine lv_iload_n hx hb dX11_sent_59 rfl (lv_at hl 1 rfl) ?_
        refine sn_imul hx hb dX11_sent_60 ?_
        refine sn_iadd hx hb dX11_sent_61 ?_
        refine lv_iload_n hx hb dX11_sent_62 rfl (lv_at hl 2 rfl) ?_
        refine sn_iadd hx hb dX11_sent_63 ?_
        refine sg_iald hx hb hK hM (sh19 kc_132) (kd_lt kc_132 (by decide)) (i := (6 + (2 * k)) + 1) (by omega) (by decide) dX11_sent_64 ?_
        refine sn_top (y := nI (rW w.1 k)) ((hA.2.1 k hk).2) ?_
        exact hret _ _ _ _ _ _ dX11_sent_65 hM (⟨by rw [F_sent_in hk hS24, swp_in 1 (Nat.le_of_ble_eq_true rfl) (Nat.le_of_ble_eq_true rfl)]; rfl, hI, fun _ _ => rfl⟩)
      | 2, _ =>
        subst c_20
        refine lv_tableIn (tgt := 66) (off := 46) hx hb dX11_sent_20 (by decide) (by decide) (by decide) (by decide) ?_
        have hl : lv_has ls 3 [(0, .ref (b + 131)), (1, .int (nI k)), (2, .int (nI 2))] := hl
        refine lv_aload_n hx hb dX11_sent_66 rfl (lv_at hl 0 rfl) ?_
        refine lv_iload_n hx hb dX11_sent_67 rfl (lv_at hl 1 rfl) ?_
        refine sg_ci (sg_runV (d := 2) (As := [.int (nI k)]) (rest := []) hx hb hml hts hown hK hM (m_pointSent l G b σ w.1 hR hA k hk) mi_X11_pointSent wl_X11_102 (sh18 kc_131) (kd_lt kc_131 (by decide)) rfl rfl rfl hl.1 rfl (Nat.le_of_ble_eq_true rfl) dX11_sent_68 ⟨by decide, by decide⟩ ⟨Nat.le_refl 0, Nat.le_refl 0⟩) hM sgA (fun r_68 σ_68 H locs hp_68 hM => ?_)
        obtain ⟨hr_68, hs_68⟩ := hp_68; subst r_68; subst σ_68
        exact hret _ _ _ _ _ _ dX11_sent_71 hM (⟨by rw [F_sent_in hk hS24, swp_in 2 (Nat.le_of_ble_eq_true rfl) (Nat.le_of_ble_eq_true rfl)]; rfl, hI, fun _ _ => rfl⟩)
      | 3, _ =>
        subst c_20
        refine lv_tableIn (tgt := 72) (off := 52) hx hb dX11_sent_20 (by decide) (by decide) (by decide) (by decide) ?_
        have hl : lv_has ls 3 [(0, .ref (b + 131)), (1, .int (nI k)), (2, .int (nI 3))] := hl
        refine lv_aload_n hx hb dX11_sent_72 rfl (lv_at hl 0 rfl) ?_
        refine lv_iload_n hx hb dX11_sent_73 rfl (lv_at hl 1 rfl) ?_
        refine lv_iconst (v := nI 1) hx hb dX11_sent_74 (by decide) ?_
        refine sn_iadd hx hb dX11_sent_75 ?_
        refine sg_ci (sg_runV (d := 1) (As := [.int (nI (k + 1))]) (rest := []) hx hb hml hts hown hK hM (m_behind l G b σ w.1 hR hA (k + 1) (by omega)) mi_X11_stateBehind wl_X11_91 (sh18 kc_131) (kd_lt kc_131 (by decide)) rfl rfl rfl hl.1 rfl (Nat.le_of_ble_eq_true rfl) dX11_sent_76 ⟨by decide, by decide⟩ ⟨Nat.le_refl 0, Nat.le_refl 0⟩) hM sgA (fun r_76 σ_76 H locs hp_76 hM => ?_)
        obtain ⟨hr_76, hs_76⟩ := hp_76; subst r_76; subst σ_76
        exact hret _ _ _ _ _ _ dX11_sent_79 hM (⟨by rw [F_sent_in hk hS24, swp_in 3 (Nat.le_of_ble_eq_true rfl) (Nat.le_of_ble_eq_true rfl)]; rfl, hI, fun _ _ => rfl⟩)
      | j + 4, hj => exact absurd hj (by omega)
  · refine lv_ldc (v := (-1000000001)) hx hb hown (hts (Cond.constant RX11 127 ((-1000000001))) wk_X11_127) dX11_sent_16 ?_
    exact hret _ _ _ _ _ _ dX11_sent_18 hM (⟨by unfold F_sent ixB; rw [dq1]; rfl, hI, fun _ _ => rfl⟩)
theorem hd_two {σ : Mem} {A : Rec} (hA : RecF (σ 132) A) {k j : Nat} (hk : k < rN A) (h24 : rN A ≤ 24) (hj : j < 2) : σ 132 (54 + 2 * k + j) = F_heard A (nI k) (nI j) := by
  rw [F_heard_in hk h24, swp_in j (by show j < 3; omega) (Nat.le_of_ble_eq_true rfl)]
  match j, hj with
  | 0, _ => exact (hA.2.2 k hk).1
  | 1, _ => exact (hA.2.2 k hk).2
  | j + 2, hj => exact absurd hj (by omega)
set_option maxHeartbeats 4000000 in
set_option maxRecDepth 100000 in
theorem y_heard (l : Launch) (G : GT) (b : Nat) (σ : Mem) (w : World) (hI : IRw σ w) (x what : Int32) : KI l G b yX11_heard cX11_heard 5 3 σ [.ref (b + 131), .int x, .int what] (fun r σ' => r = F_heard w.1 x what ∧ IRw σ' w ∧ ∀ k, k < 131 → σ' k = σ k) := by
  refine sg_metI [.ref (b + 131), .int x, .int what] (by decide) (Nat.le_of_ble_eq_true rfl) ?_
  intro vp ve vs vm args below meth vc ls Q hx hb hml hown hts hK hM hl hret
  have hl : lv_has ls 5 [(0, .ref (b + 131)), (1, .int x), (2, .int what)] := hl
  obtain ⟨hR, hA, hn, hP, hJ⟩ := id hI
  have hc := RCd.of hR hA
  have hS24 := hR.2.1.1
  have hN24 := hR.2.1.2
  have hm8 := p2_le hR.1.1.2
  refine lv_iload_n hx hb dX11_heard_0 rfl (lv_at hl 1 rfl) ?_
  refine lv_iconst (v := nI 0) hx hb dX11_heard_1 (by decide) ?_
  refine lv_aload_n hx hb dX11_heard_2 rfl (lv_at hl 0 rfl) ?_
  refine sg_get (v := .ref (b + 132)) hx hb hts hown hK hM (sh18 kc_131) (kd_lt kc_131 (by decide)) rfl inX11 0 (by decide) wf_X11_7 rfl dX11_heard_3 ?_
  refine lv_iconst (v := nI 5) hx hb dX11_heard_6 (by decide) ?_
  refine sg_iald hx hb hK hM (sh19 kc_132) (kd_lt kc_132 (by decide)) (i := 5) (by omega) (by decide) dX11_heard_7 ?_
  refine sn_top (y := nI (rN w.1)) (hA.1.2.2.2.2.2) ?_
  refine lv_iconst (v := nI 1) hx hb dX11_heard_8 (by decide) ?_
  refine lv_isub hx hb dX11_heard_9 ?_
  refine sg_ci (sg_runS (d := 0) (As := [.int x, .int (nI 0), .int ((nI (rN w.1)) - (nI 1))]) (rest := []) hx hb hml hts hown hK hM (m_in l G b σ x (nI 0) ((nI (rN w.1)) - (nI 1))) mi_X11_in wl_X11_69 rfl hl.1 rfl (Nat.le_of_ble_eq_true rfl) dX11_heard_10 ⟨by decide, by decide⟩ ⟨Nat.le_refl 0, Nat.le_refl 0⟩) hM sgA (fun r_10 σ_10 H locs hp_10 hM => ?_)
  obtain ⟨hr_10, hs_10⟩ := hp_10; subst r_10; subst σ_10
  refine sn_ifz_ne (tgt := 19) hx hb dX11_heard_13 (by decide) (fun dq1 => ?_) (fun dq1 => ?_)
  · obtain ⟨k, hk, rfl⟩ := ixB_t (by omega) dq1
    have hok := hR.2.2.2.1 k hk
    have hl : lv_has ls 5 [(0, .ref (b + 131)), (1, .int (nI k)), (2, .int what)] := hl
    refine lv_iload_n hx hb dX11_heard_19 rfl (lv_at hl 2 rfl) ?_
    refine lv_iconst (v := nI 0) hx hb dX11_heard_20 (by decide) ?_
    refine lv_iconst (v := nI 2) hx hb dX11_heard_21 (by decide) ?_
    refine sg_ci (sg_runS (d := 0) (As := [.int what, .int (nI 0), .int (nI 2)]) (rest := []) hx hb hml hts hown hK hM (m_in l G b σ what (nI 0) (nI 2)) mi_X11_in wl_X11_69 rfl hl.1 rfl (Nat.le_of_ble_eq_true rfl) dX11_heard_22 ⟨by decide, by decide⟩ ⟨Nat.le_refl 0, Nat.le_refl 0⟩) hM sgA (fun r_22 σ_22 H locs hp_22 hM => ?_)
    obtain ⟨hr_22, hs_22⟩ := hp_22; subst r_22; subst σ_22
    refine sn_ifz_ne (tgt := 31) hx hb dX11_heard_25 (by decide) (fun dq2 => ?_) (fun dq2 => ?_)
    · obtain ⟨j, hj, rfl⟩ := inR_nat (by decide) dq2
      have hl : lv_has ls 5 [(0, .ref (b + 131)), (1, .int (nI k)), (2, .int (nI j))] := hl
      refine lv_iload_n hx hb dX11_heard_31 rfl (lv_at hl 2 rfl) ?_
      refine lv_iconst (v := nI 2) hx hb dX11_heard_32 (by decide) ?_
      refine sn_icmp_ge (tgt := 50) hx hb dX11_heard_33 (by decide) (by omega) (by omega) (fun dq3 => ?_) (fun dq3 => ?_)
      · refine lv_iconst (v := nI 0) hx hb dX11_heard_50 (by decide) ?_
        refine lv_istore_n (lv' := [(3, .int (nI 0)), (0, .ref (b + 131)), (1, .int (nI k)), (2, .int (nI j))]) hx hb dX11_heard_51 rfl hl (by decide) rfl (fun ls hl => ?_)
        refine lv_iconst (v := nI 1) hx hb dX11_heard_52 (by decide) ?_
        refine lv_istore (lv' := [(4, .int (nI 1)), (3, .int (nI 0)), (0, .ref (b + 131)), (1, .int (nI k)), (2, .int (nI j))]) hx hb dX11_heard_53 hl (by decide) rfl (fun ls hl => ?_)
        have L55 : ∀ (fuel : Nat) (k1 : Nat) (v1 : Nat), (1 ≤ k1) → (k1 ≤ 16) → (v1 = pa (rX w.1 k) (rY w.1 k) k1) → (16 - k1) < fuel → ∀ (H : Heap) (locs : List Loc) (ls : Array Slot), St G (Fr b) b σ vs H locs → lv_has ls 5 [(0, .ref (b + 131)), (1, .int (nI k)), (3, .int (nI v1)), (4, .int (nI k1))] → W vp l ve (RM 3) vs vm args below meth vc H locs 0 0 Q (F0 vm 55 ls []) := by
          intro fuel
          induction fuel with
          | zero => intro k1 v1 hk1 hk2 hv1 hF; exact absurd hF (Nat.not_lt_zero _)
          | succ fuel ih55 =>
            intro k1 v1 hk1 hk2 hv1 hF H locs ls hM hl
            refine lv_iload hx hb dX11_heard_55 (lv_at hl 3 rfl) ?_
            refine lv_bipush (v := nI 16) hx hb dX11_heard_57 (by decide) ?_
            refine sn_icmp_ge (tgt := 91) hx hb dX11_heard_59 (by decide) (by omega) (by omega) (fun hlt => ?_) (fun hlt => ?_)
            · refine lv_iload_n hx hb dX11_heard_91 rfl (lv_at hl 2 rfl) ?_
              have ej : j = 2 := by omega
              have ek : k1 = 16 := by omega
              exact hret _ _ _ _ _ _ dX11_heard_92 hM (⟨by subst ej; subst ek; rw [F_heard_in hk hN24, swp_in 2 (Nat.le_of_ble_eq_true rfl) (Nat.le_of_ble_eq_true rfl), hv1]; rfl, hI, fun _ _ => rfl⟩)
            · have hv16 : v1 < 16 := by rw [hv1]; exact pa_lt _ _ _ hk2
              refine lv_aload_n hx hb dX11_heard_62 rfl (lv_at hl 0 rfl) ?_
              refine lv_iload_n hx hb dX11_heard_63 rfl (lv_at hl 1 rfl) ?_
              refine lv_iload hx hb dX11_heard_64 (lv_at hl 3 rfl) ?_
              refine sg_ci (sg_runV (d := 2) (As := [.int (nI k), .int (nI k1)]) (rest := []) hx hb hml hts hown hK hM (m_costAt l G b σ w.1 hR hA k k1 hk (by omega)) mi_X11_costAt wl_X11_129 (sh18 kc_131) (kd_lt kc_131 (by decide)) rfl rfl rfl hl.1 rfl (Nat.le_of_ble_eq_true rfl) dX11_heard_66 ⟨by decide, by decide⟩ ⟨Nat.le_refl 0, Nat.le_refl 0⟩) hM sgA (fun r_66 σ_66 H locs hp_66 hM => ?_)
              obtain ⟨hr_66, hs_66⟩ := hp_66; subst r_66; subst σ_66
              refine lv_aload_n hx hb dX11_heard_69 rfl (lv_at hl 0 rfl) ?_
              refine lv_iload_n hx hb dX11_heard_70 rfl (lv_at hl 1 rfl) ?_
              refine lv_iload_n hx hb dX11_heard_71 rfl (lv_at hl 2 rfl) ?_
              refine sg_ci (sg_runV (d := 2) (As := [.int (nI k), .int (nI v1)]) (rest := [.int (nI (dN k1 (rX w.1 k) (rY w.1 k)))]) hx hb hml hts hown hK hM (m_costAt l G b σ w.1 hR hA k v1 hk hv16) mi_X11_costAt wl_X11_129 (sh18 kc_131) (kd_lt kc_131 (by decide)) rfl rfl rfl hl.1 rfl (Nat.le_of_ble_eq_true rfl) dX11_heard_72 ⟨by decide, by decide⟩ ⟨Nat.le_refl 0, Nat.le_refl 0⟩) hM sgA (fun r_72 σ_72 H locs hp_72 hM => ?_)
              obtain ⟨hr_72, hs_72⟩ := hp_72; subst r_72; subst σ_72
              refine sn_icmp_ge (tgt := 83) hx hb dX11_heard_75 (by decide) (by have := (far_dN hok (show k1 < 16 by omega)).2; omega) (by have := (far_dN hok hv16).2; omega) (fun c_75 => ?_) (fun c_75 => ?_)
              · refine lv_iload_n hx hb dX11_heard_83 rfl (lv_at hl 2 rfl) ?_
                refine lv_istore_n (lv' := [(3, .int (nI v1)), (0, .ref (b + 131)), (1, .int (nI k)), (4, .int (nI k1))]) hx hb dX11_heard_84 rfl hl (by decide) rfl (fun ls hl => ?_)
                refine lv_iinc (v := nI (k1 + 1)) (lv' := [(4, .int (nI (k1 + 1))), (3, .int (nI v1)), (0, .ref (b + 131)), (1, .int (nI k))]) hx hb dX11_heard_85 hl (k := 3) rfl (q_inc _) (by decide) rfl (fun ls hl => ?_)
                refine lv_goto (tgt := 55) hx hb dX11_heard_88 (by decide) ?_
                exact ih55 (k1 + 1) v1 (by omega) (by omega) (by rw [pa_s, if_neg (Int32.not_lt.mpr (by rw [← hv1, (far_dN hok (show k1 < 16 by omega)).1, (far_dN hok hv16).1]; exact nI_le c_75 (by have := (far_dN hok (show k1 < 16 by omega)).2; omega)))]; exact hv1) (by omega) _ _ _ hM (lv_sub hl [2, 3, 1, 0] rfl)
              · refine lv_iload hx hb dX11_heard_78 (lv_at hl 3 rfl) ?_
                refine lv_goto (tgt := 84) hx hb dX11_heard_80 (by decide) ?_
                refine lv_istore_n (lv' := [(3, .int (nI k1)), (0, .ref (b + 131)), (1, .int (nI k)), (4, .int (nI k1))]) hx hb dX11_heard_84 rfl hl (by decide) rfl (fun ls hl => ?_)
                refine lv_iinc (v := nI (k1 + 1)) (lv' := [(4, .int (nI (k1 + 1))), (3, .int (nI k1)), (0, .ref (b + 131)), (1, .int (nI k))]) hx hb dX11_heard_85 hl (k := 3) rfl (q_inc _) (by decide) rfl (fun ls hl => ?_)
                refine lv_goto (tgt := 55) hx hb dX11_heard_88 (by decide) ?_
                exact ih55 (k1 + 1) k1 (by omega) (by omega) (by rw [pa_s, if_pos (by rw [← hv1, (far_dN hok (show k1 < 16 by omega)).1, (far_dN hok hv16).1]; exact nI_lt c_75 (by have := (far_dN hok hv16).2; omega))]) (by omega) _ _ _ hM (lv_sub hl [2, 3, 1, 0] rfl)
        exact L55 (_ + 1) 1 0 (by decide) (by decide) ((pa_1 _ _).symm) (Nat.lt_succ_self _) _ _ _ hM (lv_sub hl [2, 3, 1, 0] rfl)
      · refine lv_aload_n hx hb dX11_heard_36 rfl (lv_at hl 0 rfl) ?_
        refine sg_get (v := .ref (b + 132)) hx hb hts hown hK hM (sh18 kc_131) (kd_lt kc_131 (by decide)) rfl inX11 0 (by decide) wf_X11_7 rfl dX11_heard_37 ?_
        refine lv_bipush (v := nI 54) hx hb dX11_heard_40 (by decide) ?_
        refine lv_iconst (v := nI 2) hx hb dX11_heard_42 (by decide) ?_
        refine lv_iload_n hx hb dX11_heard_43 rfl (lv_at hl 1 rfl) ?_
        refine sn_imul hx hb dX11_heard_44 ?_
        refine sn_iadd hx hb dX11_heard_45 ?_
        refine lv_iload_n hx hb dX11_heard_46 rfl (lv_at hl 2 rfl) ?_
        refine sn_iadd hx hb dX11_heard_47 ?_
        refine sg_iald hx hb hK hM (sh19 kc_132) (kd_lt kc_132 (by decide)) (i := (54 + (2 * k)) + j) (by omega) (by decide) dX11_heard_48 ?_
        exact hret _ _ _ _ _ _ dX11_heard_49 hM (⟨hd_two hA hk hN24 dq3, hI, fun _ _ => rfl⟩)
    · refine lv_ldc (v := (-1000000002)) hx hb hown (hts (Cond.constant RX11 84 ((-1000000002))) wk_X11_84) dX11_heard_28 ?_
      exact hret _ _ _ _ _ _ dX11_heard_30 hM (⟨by rw [F_heard_in hk hN24, swp_f dq2 rfl], hI, fun _ _ => rfl⟩)
  · refine lv_ldc (v := (-1000000001)) hx hb hown (hts (Cond.constant RX11 127 ((-1000000001))) wk_X11_127) dX11_heard_16 ?_
    exact hret _ _ _ _ _ _ dX11_heard_18 hM (⟨by unfold F_heard ixB; rw [dq1]; rfl, hI, fun _ _ => rfl⟩)
set_option maxHeartbeats 4000000 in
set_option maxRecDepth 100000 in
theorem y_nearest (l : Launch) (G : GT) (b : Nat) (σ : Mem) (w : World) (hI : IRw σ w) (x what : Int32) : KI l G b yX11_nearest cX11_nearest 3 5 σ [.ref (b + 131), .int x, .int what] (fun r σ' => r = F_nearest w.1 x what ∧ IRw σ' w ∧ ∀ k, k < 131 → σ' k = σ k) := by
  refine sg_metI [.ref (b + 131), .int x, .int what] (by decide) (Nat.le_of_ble_eq_true rfl) ?_
  intro vp ve vs vm args below meth vc ls Q hx hb hml hown hts hK hM hl hret
  have hl : lv_has ls 3 [(0, .ref (b + 131)), (1, .int x), (2, .int what)] := hl
  obtain ⟨hR, hA, hn, hP, hJ⟩ := id hI
  have hc := RCd.of hR hA
  have hS24 := hR.2.1.1
  have hN24 := hR.2.1.2
  have hm8 := p2_le hR.1.1.2
  refine lv_iload_n hx hb dX11_nearest_0 rfl (lv_at hl 1 rfl) ?_
  refine lv_iconst (v := nI 0) hx hb dX11_nearest_1 (by decide) ?_
  refine lv_aload_n hx hb dX11_nearest_2 rfl (lv_at hl 0 rfl) ?_
  refine sg_get (v := .ref (b + 132)) hx hb hts hown hK hM (sh18 kc_131) (kd_lt kc_131 (by decide)) rfl inX11 0 (by decide) wf_X11_7 rfl dX11_nearest_3 ?_
  refine lv_iconst (v := nI 5) hx hb dX11_nearest_6 (by decide) ?_
  refine sg_iald hx hb hK hM (sh19 kc_132) (kd_lt kc_132 (by decide)) (i := 5) (by omega) (by decide) dX11_nearest_7 ?_
  refine sn_top (y := nI (rN w.1)) (hA.1.2.2.2.2.2) ?_
  refine lv_iconst (v := nI 1) hx hb dX11_nearest_8 (by decide) ?_
  refine lv_isub hx hb dX11_nearest_9 ?_
  refine sg_ci (sg_runS (d := 0) (As := [.int x, .int (nI 0), .int ((nI (rN w.1)) - (nI 1))]) (rest := []) hx hb hml hts hown hK hM (m_in l G b σ x (nI 0) ((nI (rN w.1)) - (nI 1))) mi_X11_in wl_X11_69 rfl hl.1 rfl (Nat.le_of_ble_eq_true rfl) dX11_nearest_10 ⟨by decide, by decide⟩ ⟨Nat.le_refl 0, Nat.le_refl 0⟩) hM sgA (fun r_10 σ_10 H locs hp_10 hM => ?_)
  obtain ⟨hr_10, hs_10⟩ := hp_10; subst r_10; subst σ_10
  refine sn_ifz_ne (tgt := 19) hx hb dX11_nearest_13 (by decide) (fun dq1 => ?_) (fun dq1 => ?_)
  · obtain ⟨k, hk, rfl⟩ := ixB_t (by omega) dq1
    have hl : lv_has ls 3 [(0, .ref (b + 131)), (1, .int (nI k)), (2, .int what)] := hl
    refine lv_iload_n hx hb dX11_nearest_19 rfl (lv_at hl 2 rfl) ?_
    refine lv_iconst (v := nI 0) hx hb dX11_nearest_20 (by decide) ?_
    refine lv_iconst (v := nI 3) hx hb dX11_nearest_21 (by decide) ?_
    refine sg_ci (sg_runS (d := 0) (As := [.int what, .int (nI 0), .int (nI 3)]) (rest := []) hx hb hml hts hown hK hM (m_in l G b σ what (nI 0) (nI 3)) mi_X11_in wl_X11_69 rfl hl.1 rfl (Nat.le_of_ble_eq_true rfl) dX11_nearest_22 ⟨by decide, by decide⟩ ⟨Nat.le_refl 0, Nat.le_refl 0⟩) hM sgA (fun r_22 σ_22 H locs hp_22 hM => ?_)
    obtain ⟨hr_22, hs_22⟩ := hp_22; subst r_22; subst σ_22
    refine sn_ifz_ne (tgt := 31) hx hb dX11_nearest_25 (by decide) (fun dq2 => ?_) (fun dq2 => ?_)
    · obtain ⟨j, hj, rfl⟩ := inR_nat (by decide) dq2
      have hl : lv_has ls 3 [(0, .ref (b + 131)), (1, .int (nI k)), (2, .int (nI j))] := hl
      refine lv_aload_n hx hb dX11_nearest_31 rfl (lv_at hl 0 rfl) ?_
      refine lv_aload_n hx hb dX11_nearest_32 rfl (lv_at hl 0 rfl) ?_
      refine sg_get (v := .ref (b + 132)) hx hb hts hown hK hM (sh18 kc_131) (kd_lt kc_131 (by decide)) rfl inX11 0 (by decide) wf_X11_7 rfl dX11_nearest_33 ?_
      refine lv_iconst (v := nI 5) hx hb dX11_nearest_36 (by decide) ?_
      refine sg_iald hx hb hK hM (sh19 kc_132) (kd_lt kc_132 (by decide)) (i := 5) (by omega) (by decide) dX11_nearest_37 ?_
      refine sn_top (y := nI (rN w.1)) (hA.1.2.2.2.2.2) ?_
      refine lv_aload_n hx hb dX11_nearest_38 rfl (lv_at hl 0 rfl) ?_
      refine sg_get (v := .ref (b + 132)) hx hb hts hown hK hM (sh18 kc_131) (kd_lt kc_131 (by decide)) rfl inX11 0 (by decide) wf_X11_7 rfl dX11_nearest_39 ?_
      refine lv_iconst (v := nI 3) hx hb dX11_nearest_42 (by decide) ?_
      refine sg_iald hx hb hK hM (sh19 kc_132) (kd_lt kc_132 (by decide)) (i := 3) (by omega) (by decide) dX11_nearest_43 ?_
      refine sn_top (y := rE w.1) (hA.1.2.2.2.1) ?_
      refine sg_ci (sg_runV (d := 4) (As := [.int (nI (rN w.1)), .int (rE w.1)]) (rest := []) hx hb hml hts hown hK hM (m_finds l G b σ w.1 hR hA (rN w.1) (rE w.1) (Nat.le_refl _)) mi_X11_finds wl_X11_136 (sh18 kc_131) (kd_lt kc_131 (by decide)) rfl rfl rfl hl.1 rfl (Nat.le_of_ble_eq_true rfl) dX11_nearest_44 ⟨by decide, by decide⟩ ⟨Nat.le_refl 0, Nat.le_refl 0⟩) hM sgA (fun r1 σ1 H locs hq hM => ?_)
      obtain ⟨hr1, hq1, hq2⟩ := hq
      have hr1 : r1 = nI (dE w.1) := hr1
      subst hr1
      have hA1 : RecF (σ1 132) w.1 := by rw [hq2 132 (by omega)]; exact hA
      refine lv_ldc (v := nI 99999999) hx hb hown (hts (Cond.constant RX11 57 (nI 99999999)) wk_X11_57) dX11_nearest_47 ?_
      refine sn_icmp_ne (tgt := 54) hx hb dX11_nearest_49 (by decide) (by have := dE_le hR; have : NV = 99999999 := rfl; omega) (by omega) (fun dq3 => ?_) (fun dq3 => ?_)
      · have hd : dE w.1 < NV := Nat.lt_of_le_of_ne (dE_le hR) dq3
        refine lv_iload_n hx hb dX11_nearest_54 rfl (lv_at hl 2 rfl) ?_
        refine sn_if_ne (tgt := 67) hx hb dX11_nearest_55 (by decide) (by omega) (fun c_55 => ?_) (fun c_55 => ?_)
        · refine lv_iload_n hx hb dX11_nearest_67 rfl (lv_at hl 2 rfl) ?_
          refine lv_iconst (v := nI 1) hx hb dX11_nearest_68 (by decide) ?_
          refine sn_icmp_ne (tgt := 81) hx hb dX11_nearest_69 (by decide) (by omega) (by omega) (fun c_69 => ?_) (fun c_69 => ?_)
          · refine lv_iload_n hx hb dX11_nearest_81 rfl (lv_at hl 2 rfl) ?_
            refine lv_iconst (v := nI 2) hx hb dX11_nearest_82 (by decide) ?_
            refine sn_icmp_ne (tgt := 94) hx hb dX11_nearest_83 (by decide) (by omega) (by omega) (fun c_83 => ?_) (fun c_83 => ?_)
            · refine lv_aload_n hx hb dX11_nearest_94 rfl (lv_at hl 0 rfl) ?_
              refine sg_get (v := .ref (b + 139)) hx hb hts hown hK hM (sh18 kc_131) (kd_lt kc_131 (by decide)) rfl inX11 8 (by decide) wf_X11_32 rfl dX11_nearest_95 ?_
              refine lv_iload_n hx hb dX11_nearest_98 rfl (lv_at hl 1 rfl) ?_
              refine sg_iald hx hb hK hM (sh4 kc_139) (kd_lt kc_139 (by decide)) (i := k) (by omega) (by decide) dX11_nearest_99 ?_
              refine sn_top (y := nI (sA w.1 (rN w.1) (rE w.1) (k + 1))) ((hq1 hd k hk).2.2) ?_
              have ej : j = 3 := by omega
              exact hret _ _ _ _ _ _ dX11_nearest_100 hM (⟨by subst ej; rw [F_near_in hk hN24 dq2 hd, swp_in 3 (Nat.le_of_ble_eq_true rfl) (Nat.le_of_ble_eq_true rfl)]; rfl, IRw.keep hI (fun k hk1 hk2 => hq2 k (Or.inl hk2)), fun k hk => hq2 k (Or.inl (by omega))⟩)
            · refine lv_aload_n hx hb dX11_nearest_86 rfl (lv_at hl 0 rfl) ?_
              refine lv_iload_n hx hb dX11_nearest_87 rfl (lv_at hl 1 rfl) ?_
              refine sg_ci (sg_runV (d := 2) (As := [.int (nI k)]) (rest := []) hx hb hml hts hown hK hM (m_pointOf l G b σ1 w.1 hR hA1 (rN w.1) (rE w.1) k hN24 hk (hq1 hd)) mi_X11_pointOf wl_X11_139 (sh18 kc_131) (kd_lt kc_131 (by decide)) rfl rfl rfl hl.1 rfl (Nat.le_of_ble_eq_true rfl) dX11_nearest_88 ⟨by decide, by decide⟩ ⟨Nat.le_refl 0, Nat.le_refl 0⟩) hM sgA (fun r_88 σ_88 H locs hp_88 hM => ?_)
              obtain ⟨hr_88, hs_88⟩ := hp_88; subst r_88; subst σ_88
              refine lv_goto (tgt := 100) hx hb dX11_nearest_91 (by decide) ?_
              have ej : j = 2 := by omega
              exact hret _ _ _ _ _ _ dX11_nearest_100 hM (⟨by subst ej; rw [F_near_in hk hN24 dq2 hd, swp_in 2 (Nat.le_of_ble_eq_true rfl) (Nat.le_of_ble_eq_true rfl)]; rfl, IRw.keep hI (fun k hk1 hk2 => hq2 k (Or.inl hk2)), fun k hk => hq2 k (Or.inl (by omega))⟩)
          · refine lv_aload_n hx hb dX11_nearest_72 rfl (lv_at hl 0 rfl) ?_
            refine sg_get (v := .ref (b + 138)) hx hb hts hown hK hM (sh18 kc_131) (kd_lt kc_131 (by decide)) rfl inX11 7 (by decide) wf_X11_29 rfl dX11_nearest_73 ?_
            refine lv_iload_n hx hb dX11_nearest_76 rfl (lv_at hl 1 rfl) ?_
            refine sg_iald hx hb hK hM (sh4 kc_138) (kd_lt kc_138 (by decide)) (i := k) (by omega) (by decide) dX11_nearest_77 ?_
            refine sn_top (y := nI (wA w.1 (rN w.1) (rE w.1) k)) ((hq1 hd k hk).2.1) ?_
            refine lv_goto (tgt := 100) hx hb dX11_nearest_78 (by decide) ?_
            have ej : j = 1 := by omega
            exact hret _ _ _ _ _ _ dX11_nearest_100 hM (⟨by subst ej; rw [F_near_in hk hN24 dq2 hd, swp_in 1 (Nat.le_of_ble_eq_true rfl) (Nat.le_of_ble_eq_true rfl)]; rfl, IRw.keep hI (fun k hk1 hk2 => hq2 k (Or.inl hk2)), fun k hk => hq2 k (Or.inl (by omega))⟩)
        · refine lv_aload_n hx hb dX11_nearest_58 rfl (lv_at hl 0 rfl) ?_
          refine sg_get (v := .ref (b + 137)) hx hb hts hown hK hM (sh18 kc_131) (kd_lt kc_131 (by decide)) rfl inX11 6 (by decide) wf_X11_26 rfl dX11_nearest_59 ?_
          refine lv_iload_n hx hb dX11_nearest_62 rfl (lv_at hl 1 rfl) ?_
          refine sg_iald hx hb hK hM (sh4 kc_137) (kd_lt kc_137 (by decide)) (i := k) (by omega) (by decide) dX11_nearest_63 ?_
          refine sn_top (y := nI (uA w.1 (rN w.1) (rE w.1) k)) ((hq1 hd k hk).1) ?_
          refine lv_goto (tgt := 100) hx hb dX11_nearest_64 (by decide) ?_
          have ej : j = 0 := by omega
          exact hret _ _ _ _ _ _ dX11_nearest_100 hM (⟨by subst ej; rw [F_near_in hk hN24 dq2 hd, swp_in 0 (Nat.le_of_ble_eq_true rfl) (Nat.le_of_ble_eq_true rfl)]; rfl, IRw.keep hI (fun k hk1 hk2 => hq2 k (Or.inl hk2)), fun k hk => hq2 k (Or.inl (by omega))⟩)
      · refine lv_iconst (v := (-1)) hx hb dX11_nearest_52 (by decide) ?_
        exact hret _ _ _ _ _ _ dX11_nearest_53 hM (⟨(F_near_n hk hN24 dq2 (by have : NV = 99999999 := rfl; omega)).symm, IRw.keep hI (fun k hk1 hk2 => hq2 k (Or.inl hk2)), fun k hk => hq2 k (Or.inl (by omega))⟩)
    · refine lv_ldc (v := (-1000000002)) hx hb hown (hts (Cond.constant RX11 84 ((-1000000002))) wk_X11_84) dX11_nearest_28 ?_
      exact hret _ _ _ _ _ _ dX11_nearest_30 hM (⟨(F_near_o hk hN24 dq2).symm, hI, fun _ _ => rfl⟩)
  · refine lv_ldc (v := (-1000000001)) hx hb hown (hts (Cond.constant RX11 127 ((-1000000001))) wk_X11_127) dX11_nearest_16 ?_
    exact hret _ _ _ _ _ _ dX11_nearest_18 hM (⟨by unfold F_nearest ixB; rw [dq1]; rfl, hI, fun _ _ => rfl⟩)
set_option maxHeartbeats 4000000 in
set_option maxRecDepth 100000 in
theorem y_ahead (l : Launch) (G : GT) (b : Nat) (σ : Mem) (w : World) (hI : IRw σ w) (x y : Int32) : KI l G b yX11_ahead cX11_ahead 3 5 σ [.ref (b + 131), .int x, .int y] (fun r σ' => r = F_ahead w.1 x y ∧ IRw σ' w ∧ ∀ k, k < 131 → σ' k = σ k) := by
  refine sg_metI [.ref (b + 131), .int x, .int y] (by decide) (Nat.le_of_ble_eq_true rfl) ?_
  intro vp ve vs vm args below meth vc ls Q hx hb hml hown hts hK hM hl hret
  have hl : lv_has ls 3 [(0, .ref (b + 131)), (1, .int x), (2, .int y)] := hl
  obtain ⟨hR, hA, hn, hP, hJ⟩ := id hI
  have hc := RCd.of hR hA
  have hS24 := hR.2.1.1
  have hN24 := hR.2.1.2
  have hm8 := p2_le hR.1.1.2
  refine lv_aload_n hx hb dX11_ahead_0 rfl (lv_at hl 0 rfl) ?_
  refine lv_iload_n hx hb dX11_ahead_1 rfl (lv_at hl 2 rfl) ?_
  refine sg_ci (sg_runV (d := 1) (As := [.int y]) (rest := []) hx hb hml hts hown hK hM (m_isState l G b σ (rM w.1) (rG w.1) (rH w.1) y hc) mi_X11_isState wl_X11_123 (sh18 kc_131) (kd_lt kc_131 (by decide)) rfl rfl rfl hl.1 rfl (Nat.le_of_ble_eq_true rfl) dX11_ahead_2 ⟨by decide, by decide⟩ ⟨Nat.le_refl 0, Nat.le_refl 0⟩) hM sgA (fun r_2 σ_2 H locs hp_2 hM => ?_)
  obtain ⟨hr_2, hs_2⟩ := hp_2; subst r_2; subst σ_2
  refine sn_ifz_ne (tgt := 11) hx hb dX11_ahead_5 (by decide) (fun dq1 => ?_) (fun dq1 => ?_)
  · refine lv_iload_n hx hb dX11_ahead_11 rfl (lv_at hl 1 rfl) ?_
    refine lv_iconst (v := nI 0) hx hb dX11_ahead_12 (by decide) ?_
    refine lv_aload_n hx hb dX11_ahead_13 rfl (lv_at hl 0 rfl) ?_
    refine sg_get (v := .ref (b + 132)) hx hb hts hown hK hM (sh18 kc_131) (kd_lt kc_131 (by decide)) rfl inX11 0 (by decide) wf_X11_7 rfl dX11_ahead_14 ?_
    refine lv_iconst (v := nI 5) hx hb dX11_ahead_17 (by decide) ?_
    refine sg_iald hx hb hK hM (sh19 kc_132) (kd_lt kc_132 (by decide)) (i := 5) (by omega) (by decide) dX11_ahead_18 ?_
    refine sn_top (y := nI (rN w.1)) (hA.1.2.2.2.2.2) ?_
    refine sg_ci (sg_runS (d := 0) (As := [.int x, .int (nI 0), .int (nI (rN w.1))]) (rest := []) hx hb hml hts hown hK hM (m_in l G b σ x (nI 0) (nI (rN w.1))) mi_X11_in wl_X11_69 rfl hl.1 rfl (Nat.le_of_ble_eq_true rfl) dX11_ahead_19 ⟨by decide, by decide⟩ ⟨Nat.le_refl 0, Nat.le_refl 0⟩) hM sgA (fun r_19 σ_19 H locs hp_19 hM => ?_)
    obtain ⟨hr_19, hs_19⟩ := hp_19; subst r_19; subst σ_19
    refine sn_ifz_ne (tgt := 28) hx hb dX11_ahead_22 (by decide) (fun dq2 => ?_) (fun dq2 => ?_)
    · obtain ⟨k, hk, rfl⟩ := inR_nat (by omega) dq2
      have hl : lv_has ls 3 [(0, .ref (b + 131)), (1, .int (nI k)), (2, .int y)] := hl
      refine lv_aload_n hx hb dX11_ahead_28 rfl (lv_at hl 0 rfl) ?_
      refine lv_iload_n hx hb dX11_ahead_29 rfl (lv_at hl 1 rfl) ?_
      refine lv_iload_n hx hb dX11_ahead_30 rfl (lv_at hl 2 rfl) ?_
      refine sg_ci (sg_runV (d := 4) (As := [.int (nI k), .int y]) (rest := []) hx hb hml hts hown hK hM (m_finds l G b σ w.1 hR hA k y hk) mi_X11_finds wl_X11_136 (sh18 kc_131) (kd_lt kc_131 (by decide)) rfl rfl rfl hl.1 rfl (Nat.le_of_ble_eq_true rfl) dX11_ahead_31 ⟨by decide, by decide⟩ ⟨Nat.le_refl 0, Nat.le_refl 0⟩) hM sgA (fun r1 σ1 H locs hq hM => ?_)
      obtain ⟨hr1, hq1, hq2⟩ := hq
      have hr1 : r1 = nI (dA w.1 k y k 0) := hr1
      subst hr1
      have hA1 : RecF (σ1 132) w.1 := by rw [hq2 132 (by omega)]; exact hA
      exact hret _ _ _ _ _ _ dX11_ahead_34 hM (⟨(F_ahead_in dq1 hk hN24).symm, IRw.keep hI (fun k hk1 hk2 => hq2 k (Or.inl hk2)), fun k hk => hq2 k (Or.inl (by omega))⟩)
    · refine lv_ldc (v := (-1000000002)) hx hb hown (hts (Cond.constant RX11 84 ((-1000000002))) wk_X11_84) dX11_ahead_25 ?_
      exact hret _ _ _ _ _ _ dX11_ahead_27 hM (⟨(F_ahead_o dq1 dq2).symm, hI, fun _ _ => rfl⟩)
  · refine lv_ldc (v := (-1000000001)) hx hb hown (hts (Cond.constant RX11 127 ((-1000000001))) wk_X11_127) dX11_ahead_8 ?_
    exact hret _ _ _ _ _ _ dX11_ahead_10 hM (⟨by unfold F_ahead; rw [dq1]; rfl, hI, fun _ _ => rfl⟩)
set_option maxHeartbeats 4000000 in
set_option maxRecDepth 100000 in
theorem y_decided (l : Launch) (G : GT) (b : Nat) (σ : Mem) (w : World) (hI : IRw σ w) (x y : Int32) : KI l G b yX11_decided cX11_decided 3 5 σ [.ref (b + 131), .int x, .int y] (fun r σ' => r = F_decided w.1 x y ∧ IRw σ' w ∧ ∀ k, k < 131 → σ' k = σ k) := by
  refine sg_metI [.ref (b + 131), .int x, .int y] (by decide) (Nat.le_of_ble_eq_true rfl) ?_
  intro vp ve vs vm args below meth vc ls Q hx hb hml hown hts hK hM hl hret
  have hl : lv_has ls 3 [(0, .ref (b + 131)), (1, .int x), (2, .int y)] := hl
  obtain ⟨hR, hA, hn, hP, hJ⟩ := id hI
  have hc := RCd.of hR hA
  have hS24 := hR.2.1.1
  have hN24 := hR.2.1.2
  have hm8 := p2_le hR.1.1.2
  refine lv_iload_n hx hb dX11_decided_0 rfl (lv_at hl 1 rfl) ?_
  refine lv_iconst (v := nI 0) hx hb dX11_decided_1 (by decide) ?_
  refine lv_aload_n hx hb dX11_decided_2 rfl (lv_at hl 0 rfl) ?_
  refine sg_get (v := .ref (b + 132)) hx hb hts hown hK hM (sh18 kc_131) (kd_lt kc_131 (by decide)) rfl inX11 0 (by decide) wf_X11_7 rfl dX11_decided_3 ?_
  refine lv_iconst (v := nI 5) hx hb dX11_decided_6 (by decide) ?_
  refine sg_iald hx hb hK hM (sh19 kc_132) (kd_lt kc_132 (by decide)) (i := 5) (by omega) (by decide) dX11_decided_7 ?_
  refine sn_top (y := nI (rN w.1)) (hA.1.2.2.2.2.2) ?_
  refine lv_iconst (v := nI 1) hx hb dX11_decided_8 (by decide) ?_
  refine lv_isub hx hb dX11_decided_9 ?_
  refine sg_ci (sg_runS (d := 0) (As := [.int x, .int (nI 0), .int ((nI (rN w.1)) - (nI 1))]) (rest := []) hx hb hml hts hown hK hM (m_in l G b σ x (nI 0) ((nI (rN w.1)) - (nI 1))) mi_X11_in wl_X11_69 rfl hl.1 rfl (Nat.le_of_ble_eq_true rfl) dX11_decided_10 ⟨by decide, by decide⟩ ⟨Nat.le_refl 0, Nat.le_refl 0⟩) hM sgA (fun r_10 σ_10 H locs hp_10 hM => ?_)
  obtain ⟨hr_10, hs_10⟩ := hp_10; subst r_10; subst σ_10
  refine sn_ifz_ne (tgt := 19) hx hb dX11_decided_13 (by decide) (fun dq1 => ?_) (fun dq1 => ?_)
  · obtain ⟨k, hk, rfl⟩ := ixB_t (by omega) dq1
    have hl : lv_has ls 3 [(0, .ref (b + 131)), (1, .int (nI k)), (2, .int y)] := hl
    refine lv_iload_n hx hb dX11_decided_19 rfl (lv_at hl 2 rfl) ?_
    refine lv_iconst (v := nI 0) hx hb dX11_decided_20 (by decide) ?_
    refine lv_bipush (v := nI 23) hx hb dX11_decided_21 (by decide) ?_
    refine sg_ci (sg_runS (d := 0) (As := [.int y, .int (nI 0), .int (nI 23)]) (rest := []) hx hb hml hts hown hK hM (m_in l G b σ y (nI 0) (nI 23)) mi_X11_in wl_X11_69 rfl hl.1 rfl (Nat.le_of_ble_eq_true rfl) dX11_decided_23 ⟨by decide, by decide⟩ ⟨Nat.le_refl 0, Nat.le_refl 0⟩) hM sgA (fun r_23 σ_23 H locs hp_23 hM => ?_)
    obtain ⟨hr_23, hs_23⟩ := hp_23; subst r_23; subst σ_23
    refine sn_ifz_ne (tgt := 32) hx hb dX11_decided_26 (by decide) (fun dq2 => ?_) (fun dq2 => ?_)
    · obtain ⟨t, ht, rfl⟩ := inR_nat (by decide) dq2
      have hl : lv_has ls 3 [(0, .ref (b + 131)), (1, .int (nI k)), (2, .int (nI t))] := hl
      refine lv_iload_n hx hb dX11_decided_32 rfl (lv_at hl 1 rfl) ?_
      refine lv_iload_n hx hb dX11_decided_33 rfl (lv_at hl 2 rfl) ?_
      refine sn_iadd hx hb dX11_decided_34 ?_
      refine lv_iconst (v := nI 1) hx hb dX11_decided_35 (by decide) ?_
      refine sn_iadd hx hb dX11_decided_36 ?_
      refine lv_aload_n hx hb dX11_decided_37 rfl (lv_at hl 0 rfl) ?_
      refine sg_get (v := .ref (b + 132)) hx hb hts hown hK hM (sh18 kc_131) (kd_lt kc_131 (by decide)) rfl inX11 0 (by decide) wf_X11_7 rfl dX11_decided_38 ?_
      refine lv_iconst (v := nI 5) hx hb dX11_decided_41 (by decide) ?_
      refine sg_iald hx hb hK hM (sh19 kc_132) (kd_lt kc_132 (by decide)) (i := 5) (by omega) (by decide) dX11_decided_42 ?_
      refine sn_top (y := nI (rN w.1)) (hA.1.2.2.2.2.2) ?_
      refine sn_icmp_le (tgt := 48) hx hb dX11_decided_43 (by decide) (by omega) (by omega) (fun dq3 => ?_) (fun dq3 => ?_)
      · refine lv_aload_n hx hb dX11_decided_48 rfl (lv_at hl 0 rfl) ?_
        refine lv_iload_n hx hb dX11_decided_49 rfl (lv_at hl 1 rfl) ?_
        refine lv_iload_n hx hb dX11_decided_50 rfl (lv_at hl 2 rfl) ?_
        refine sn_iadd hx hb dX11_decided_51 ?_
        refine lv_iconst (v := nI 1) hx hb dX11_decided_52 (by decide) ?_
        refine sn_iadd hx hb dX11_decided_53 ?_
        refine lv_iconst (v := (-1)) hx hb dX11_decided_54 (by decide) ?_
        refine sg_ci (sg_runV (d := 4) (As := [.int (nI ((k + t) + 1)), .int (-1)]) (rest := []) hx hb hml hts hown hK hM (m_finds l G b σ w.1 hR hA (k + t + 1) (-1) dq3) mi_X11_finds wl_X11_136 (sh18 kc_131) (kd_lt kc_131 (by decide)) rfl rfl rfl hl.1 rfl (Nat.le_of_ble_eq_true rfl) dX11_decided_55 ⟨by decide, by decide⟩ ⟨Nat.le_refl 0, Nat.le_refl 0⟩) hM sgA (fun r1 σ1 H locs hq hM => ?_)
        obtain ⟨hr1, hq1, hq2⟩ := hq
        have hr1 : r1 = nI (dA w.1 (k + t + 1) (-1) (k + t + 1) 0) := hr1
        subst hr1
        have hA1 : RecF (σ1 132) w.1 := by rw [hq2 132 (by omega)]; exact hA
        refine lv_pop hx hb dX11_decided_58 rfl ?_
        refine lv_aload_n hx hb dX11_decided_59 rfl (lv_at hl 0 rfl) ?_
        refine lv_iload_n hx hb dX11_decided_60 rfl (lv_at hl 1 rfl) ?_
        refine sg_ci (sg_runV (d := 2) (As := [.int (nI k)]) (rest := []) hx hb hml hts hown hK hM (m_pointOf l G b σ1 w.1 hR hA1 (k + t + 1) (-1) k (by omega) (by omega) (hq1 (dA_none hR dq3))) mi_X11_pointOf wl_X11_139 (sh18 kc_131) (kd_lt kc_131 (by decide)) rfl rfl rfl hl.1 rfl (Nat.le_of_ble_eq_true rfl) dX11_decided_61 ⟨by decide, by decide⟩ ⟨Nat.le_refl 0, Nat.le_refl 0⟩) hM sgA (fun r_61 σ_61 H locs hp_61 hM => ?_)
        obtain ⟨hr_61, hs_61⟩ := hp_61; subst r_61; subst σ_61
        exact hret _ _ _ _ _ _ dX11_decided_64 hM (⟨by rw [F_dec_in hk ht hN24, if_pos dq3], IRw.keep hI (fun k hk1 hk2 => hq2 k (Or.inl hk2)), fun k hk => hq2 k (Or.inl (by omega))⟩)
      · refine lv_iconst (v := (-1)) hx hb dX11_decided_46 (by decide) ?_
        exact hret _ _ _ _ _ _ dX11_decided_47 hM (⟨by rw [F_dec_in hk ht hN24, if_neg (by omega)], hI, fun _ _ => rfl⟩)
    · refine lv_ldc (v := (-1000000002)) hx hb hown (hts (Cond.constant RX11 84 ((-1000000002))) wk_X11_84) dX11_decided_29 ?_
      exact hret _ _ _ _ _ _ dX11_decided_31 hM (⟨(F_dec_o hk hN24 dq2).symm, hI, fun _ _ => rfl⟩)
  · refine lv_ldc (v := (-1000000001)) hx hb hown (hts (Cond.constant RX11 127 ((-1000000001))) wk_X11_127) dX11_decided_16 ?_
    exact hret _ _ _ _ _ _ dX11_decided_18 hM (⟨by unfold F_decided ixB; rw [dq1]; rfl, hI, fun _ _ => rfl⟩)
set_option maxHeartbeats 4000000 in
set_option maxRecDepth 100000 in
theorem y_cost (l : Launch) (G : GT) (b : Nat) (σ : Mem) (w : World) (hI : IRw σ w)  : KI l G b yX11_cost cX11_cost 3 3 σ [.ref (b + 131)] (fun r σ' => r = F_cost w.1 ∧ IRw σ' w ∧ ∀ k, k < 131 → σ' k = σ k) := by
  refine sg_metI [.ref (b + 131)] (by decide) (Nat.le_of_ble_eq_true rfl) ?_
  intro vp ve vs vm args below meth vc ls Q hx hb hml hown hts hK hM hl hret
  have hl : lv_has ls 3 [(0, .ref (b + 131))] := hl
  obtain ⟨hR, hA, hn, hP, hJ⟩ := id hI
  have hc := RCd.of hR hA
  have hS24 := hR.2.1.1
  have hN24 := hR.2.1.2
  have hm8 := p2_le hR.1.1.2
  refine lv_iconst (v := nI 0) hx hb dX11_cost_0 (by decide) ?_
  refine lv_istore_n (lv' := [(1, .int (nI 0)), (0, .ref (b + 131))]) hx hb dX11_cost_1 rfl hl (by decide) rfl (fun ls hl => ?_)
  refine lv_iconst (v := nI 0) hx hb dX11_cost_2 (by decide) ?_
  refine lv_istore_n (lv' := [(2, .int (nI 0)), (1, .int (nI 0)), (0, .ref (b + 131))]) hx hb dX11_cost_3 rfl hl (by decide) rfl (fun ls hl => ?_)
  have L4 : ∀ (fuel : Nat) (k : Nat) (c1 : Int32), (k ≤ rN w.1 ∧ k ≤ rS w.1) → (c1 = csN w.1 k) → (25 - k) < fuel → ∀ (H : Heap) (locs : List Loc) (ls : Array Slot), St G (Fr b) b σ vs H locs → lv_has ls 3 [(0, .ref (b + 131)), (1, .int c1), (2, .int (nI k))] → W vp l ve (RM 3) vs vm args below meth vc H locs 0 0 Q (F0 vm 4 ls []) := by
    intro fuel
    induction fuel with
    | zero => intro k c1 hk hc1 hF; exact absurd hF (Nat.not_lt_zero _)
    | succ fuel ih4 =>
      intro k c1 hk hc1 hF H locs ls hM hl
      refine lv_iload_n hx hb dX11_cost_4 rfl (lv_at hl 2 rfl) ?_
      refine lv_aload_n hx hb dX11_cost_5 rfl (lv_at hl 0 rfl) ?_
      refine sg_get (v := .ref (b + 132)) hx hb hts hown hK hM (sh18 kc_131) (kd_lt kc_131 (by decide)) rfl inX11 0 (by decide) wf_X11_7 rfl dX11_cost_6 ?_
      refine lv_iconst (v := nI 5) hx hb dX11_cost_9 (by decide) ?_
      refine sg_iald hx hb hK hM (sh19 kc_132) (kd_lt kc_132 (by decide)) (i := 5) (by omega) (by decide) dX11_cost_10 ?_
      refine sn_top (y := nI (rN w.1)) (hA.1.2.2.2.2.2) ?_
      refine sn_icmp_ge (tgt := 43) hx hb dX11_cost_11 (by decide) (by omega) (by omega) (fun dq2 => ?_) (fun dq2 => ?_)
      · refine lv_iload_n hx hb dX11_cost_43 rfl (lv_at hl 1 rfl) ?_
        exact hret _ _ _ _ _ _ dX11_cost_44 hM (⟨by rw [hc1]; unfold F_cost; rw [show k = min (rS w.1) (rN w.1) by omega], hI, fun _ _ => rfl⟩)
      · refine lv_iload_n hx hb dX11_cost_14 rfl (lv_at hl 2 rfl) ?_
        refine lv_aload_n hx hb dX11_cost_15 rfl (lv_at hl 0 rfl) ?_
        refine sg_get (v := .ref (b + 132)) hx hb hts hown hK hM (sh18 kc_131) (kd_lt kc_131 (by decide)) rfl inX11 0 (by decide) wf_X11_7 rfl dX11_cost_16 ?_
        refine lv_iconst (v := nI 4) hx hb dX11_cost_19 (by decide) ?_
        refine sg_iald hx hb hK hM (sh19 kc_132) (kd_lt kc_132 (by decide)) (i := 4) (by omega) (by decide) dX11_cost_20 ?_
        refine sn_top (y := nI (rS w.1)) (hA.1.2.2.2.2.1) ?_
        refine sn_icmp_ge (tgt := 43) hx hb dX11_cost_21 (by decide) (by omega) (by omega) (fun dq3 => ?_) (fun dq3 => ?_)
        · refine lv_iload_n hx hb dX11_cost_43 rfl (lv_at hl 1 rfl) ?_
          exact hret _ _ _ _ _ _ dX11_cost_44 hM (⟨by rw [hc1]; unfold F_cost; rw [show k = min (rS w.1) (rN w.1) by omega], hI, fun _ _ => rfl⟩)
        · have hp16 : ptS w.1 k < 16 := pt_lt (fam_lt _ _ _ _ _) (hR.2.2.1 k dq3).2
          refine lv_iload_n hx hb dX11_cost_24 rfl (lv_at hl 1 rfl) ?_
          refine lv_aload_n hx hb dX11_cost_25 rfl (lv_at hl 0 rfl) ?_
          refine lv_iload_n hx hb dX11_cost_26 rfl (lv_at hl 2 rfl) ?_
          refine lv_aload_n hx hb dX11_cost_27 rfl (lv_at hl 0 rfl) ?_
          refine lv_iload_n hx hb dX11_cost_28 rfl (lv_at hl 2 rfl) ?_
          refine sg_ci (sg_runV (d := 2) (As := [.int (nI k)]) (rest := [.int (nI k), .ref (b + 131), .int c1]) hx hb hml hts hown hK hM (m_pointSent l G b σ w.1 hR hA k dq3) mi_X11_pointSent wl_X11_102 (sh18 kc_131) (kd_lt kc_131 (by decide)) rfl rfl rfl hl.1 rfl (Nat.le_of_ble_eq_true rfl) dX11_cost_29 ⟨by decide, by decide⟩ ⟨Nat.le_refl 0, Nat.le_refl 0⟩) hM sgA (fun r_29 σ_29 H locs hp_29 hM => ?_)
          obtain ⟨hr_29, hs_29⟩ := hp_29; subst r_29; subst σ_29
          refine sg_ci (sg_runV (d := 2) (As := [.int (nI k), .int (nI (ptS w.1 k))]) (rest := [.int c1]) hx hb hml hts hown hK hM (m_costAt l G b σ w.1 hR hA k (ptS w.1 k) dq2 hp16) mi_X11_costAt wl_X11_129 (sh18 kc_131) (kd_lt kc_131 (by decide)) rfl rfl rfl hl.1 rfl (Nat.le_of_ble_eq_true rfl) dX11_cost_32 ⟨by decide, by decide⟩ ⟨Nat.le_refl 0, Nat.le_refl 0⟩) hM sgA (fun r_32 σ_32 H locs hp_32 hM => ?_)
          obtain ⟨hr_32, hs_32⟩ := hp_32; subst r_32; subst σ_32
          refine lv_iadd hx hb dX11_cost_35 ?_
          refine lv_istore_n (lv' := [(1, .int (c1 + (nI (dN (ptS w.1 k) (rX w.1 k) (rY w.1 k))))), (0, .ref (b + 131)), (2, .int (nI k))]) hx hb dX11_cost_36 rfl hl (by decide) rfl (fun ls hl => ?_)
          refine lv_iinc (v := nI (k + 1)) (lv' := [(2, .int (nI (k + 1))), (1, .int (c1 + (nI (dN (ptS w.1 k) (rX w.1 k) (rY w.1 k))))), (0, .ref (b + 131))]) hx hb dX11_cost_37 hl (k := 2) rfl (q_inc _) (by decide) rfl (fun ls hl => ?_)
          refine lv_goto (tgt := 4) hx hb dX11_cost_40 (by decide) ?_
          exact ih4 (k + 1) (c1 + (nI (dN (ptS w.1 k) (rX w.1 k) (rY w.1 k)))) (by omega) (by rw [hc1]; show _ = csN w.1 k + far _ _ _; rw [(far_dN (hR.2.2.2.1 k dq2) hp16).1]) (by omega) _ _ _ hM (lv_sub hl [2, 1, 0] rfl)
  exact L4 (_ + 1) 0 (nI 0) (⟨Nat.zero_le _, Nat.zero_le _⟩) rfl (Nat.lt_succ_self _) _ _ _ hM (lv_sub hl [2, 1, 0] rfl)
set_option maxHeartbeats 4000000 in
set_option maxRecDepth 100000 in
theorem y_sign (l : Launch) (G : GT) (b : Nat) (σ : Mem) (w : World) (hI : IRw σ w) (x : Int32) : KI l G b yX11_sign cX11_sign 3 6 σ [.ref (b + 131), .int x] (fun r σ' => r = F_sign w.1 x ∧ IRw σ' w ∧ ∀ k, k < 131 → σ' k = σ k) := by
  refine sg_metI [.ref (b + 131), .int x] (by decide) (Nat.le_of_ble_eq_true rfl) ?_
  intro vp ve vs vm args below meth vc ls Q hx hb hml hown hts hK hM hl hret
  have hl : lv_has ls 3 [(0, .ref (b + 131)), (1, .int x)] := hl
  obtain ⟨hR, hA, hn, hP, hJ⟩ := id hI
  have hc := RCd.of hR hA
  have hS24 := hR.2.1.1
  have hN24 := hR.2.1.2
  have hm8 := p2_le hR.1.1.2
  refine lv_iload_n hx hb dX11_sign_0 rfl (lv_at hl 1 rfl) ?_
  refine lv_if_ge (tgt := 7) hx hb dX11_sign_1 (by decide) (fun dq1 => ?_) (fun dq1 => ?_)
  · obtain ⟨i, hi, rfl⟩ := nI_of (Int32.not_lt.mpr dq1)
    have hsg := sg_lt hR
    have hl : lv_has ls 3 [(0, .ref (b + 131)), (1, .int (nI i))] := hl
    refine lv_iload_n hx hb dX11_sign_7 rfl (lv_at hl 1 rfl) ?_
    refine lv_aload_n hx hb dX11_sign_8 rfl (lv_at hl 0 rfl) ?_
    refine sg_ci (sg_runV (d := 5) (As := []) (rest := [.int (nI i)]) hx hb hml hts hown hK hM (m_signs l G b σ w.1 hR hA) mi_X11_signs wl_X11_161 (sh18 kc_131) (kd_lt kc_131 (by decide)) rfl rfl rfl hl.1 rfl (Nat.le_of_ble_eq_true rfl) dX11_sign_9 ⟨by decide, by decide⟩ ⟨Nat.le_refl 0, Nat.le_refl 0⟩) hM sgA (fun r1 σ1 H locs hq hM => ?_)
    obtain ⟨hr1, hq1, hq2⟩ := hq
    subst hr1
    have hA1 : RecF (σ1 132) w.1 := by rw [hq2 132 (by omega)]; exact hA
    refine sn_icmp_lt (tgt := 17) hx hb dX11_sign_12 (by decide) (by omega) (by omega) (fun dq2 => ?_) (fun dq2 => ?_)
    · refine lv_iconst (v := nI 4) hx hb dX11_sign_17 (by decide) ?_
      refine lv_iload_n hx hb dX11_sign_18 rfl (lv_at hl 1 rfl) ?_
      refine lv_bipush (v := nI 9) hx hb dX11_sign_19 (by decide) ?_
      refine sn_idiv hx hb dX11_sign_21 (by omega) (by omega) (by omega) ?_
      refine sn_imul hx hb dX11_sign_22 ?_
      refine lv_iload_n hx hb dX11_sign_23 rfl (lv_at hl 1 rfl) ?_
      refine lv_bipush (v := nI 9) hx hb dX11_sign_24 (by decide) ?_
      refine sn_irem hx hb dX11_sign_26 (by omega) (by omega) (by omega) ?_
      refine lv_iconst (v := nI 2) hx hb dX11_sign_27 (by decide) ?_
      refine sn_idiv hx hb dX11_sign_28 (by omega) (by omega) (by omega) ?_
      refine sn_iadd hx hb dX11_sign_29 ?_
      refine sn_top (y := nI (i / 9 * 4 + i % 9 / 2)) (by rw [Nat.mul_comm]) ?_
      refine lv_istore_n (lv' := [(2, .int (nI (i / 9 * 4 + i % 9 / 2))), (0, .ref (b + 131)), (1, .int (nI i))]) hx hb dX11_sign_30 rfl hl (by decide) rfl (fun ls hl => ?_)
      refine lv_iload_n hx hb dX11_sign_31 rfl (lv_at hl 2 rfl) ?_
      refine lv_bipush (v := nI 9) hx hb dX11_sign_32 (by decide) ?_
      refine sn_irem hx hb dX11_sign_34 (by omega) (by omega) (by omega) ?_
      refine lv_bipush (v := nI 8) hx hb dX11_sign_35 (by decide) ?_
      refine sn_icmp_ne (tgt := 45) hx hb dX11_sign_37 (by decide) (by omega) (by omega) (fun dq3 => ?_) (fun dq3 => ?_)
      · have hg := sg_in hR dq2 dq3
        refine lv_iload_n hx hb dX11_sign_45 rfl (lv_at hl 2 rfl) ?_
        refine lv_bipush (v := nI 9) hx hb dX11_sign_46 (by decide) ?_
        refine sn_irem hx hb dX11_sign_48 (by omega) (by omega) (by omega) ?_
        refine lv_iconst (v := nI 2) hx hb dX11_sign_49 (by decide) ?_
        refine sn_irem hx hb dX11_sign_50 (by omega) (by omega) (by omega) ?_
        refine sn_if_ne (tgt := 68) hx hb dX11_sign_51 (by decide) (by omega) (fun dq4 => ?_) (fun dq4 => ?_)
        · refine lv_bipush (v := nI 48) hx hb dX11_sign_68 (by decide) ?_
          refine lv_aload_n hx hb dX11_sign_70 rfl (lv_at hl 1 rfl) ?_
          refine sg_get (v := .ref (b + 138)) hx hb hts hown hK hM (sh18 kc_131) (kd_lt kc_131 (by decide)) rfl inX11 7 (by decide) wf_X11_29 rfl dX11_sign_71 ?_
          refine lv_iload_n hx hb dX11_sign_74 rfl (lv_at hl 0 rfl) ?_
          refine sg_iald hx hb hK hM (sh4 kc_138) (kd_lt kc_138 (by decide)) (i := i / 9 * 4 + i % 9 / 2) (by omega) (by decide) dX11_sign_75 ?_
          refine sn_top (y := nI (wA w.1 (rN w.1) (rE w.1) (i / 9 * 4 + i % 9 / 2))) ((hq1 hg.1 _ hg.2).2.1) ?_
          refine sn_iadd hx hb dX11_sign_76 ?_
          exact hret _ _ _ _ _ _ dX11_sign_77 hM (⟨by rw [F_sign_in hi, if_neg (by omega)]; unfold sgV; rw [if_neg dq3, if_neg dq4], IRw.keep hI (fun k hk1 hk2 => hq2 k (Or.inl hk2)), fun k hk => hq2 k (Or.inl (by omega))⟩)
        · refine lv_bipush (v := nI 65) hx hb dX11_sign_54 (by decide) ?_
          refine lv_aload_n hx hb dX11_sign_56 rfl (lv_at hl 1 rfl) ?_
          refine lv_iload_n hx hb dX11_sign_57 rfl (lv_at hl 0 rfl) ?_
          refine sg_ci (sg_runV (d := 2) (As := [.int (nI (i / 9 * 4 + i % 9 / 2))]) (rest := [.int (nI 65)]) hx hb hml hts hown hK hM (m_pointOf l G b σ1 w.1 hR hA1 (rN w.1) (rE w.1) (i / 9 * 4 + i % 9 / 2) hN24 hg.2 (hq1 hg.1)) mi_X11_pointOf wl_X11_139 (sh18 kc_131) (kd_lt kc_131 (by decide)) rfl rfl rfl hl.1 rfl (Nat.le_of_ble_eq_true rfl) dX11_sign_58 ⟨by decide, by decide⟩ ⟨Nat.le_refl 0, Nat.le_refl 0⟩) hM sgA (fun r_58 σ_58 H locs hp_58 hM => ?_)
          obtain ⟨hr_58, hs_58⟩ := hp_58; subst r_58; subst σ_58
          refine sg_ci (sg_runS (d := 0) (As := [.int (nI (pA w.1 (rN w.1) (rE w.1) (i / 9 * 4 + i % 9 / 2)))]) (rest := [.int (nI 65)]) hx hb hml hts hown hK hM (c_m_familyOf l G b σ1 (pA w.1 (rN w.1) (rE w.1) (i / 9 * 4 + i % 9 / 2)) (pt_lt (fam_lt _ _ _ _ _) (cw_lt _ _ _))) mi_X11_familyOf wl_X11_47 rfl hl.1 rfl (Nat.le_of_ble_eq_true rfl) dX11_sign_61 ⟨by decide, by decide⟩ ⟨Nat.le_refl 0, Nat.le_refl 0⟩) hM sgA (fun r_61 σ_61 H locs hp_61 hM => ?_)
          obtain ⟨hr_61, hs_61⟩ := hp_61; subst r_61; subst σ_61
          refine sn_iadd hx hb dX11_sign_64 ?_
          refine lv_goto (tgt := 77) hx hb dX11_sign_65 (by decide) ?_
          exact hret _ _ _ _ _ _ dX11_sign_77 hM (⟨by rw [F_sign_in hi, if_neg (by omega)]; unfold sgV; rw [if_neg dq3, if_pos dq4], IRw.keep hI (fun k hk1 hk2 => hq2 k (Or.inl hk2)), fun k hk => hq2 k (Or.inl (by omega))⟩)
      · refine lv_bipush (v := nI 45) hx hb dX11_sign_40 (by decide) ?_
        refine lv_goto (tgt := 77) hx hb dX11_sign_42 (by decide) ?_
        exact hret _ _ _ _ _ _ dX11_sign_77 hM (⟨by rw [F_sign_in hi, if_neg (by omega)]; unfold sgV; rw [if_pos dq3], IRw.keep hI (fun k hk1 hk2 => hq2 k (Or.inl hk2)), fun k hk => hq2 k (Or.inl (by omega))⟩)
    · refine lv_iconst (v := (-1)) hx hb dX11_sign_15 (by decide) ?_
      exact hret _ _ _ _ _ _ dX11_sign_16 hM (⟨by rw [F_sign_in hi, if_pos dq2], IRw.keep hI (fun k hk1 hk2 => hq2 k (Or.inl hk2)), fun k hk => hq2 k (Or.inl (by omega))⟩)
  · refine lv_ldc (v := (-1000000002)) hx hb hown (hts (Cond.constant RX11 84 ((-1000000002))) wk_X11_84) dX11_sign_4 ?_
    exact hret _ _ _ _ _ _ dX11_sign_6 hM (⟨by unfold F_sign; rw [if_pos (Int32.not_le.mp dq1)], hI, fun _ _ => rfl⟩)
set_option maxHeartbeats 4000000 in
set_option maxRecDepth 100000 in
theorem y_told (l : Launch) (G : GT) (b : Nat) (σ : Mem) (w : World) (hI : IRw σ w) (what : Int32) : KI l G b yX11_told cX11_told 2 6 σ [.ref (b + 131), .int what] (fun r σ' => r = F_told w.1 w.2.1 what ∧ IRw σ' w ∧ ∀ k, k < 131 → σ' k = σ k) := by
  refine sg_metI [.ref (b + 131), .int what] (by decide) (Nat.le_of_ble_eq_true rfl) ?_
  intro vp ve vs vm args below meth vc ls Q hx hb hml hown hts hK hM hl hret
  have hl : lv_has ls 2 [(0, .ref (b + 131)), (1, .int what)] := hl
  obtain ⟨hR, hA, hn, hP, hJ⟩ := id hI
  have hc := RCd.of hR hA
  have hS24 := hR.2.1.1
  have hN24 := hR.2.1.2
  have hm8 := p2_le hR.1.1.2
  refine lv_iload_n hx hb dX11_told_0 rfl (lv_at hl 1 rfl) ?_
  rcases swc what 13 with c_1 | ⟨j, hj, c_1⟩
  · refine lv_tableOut (tgt := 166) hx hb dX11_told_1 c_1 (by decide) ?_
    refine lv_ldc (v := (-1000000002)) hx hb hown (hts (Cond.constant RX11 84 ((-1000000002))) wk_X11_84) dX11_told_166 ?_
    exact hret _ _ _ _ _ _ dX11_told_168 hM (⟨by unfold F_told; rw [swp_out c_1 rfl], hI, fun _ _ => rfl⟩)
  · match j, hj with
    | 0, _ =>
      subst c_1
      refine lv_tableIn (tgt := 72) (off := 71) hx hb dX11_told_1 (by decide) (by decide) (by decide) (by decide) ?_
      have hl : lv_has ls 2 [(0, .ref (b + 131)), (1, .int (nI 0))] := hl
      refine lv_aload_n hx hb dX11_told_72 rfl (lv_at hl 0 rfl) ?_
      refine sg_get (v := .ref (b + 132)) hx hb hts hown hK hM (sh18 kc_131) (kd_lt kc_131 (by decide)) rfl inX11 0 (by decide) wf_X11_7 rfl dX11_told_73 ?_
      refine lv_iload_n hx hb dX11_told_76 rfl (lv_at hl 1 rfl) ?_
      refine sg_iald hx hb hK hM (sh19 kc_132) (kd_lt kc_132 (by decide)) (i := 0) (by decide) (by decide) dX11_told_77 ?_
      refine sn_top (y := nI (rM w.1)) (hc.1) ?_
      exact hret _ _ _ _ _ _ dX11_told_78 hM (⟨by unfold F_told; rw [swp_in 0 (Nat.le_of_ble_eq_true rfl) (Nat.le_of_ble_eq_true rfl)]; rfl, hI, fun _ _ => rfl⟩)
    | 1, _ =>
      subst c_1
      refine lv_tableIn (tgt := 72) (off := 71) hx hb dX11_told_1 (by decide) (by decide) (by decide) (by decide) ?_
      have hl : lv_has ls 2 [(0, .ref (b + 131)), (1, .int (nI 1))] := hl
      refine lv_aload_n hx hb dX11_told_72 rfl (lv_at hl 0 rfl) ?_
      refine sg_get (v := .ref (b + 132)) hx hb hts hown hK hM (sh18 kc_131) (kd_lt kc_131 (by decide)) rfl inX11 0 (by decide) wf_X11_7 rfl dX11_told_73 ?_
      refine lv_iload_n hx hb dX11_told_76 rfl (lv_at hl 1 rfl) ?_
      refine sg_iald hx hb hK hM (sh19 kc_132) (kd_lt kc_132 (by decide)) (i := 1) (by decide) (by decide) dX11_told_77 ?_
      refine sn_top (y := nI (rG w.1)) (hc.2.1) ?_
      exact hret _ _ _ _ _ _ dX11_told_78 hM (⟨by unfold F_told; rw [swp_in 1 (Nat.le_of_ble_eq_true rfl) (Nat.le_of_ble_eq_true rfl)]; rfl, hI, fun _ _ => rfl⟩)
    | 2, _ =>
      subst c_1
      refine lv_tableIn (tgt := 72) (off := 71) hx hb dX11_told_1 (by decide) (by decide) (by decide) (by decide) ?_
      have hl : lv_has ls 2 [(0, .ref (b + 131)), (1, .int (nI 2))] := hl
      refine lv_aload_n hx hb dX11_told_72 rfl (lv_at hl 0 rfl) ?_
      refine sg_get (v := .ref (b + 132)) hx hb hts hown hK hM (sh18 kc_131) (kd_lt kc_131 (by decide)) rfl inX11 0 (by decide) wf_X11_7 rfl dX11_told_73 ?_
      refine lv_iload_n hx hb dX11_told_76 rfl (lv_at hl 1 rfl) ?_
      refine sg_iald hx hb hK hM (sh19 kc_132) (kd_lt kc_132 (by decide)) (i := 2) (by decide) (by decide) dX11_told_77 ?_
      refine sn_top (y := nI (rH w.1)) (hc.2.2.1) ?_
      exact hret _ _ _ _ _ _ dX11_told_78 hM (⟨by unfold F_told; rw [swp_in 2 (Nat.le_of_ble_eq_true rfl) (Nat.le_of_ble_eq_true rfl)]; rfl, hI, fun _ _ => rfl⟩)
    | 3, _ =>
      subst c_1
      refine lv_tableIn (tgt := 79) (off := 78) hx hb dX11_told_1 (by decide) (by decide) (by decide) (by decide) ?_
      have hl : lv_has ls 2 [(0, .ref (b + 131)), (1, .int (nI 3))] := hl
      refine lv_aload_n hx hb dX11_told_79 rfl (lv_at hl 0 rfl) ?_
      refine sg_ci (sg_runV (d := 0) (As := []) (rest := []) hx hb hml hts hown hK hM (m_states l G b σ (rM w.1) (rG w.1) (rH w.1) (hc)) mi_X11_manyStates wl_X11_73 (sh18 kc_131) (kd_lt kc_131 (by decide)) rfl rfl rfl hl.1 rfl (Nat.le_of_ble_eq_true rfl) dX11_told_80 ⟨by decide, by decide⟩ ⟨Nat.le_refl 0, Nat.le_refl 0⟩) hM sgA (fun r_80 σ_80 H locs hp_80 hM => ?_)
      obtain ⟨hr_80, hs_80⟩ := hp_80; subst r_80; subst σ_80
      exact hret _ _ _ _ _ _ dX11_told_83 hM (⟨by unfold F_told; rw [swp_in 3 (Nat.le_of_ble_eq_true rfl) (Nat.le_of_ble_eq_true rfl)]; rfl, hI, fun _ _ => rfl⟩)
    | 4, _ =>
      subst c_1
      refine lv_tableIn (tgt := 84) (off := 83) hx hb dX11_told_1 (by decide) (by decide) (by decide) (by decide) ?_
      have hl : lv_has ls 2 [(0, .ref (b + 131)), (1, .int (nI 4))] := hl
      refine lv_aload_n hx hb dX11_told_84 rfl (lv_at hl 0 rfl) ?_
      refine sg_get (v := .ref (b + 132)) hx hb hts hown hK hM (sh18 kc_131) (kd_lt kc_131 (by decide)) rfl inX11 0 (by decide) wf_X11_7 rfl dX11_told_85 ?_
      refine lv_iconst (v := nI 4) hx hb dX11_told_88 (by decide) ?_
      refine sg_iald hx hb hK hM (sh19 kc_132) (kd_lt kc_132 (by decide)) (i := 4) (by omega) (by decide) dX11_told_89 ?_
      refine sn_top (y := nI (rS w.1)) (hA.1.2.2.2.2.1) ?_
      exact hret _ _ _ _ _ _ dX11_told_90 hM (⟨by unfold F_told; rw [swp_in 4 (Nat.le_of_ble_eq_true rfl) (Nat.le_of_ble_eq_true rfl)]; rfl, hI, fun _ _ => rfl⟩)
    | 5, _ =>
      subst c_1
      refine lv_tableIn (tgt := 91) (off := 90) hx hb dX11_told_1 (by decide) (by decide) (by decide) (by decide) ?_
      have hl : lv_has ls 2 [(0, .ref (b + 131)), (1, .int (nI 5))] := hl
      refine lv_aload_n hx hb dX11_told_91 rfl (lv_at hl 0 rfl) ?_
      refine sg_get (v := .ref (b + 132)) hx hb hts hown hK hM (sh18 kc_131) (kd_lt kc_131 (by decide)) rfl inX11 0 (by decide) wf_X11_7 rfl dX11_told_92 ?_
      refine lv_iconst (v := nI 5) hx hb dX11_told_95 (by decide) ?_
      refine sg_iald hx hb hK hM (sh19 kc_132) (kd_lt kc_132 (by decide)) (i := 5) (by omega) (by decide) dX11_told_96 ?_
      refine sn_top (y := nI (rN w.1)) (hA.1.2.2.2.2.2) ?_
      exact hret _ _ _ _ _ _ dX11_told_97 hM (⟨by unfold F_told; rw [swp_in 5 (Nat.le_of_ble_eq_true rfl) (Nat.le_of_ble_eq_true rfl)]; rfl, hI, fun _ _ => rfl⟩)
    | 6, _ =>
      subst c_1
      refine lv_tableIn (tgt := 98) (off := 97) hx hb dX11_told_1 (by decide) (by decide) (by decide) (by decide) ?_
      have hl : lv_has ls 2 [(0, .ref (b + 131)), (1, .int (nI 6))] := hl
      refine lv_aload_n hx hb dX11_told_98 rfl (lv_at hl 0 rfl) ?_
      refine lv_aload_n hx hb dX11_told_99 rfl (lv_at hl 0 rfl) ?_
      refine sg_get (v := .ref (b + 132)) hx hb hts hown hK hM (sh18 kc_131) (kd_lt kc_131 (by decide)) rfl inX11 0 (by decide) wf_X11_7 rfl dX11_told_100 ?_
      refine lv_iconst (v := nI 4) hx hb dX11_told_103 (by decide) ?_
      refine sg_iald hx hb hK hM (sh19 kc_132) (kd_lt kc_132 (by decide)) (i := 4) (by omega) (by decide) dX11_told_104 ?_
      refine sn_top (y := nI (rS w.1)) (hA.1.2.2.2.2.1) ?_
      refine sg_ci (sg_runV (d := 1) (As := [.int (nI (rS w.1))]) (rest := []) hx hb hml hts hown hK hM (m_behind l G b σ w.1 hR hA (rS w.1) (Nat.le_refl _)) mi_X11_stateBehind wl_X11_91 (sh18 kc_131) (kd_lt kc_131 (by decide)) rfl rfl rfl hl.1 rfl (Nat.le_of_ble_eq_true rfl) dX11_told_105 ⟨by decide, by decide⟩ ⟨Nat.le_refl 0, Nat.le_refl 0⟩) hM sgA (fun r_105 σ_105 H locs hp_105 hM => ?_)
      obtain ⟨hr_105, hs_105⟩ := hp_105; subst r_105; subst σ_105
      exact hret _ _ _ _ _ _ dX11_told_108 hM (⟨by unfold F_told; rw [swp_in 6 (Nat.le_of_ble_eq_true rfl) (Nat.le_of_ble_eq_true rfl)]; rfl, hI, fun _ _ => rfl⟩)
    | 7, _ =>
      subst c_1
      refine lv_tableIn (tgt := 109) (off := 108) hx hb dX11_told_1 (by decide) (by decide) (by decide) (by decide) ?_
      have hl : lv_has ls 2 [(0, .ref (b + 131)), (1, .int (nI 7))] := hl
      refine lv_aload_n hx hb dX11_told_109 rfl (lv_at hl 0 rfl) ?_
      refine sg_get (v := .ref (b + 132)) hx hb hts hown hK hM (sh18 kc_131) (kd_lt kc_131 (by decide)) rfl inX11 0 (by decide) wf_X11_7 rfl dX11_told_110 ?_
      refine lv_iconst (v := nI 3) hx hb dX11_told_113 (by decide) ?_
      refine sg_iald hx hb hK hM (sh19 kc_132) (kd_lt kc_132 (by decide)) (i := 3) (by omega) (by decide) dX11_told_114 ?_
      refine sn_top (y := rE w.1) (hA.1.2.2.2.1) ?_
      exact hret _ _ _ _ _ _ dX11_told_115 hM (⟨by unfold F_told; rw [swp_in 7 (Nat.le_of_ble_eq_true rfl) (Nat.le_of_ble_eq_true rfl)]; rfl, hI, fun _ _ => rfl⟩)
    | 8, _ =>
      subst c_1
      refine lv_tableIn (tgt := 116) (off := 115) hx hb dX11_told_1 (by decide) (by decide) (by decide) (by decide) ?_
      have hl : lv_has ls 2 [(0, .ref (b + 131)), (1, .int (nI 8))] := hl
      refine lv_aload_n hx hb dX11_told_116 rfl (lv_at hl 0 rfl) ?_
      refine lv_aload_n hx hb dX11_told_117 rfl (lv_at hl 0 rfl) ?_
      refine sg_get (v := .ref (b + 132)) hx hb hts hown hK hM (sh18 kc_131) (kd_lt kc_131 (by decide)) rfl inX11 0 (by decide) wf_X11_7 rfl dX11_told_118 ?_
      refine lv_iconst (v := nI 5) hx hb dX11_told_121 (by decide) ?_
      refine sg_iald hx hb hK hM (sh19 kc_132) (kd_lt kc_132 (by decide)) (i := 5) (by omega) (by decide) dX11_told_122 ?_
      refine sn_top (y := nI (rN w.1)) (hA.1.2.2.2.2.2) ?_
      refine lv_aload_n hx hb dX11_told_123 rfl (lv_at hl 0 rfl) ?_
      refine sg_get (v := .ref (b + 132)) hx hb hts hown hK hM (sh18 kc_131) (kd_lt kc_131 (by decide)) rfl inX11 0 (by decide) wf_X11_7 rfl dX11_told_124 ?_
      refine lv_iconst (v := nI 3) hx hb dX11_told_127 (by decide) ?_
      refine sg_iald hx hb hK hM (sh19 kc_132) (kd_lt kc_132 (by decide)) (i := 3) (by omega) (by decide) dX11_told_128 ?_
      refine sn_top (y := rE w.1) (hA.1.2.2.2.1) ?_
      refine sg_ci (sg_runV (d := 4) (As := [.int (nI (rN w.1)), .int (rE w.1)]) (rest := []) hx hb hml hts hown hK hM (m_finds l G b σ w.1 hR hA (rN w.1) (rE w.1) (Nat.le_refl _)) mi_X11_finds wl_X11_136 (sh18 kc_131) (kd_lt kc_131 (by decide)) rfl rfl rfl hl.1 rfl (Nat.le_of_ble_eq_true rfl) dX11_told_129 ⟨by decide, by decide⟩ ⟨Nat.le_refl 0, Nat.le_refl 0⟩) hM sgA (fun r1 σ1 H locs hq hM => ?_)
      obtain ⟨hr1, hq1, hq2⟩ := hq
      have hr1 : r1 = nI (dE w.1) := hr1
      subst hr1
      have hA1 : RecF (σ1 132) w.1 := by rw [hq2 132 (by omega)]; exact hA
      exact hret _ _ _ _ _ _ dX11_told_132 hM (⟨by unfold F_told; rw [swp_in 8 (Nat.le_of_ble_eq_true rfl) (Nat.le_of_ble_eq_true rfl)]; rfl, IRw.keep hI (fun k hk1 hk2 => hq2 k (Or.inl hk2)), fun k hk => hq2 k (Or.inl (by omega))⟩)
    | 9, _ =>
      subst c_1
      refine lv_tableIn (tgt := 133) (off := 132) hx hb dX11_told_1 (by decide) (by decide) (by decide) (by decide) ?_
      have hl : lv_has ls 2 [(0, .ref (b + 131)), (1, .int (nI 9))] := hl
      refine lv_aload_n hx hb dX11_told_133 rfl (lv_at hl 0 rfl) ?_
      refine sg_ci (sg_runV (d := 5) (As := []) (rest := []) hx hb hml hts hown hK hM (m_errors l G b σ w.1 hR hA) mi_X11_errors wl_X11_151 (sh18 kc_131) (kd_lt kc_131 (by decide)) rfl rfl rfl hl.1 rfl (Nat.le_of_ble_eq_true rfl) dX11_told_134 ⟨by decide, by decide⟩ ⟨Nat.le_refl 0, Nat.le_refl 0⟩) hM sgA (fun r1 σ1 H locs hq hM => ?_)
      obtain ⟨hr1, hq2⟩ := hq
      subst hr1
      exact hret _ _ _ _ _ _ dX11_told_137 hM (⟨by unfold F_told; rw [swp_in 9 (Nat.le_of_ble_eq_true rfl) (Nat.le_of_ble_eq_true rfl)]; rfl, IRw.keep hI (fun k hk1 hk2 => hq2 k (Or.inl hk2)), fun k hk => hq2 k (Or.inl (by omega))⟩)
    | 10, _ =>
      subst c_1
      refine lv_tableIn (tgt := 138) (off := 137) hx hb dX11_told_1 (by decide) (by decide) (by decide) (by decide) ?_
      have hl : lv_has ls 2 [(0, .ref (b + 131)), (1, .int (nI 10))] := hl
      refine lv_aload_n hx hb dX11_told_138 rfl (lv_at hl 0 rfl) ?_
      refine sg_ci (sg_runV (d := 4) (As := []) (rest := []) hx hb hml hts hown hK hM (m_free l G b σ (rM w.1) (rG w.1) (rH w.1) hc) mi_X11_free wl_X11_154 (sh18 kc_131) (kd_lt kc_131 (by decide)) rfl rfl rfl hl.1 rfl (Nat.le_of_ble_eq_true rfl) dX11_told_139 ⟨by decide, by decide⟩ ⟨Nat.le_refl 0, Nat.le_refl 0⟩) hM sgA (fun r1 σ1 H locs hq hM => ?_)
      exact hret _ _ _ _ _ _ dX11_told_142 hM (⟨by rw [hq.1]; unfold F_told; rw [swp_in 10 (Nat.le_of_ble_eq_true rfl) (Nat.le_of_ble_eq_true rfl)]; rfl, IRw.keep hI (fun k hk1 hk2 => hq.2 k (by omega)), fun k hk => hq.2 k (by omega)⟩)
    | 11, _ =>
      subst c_1
      refine lv_tableIn (tgt := 143) (off := 142) hx hb dX11_told_1 (by decide) (by decide) (by decide) (by decide) ?_
      have hl : lv_has ls 2 [(0, .ref (b + 131)), (1, .int (nI 11))] := hl
      refine lv_aload_n hx hb dX11_told_143 rfl (lv_at hl 0 rfl) ?_
      refine sg_ci (sg_runV (d := 3) (As := []) (rest := []) hx hb hml hts hown hK hM (m_isTurning l G b σ (rM w.1) (rG w.1) (rH w.1) hc hR.1) mi_X11_isTurning wl_X11_157 (sh18 kc_131) (kd_lt kc_131 (by decide)) rfl rfl rfl hl.1 rfl (Nat.le_of_ble_eq_true rfl) dX11_told_144 ⟨by decide, by decide⟩ ⟨Nat.le_refl 0, Nat.le_refl 0⟩) hM sgA (fun r1 σ1 H locs hq hM => ?_)
      obtain ⟨hr1, hq2⟩ := hq
      subst hr1
      refine sn_ifz_eq (tgt := 154) hx hb dX11_told_147 (by decide) (fun c_147 => ?_) (fun c_147 => ?_)
      · refine lv_iconst (v := nI 0) hx hb dX11_told_154 (by decide) ?_
        exact hret _ _ _ _ _ _ dX11_told_155 hM (⟨by unfold F_told; rw [swp_in 11 (Nat.le_of_ble_eq_true rfl) (Nat.le_of_ble_eq_true rfl)]; rfl, IRw.keep hI (fun k hk1 hk2 => hq2 k (by omega)), fun k hk => hq2 k (by omega)⟩)
      · exact absurd c_147 (by decide)
    | 12, _ =>
      subst c_1
      refine lv_tableIn (tgt := 156) (off := 155) hx hb dX11_told_1 (by decide) (by decide) (by decide) (by decide) ?_
      have hl : lv_has ls 2 [(0, .ref (b + 131)), (1, .int (nI 12))] := hl
      refine lv_aload_n hx hb dX11_told_156 rfl (lv_at hl 0 rfl) ?_
      refine sg_ci (sg_runV (d := 5) (As := []) (rest := []) hx hb hml hts hown hK hM (m_signs l G b σ w.1 hR hA) mi_X11_signs wl_X11_161 (sh18 kc_131) (kd_lt kc_131 (by decide)) rfl rfl rfl hl.1 rfl (Nat.le_of_ble_eq_true rfl) dX11_told_157 ⟨by decide, by decide⟩ ⟨Nat.le_refl 0, Nat.le_refl 0⟩) hM sgA (fun r1 σ1 H locs hq hM => ?_)
      obtain ⟨hr1, hq1, hq2⟩ := hq
      subst hr1
      exact hret _ _ _ _ _ _ dX11_told_160 hM (⟨by unfold F_told; rw [swp_in 12 (Nat.le_of_ble_eq_true rfl) (Nat.le_of_ble_eq_true rfl)]; rfl, IRw.keep hI (fun k hk1 hk2 => hq2 k (Or.inl hk2)), fun k hk => hq2 k (Or.inl (by omega))⟩)
    | 13, _ =>
      subst c_1
      refine lv_tableIn (tgt := 161) (off := 160) hx hb dX11_told_1 (by decide) (by decide) (by decide) (by decide) ?_
      have hl : lv_has ls 2 [(0, .ref (b + 131)), (1, .int (nI 13))] := hl
      refine lv_aload_n hx hb dX11_told_161 rfl (lv_at hl 0 rfl) ?_
      refine sg_get (v := .int (σ 131 2)) hx hb hts hown hK hM (sh18 kc_131) (kd_lt kc_131 (by decide)) rfl inX11 2 (by decide) wf_X11_80 rfl dX11_told_162 ?_
      refine sn_top (y := nI w.2.1) (hn.1) ?_
      exact hret _ _ _ _ _ _ dX11_told_165 hM (⟨by unfold F_told; rw [swp_in 13 (Nat.le_of_ble_eq_true rfl) (Nat.le_of_ble_eq_true rfl)]; rfl, hI, fun _ _ => rfl⟩)
    | j + 14, hj => exact absurd hj (by omega)

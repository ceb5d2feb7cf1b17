theorem F_point_in {q : Nat} {what : Int32} (hq : q ≤ 15) : F_point (nI q) what = swp what [gx q, gy q, nI (gf q), nI (grk q), nI (tn q)] (-1000000002) := by
  unfold F_point
  rw [inR_n (by omega) (by omega) (by omega), decide_eq_true (by omega), if_pos (by rfl), nI_clamp (by omega)]
theorem F_member_in {f v : Nat} (hf : f ≤ 3) (hv : v ≤ 3) : F_member (nI f) (nI v) = nI (pt f v) := by
  unfold F_member
  rw [inR_n (by omega) (by omega) (by omega), inR_n (by omega) (by omega) (by omega), decide_eq_true (by omega), decide_eq_true (by omega), if_pos (by rfl), if_pos (by rfl), nI_clamp (by omega), nI_clamp (by omega)]
theorem F_member_o {f : Nat} {y : Int32} (hf : f ≤ 3) (hy : inR y (nI 0) (nI 3) = false) : F_member (nI f) y = (-1000000002) := by
  unfold F_member
  rw [inR_n (by omega) (by omega) (by omega), decide_eq_true (by omega), if_pos (by rfl), hy]
  rfl
theorem F_apart_in {f v : Nat} (hf : f ≤ 3) (hv : v ≤ 3) : F_apart (nI f) (nI v) = nI (gap f v) := by
  unfold F_apart
  rw [inR_n (by omega) (by omega) (by omega), inR_n (by omega) (by omega) (by omega), decide_eq_true (by omega), decide_eq_true (by omega), if_pos (by rfl), nI_clamp (by omega), nI_clamp (by omega)]
theorem F_apart_o {x y : Int32} (hy : inR y (nI 0) (nI 3) = false) : F_apart x y = (-1000000001) := by unfold F_apart; rw [hy, Bool.and_false]; rfl
theorem F_dist_in {q v : Nat} (hq : q ≤ 15) (hv : v ≤ 15) (hne : q ≠ v) : F_distance (nI q) (nI v) = far q (gx v) (gy v) := by
  unfold F_distance
  rw [inR_n (by omega) (by omega) (by omega), inR_n (by omega) (by omega) (by omega), decide_eq_true (by omega), decide_eq_true (by omega), decide_eq_true (show nI q ≠ nI v from fun z => hne ((nI_eq (by omega) (by omega)).mp z)), if_pos (by rfl), nI_clamp (by omega), nI_clamp (by omega)]
theorem F_dist_o2 {x y : Int32} (hy : inR y (nI 0) (nI 15) = false) : F_distance x y = (-1000000001) := by unfold F_distance; rw [hy, Bool.false_and, Bool.and_false]; rfl
theorem F_dist_o3 {x : Int32} : F_distance x x = (-1000000001) := by unfold F_distance; rw [decide_eq_false (fun z => z rfl), Bool.and_false, Bool.and_false]; rfl
theorem F_turned_in {f : Nat} (hf : f ≤ 3) : F_turned (nI f) = nI (tf f) := by
  unfold F_turned
  rw [inR_n (by omega) (by omega) (by omega), decide_eq_true (by omega), if_pos (by rfl), nI_clamp (by omega)]
theorem F_next_in {A : Rec} {s u : Nat} {what : Int32} (hm : rM A ≤ 3) (hs : s < 2 ^ rM A) (hu : u ≤ 1) : F_next A (nI s) (nI u) what = swp what [nI (fam (rM A) (rG A) (rH A) s u), nI (nx (rM A) s u)] (-1000000002) := by
  have h8 := p2_le hm
  unfold F_next stB
  rw [inR_n (by omega) (by omega) (by omega), inR_n (by omega) (by omega) (by omega), decide_eq_true (by omega), decide_eq_true (by omega), if_pos (by rfl), if_pos (by rfl), nI_clamp (by omega), nI_clamp (by omega)]
theorem F_next_o {A : Rec} {x y what : Int32} (h1 : stB x (rM A) = true) (h2 : inR y (nI 0) (nI 1) = false) : F_next A x y what = (-1000000002) := by unfold F_next; rw [h1, h2]; rfl
theorem F_sent_in {A : Rec} {k : Nat} {what : Int32} (hk : k < rS A) (h24 : rS A ≤ 24) : F_sent A (nI k) what = swp what [nI (rU A k), nI (rW A k), nI (ptS A k), nI (stS A (k + 1))] (-1000000002) := by
  unfold F_sent
  rw [ixB_n hk (by omega), if_pos (by rfl), nI_clamp (by omega)]
theorem F_heard_in {A : Rec} {k : Nat} {what : Int32} (hk : k < rN A) (h24 : rN A ≤ 24) : F_heard A (nI k) what = swp what [rX A k, rY A k, nI (pa (rX A k) (rY A k) 16)] (-1000000002) := by
  unfold F_heard
  rw [ixB_n hk (by omega), if_pos (by rfl), nI_clamp (by omega)]
theorem partV_swp {σ : Mem} {r k : Nat} {what : Int32} {a0 a1 a2 a3 : Int32} (h0 : σ (r + 1) k = a0) (h1 : σ (r + 2) k = a1) (h2 : σ (r + 3) k = a2) (h3 : σ (r + 4) k = a3) : partV σ r k what = swp what [a0, a1, a2, a3] (-1000000002) := by
  rcases swc what 3 with q | ⟨j, hj, rfl⟩
  · rw [partV_out q, swp_out q rfl]
  · rw [swp_in j (by exact hj) (Nat.le_of_ble_eq_true rfl), ← h0, ← h1, ← h2, ← h3]
    match j, hj with
    | 0, _ => rfl
    | 1, _ => rfl
    | 2, _ => rfl
    | 3, _ => rfl
    | j + 4, hj => exact absurd hj (by omega)
set_option maxHeartbeats 4000000 in
set_option maxRecDepth 100000 in
theorem x_point (l : Launch) (G : GT) (b : Nat) (σ : Mem) (w : World) (hI : ICw σ w) (x what : Int32) : KI l G b yX10_point cX10_point 3 1 σ [.ref (b + 0), .int x, .int what] (fun r σ' => r = F_point x what ∧ ICw σ' w ∧ ∀ k, 131 ≤ k → σ' k = σ k) := by
  refine sg_metI [.ref (b + 0), .int x, .int what] (by decide) (Nat.le_of_ble_eq_true rfl) ?_
  intro vp ve vs vm args below meth vc ls Q hx hb hml hown hts hK hM hl hret
  have hl : lv_has ls 3 [(0, .ref (b + 0)), (1, .int x), (2, .int what)] := hl
  obtain ⟨hR, hA, ⟨o, hPI⟩, hJ⟩ := id hI
  have hc : CodeAt σ 2 (rM w.1) (rG w.1) (rH w.1) := hA.1
  have h3 : σ 3 0 = nI (rS w.1) := hA.2.2.1
  have h8 : σ 8 0 = nI (rN w.1) := hA.2.2.2.2.1
  have hE : σ 1 3 = rE w.1 := hA.2.1
  have hS24 := hR.2.1.1
  have hN24 := hR.2.1.2
  have hm8 := p2_le hR.1.1.2
  refine lv_iload_n hx hb dX10_point_0 rfl (lv_at hl 1 rfl) ?_
  refine sg_ci (sg_runS (d := 0) (As := [.int x]) (rest := []) hx hb hml hts hown hK hM (c_isPoint l G b σ x) mi_X10_isPoint wl_X10_174 rfl hl.1 rfl (Nat.le_of_ble_eq_true rfl) dX10_point_1 ⟨by decide, by decide⟩ ⟨Nat.le_refl 0, Nat.le_refl 0⟩) hM sgA (fun r_1 σ_1 H locs hp_1 hM => ?_)
  obtain ⟨hr_1, hs_1⟩ := hp_1; subst r_1; subst σ_1
  refine sn_ifz_ne (tgt := 10) hx hb dX10_point_4 (by decide) (fun d1 => ?_) (fun d1 => ?_)
  · obtain ⟨q, hq, rfl⟩ := inR_nat (by decide) d1
    have hl : lv_has ls 3 [(0, .ref (b + 0)), (1, .int (nI q)), (2, .int what)] := hl
    refine lv_iload_n hx hb dX10_point_10 rfl (lv_at hl 2 rfl) ?_
    rcases swc what 4 with c_11 | ⟨j, hj, c_11⟩
    · refine lv_tableOut (tgt := 69) hx hb dX10_point_11 c_11 (by decide) ?_
      refine lv_ldc (v := (-1000000002)) hx hb hown (hts (Cond.constant RX10 59 ((-1000000002))) wk_X10_59) dX10_point_69 ?_
      exact hret _ _ _ _ _ _ dX10_point_71 hM (⟨by rw [F_point_in hq, swp_out c_11 rfl], hI, fun _ _ => rfl⟩)
    · match j, hj with
      | 0, _ =>
        subst c_11
        refine lv_tableIn (tgt := 44) (off := 33) hx hb dX10_point_11 (by decide) (by decide) (by decide) (by decide) ?_
        have hl : lv_has ls 3 [(0, .ref (b + 0)), (1, .int (nI q)), (2, .int (nI 0))] := hl
        refine lv_iload_n hx hb dX10_point_44 rfl (lv_at hl 1 rfl) ?_
        refine sg_ci (sg_runS (d := 0) (As := [.int (nI q)]) (rest := []) hx hb hml hts hown hK hM (c_g_xOf l G b σ q (by first | omega | exact fam_lt _ _ _ _ _ | exact gf_lt _ | exact tf_lt _ | exact pt_lt (by first | omega | exact fam_lt _ _ _ _ _) (by omega) | exact tn_lt (by first | omega | exact pt_lt (by omega) (by omega)))) mi_X1_xOf wl_X10_126 rfl hl.1 rfl (Nat.le_of_ble_eq_true rfl) dX10_point_45 ⟨by decide, by decide⟩ ⟨Nat.le_refl 0, Nat.le_refl 0⟩) hM sgA (fun r_45 σ_45 H locs hp_45 hM => ?_)
        obtain ⟨hr_45, hs_45⟩ := hp_45; subst r_45; subst σ_45
        exact hret _ _ _ _ _ _ dX10_point_48 hM (⟨by rw [F_point_in hq, swp_in 0 (Nat.le_of_ble_eq_true rfl) (Nat.le_of_ble_eq_true rfl)]; rfl, hI, fun _ _ => rfl⟩)
      | 1, _ =>
        subst c_11
        refine lv_tableIn (tgt := 49) (off := 38) hx hb dX10_point_11 (by decide) (by decide) (by decide) (by decide) ?_
        have hl : lv_has ls 3 [(0, .ref (b + 0)), (1, .int (nI q)), (2, .int (nI 1))] := hl
        refine lv_iload_n hx hb dX10_point_49 rfl (lv_at hl 1 rfl) ?_
        refine sg_ci (sg_runS (d := 0) (As := [.int (nI q)]) (rest := []) hx hb hml hts hown hK hM (c_g_yOf l G b σ q (by first | omega | exact fam_lt _ _ _ _ _ | exact gf_lt _ | exact tf_lt _ | exact pt_lt (by first | omega | exact fam_lt _ _ _ _ _) (by omega) | exact tn_lt (by first | omega | exact pt_lt (by omega) (by omega)))) mi_X1_yOf wl_X10_131 rfl hl.1 rfl (Nat.le_of_ble_eq_true rfl) dX10_point_50 ⟨by decide, by decide⟩ ⟨Nat.le_refl 0, Nat.le_refl 0⟩) hM sgA (fun r_50 σ_50 H locs hp_50 hM => ?_)
        obtain ⟨hr_50, hs_50⟩ := hp_50; subst r_50; subst σ_50
        exact hret _ _ _ _ _ _ dX10_point_53 hM (⟨by rw [F_point_in hq, swp_in 1 (Nat.le_of_ble_eq_true rfl) (Nat.le_of_ble_eq_true rfl)]; rfl, hI, fun _ _ => rfl⟩)
      | 2, _ =>
        subst c_11
        refine lv_tableIn (tgt := 54) (off := 43) hx hb dX10_point_11 (by decide) (by decide) (by decide) (by decide) ?_
        have hl : lv_has ls 3 [(0, .ref (b + 0)), (1, .int (nI q)), (2, .int (nI 2))] := hl
        refine lv_iload_n hx hb dX10_point_54 rfl (lv_at hl 1 rfl) ?_
        refine sg_ci (sg_runS (d := 0) (As := [.int (nI q)]) (rest := []) hx hb hml hts hown hK hM (c_g_familyOf l G b σ q (by first | omega | exact fam_lt _ _ _ _ _ | exact gf_lt _ | exact tf_lt _ | exact pt_lt (by first | omega | exact fam_lt _ _ _ _ _) (by omega) | exact tn_lt (by first | omega | exact pt_lt (by omega) (by omega)))) mi_X1_familyOf wl_X10_177 rfl hl.1 rfl (Nat.le_of_ble_eq_true rfl) dX10_point_55 ⟨by decide, by decide⟩ ⟨Nat.le_refl 0, Nat.le_refl 0⟩) hM sgA (fun r_55 σ_55 H locs hp_55 hM => ?_)
        obtain ⟨hr_55, hs_55⟩ := hp_55; subst r_55; subst σ_55
        exact hret _ _ _ _ _ _ dX10_point_58 hM (⟨by rw [F_point_in hq, swp_in 2 (Nat.le_of_ble_eq_true rfl) (Nat.le_of_ble_eq_true rfl)]; rfl, hI, fun _ _ => rfl⟩)
      | 3, _ =>
        subst c_11
        refine lv_tableIn (tgt := 59) (off := 48) hx hb dX10_point_11 (by decide) (by decide) (by decide) (by decide) ?_
        have hl : lv_has ls 3 [(0, .ref (b + 0)), (1, .int (nI q)), (2, .int (nI 3))] := hl
        refine lv_iload_n hx hb dX10_point_59 rfl (lv_at hl 1 rfl) ?_
        refine sg_ci (sg_runS (d := 0) (As := [.int (nI q)]) (rest := []) hx hb hml hts hown hK hM (c_g_rankOf l G b σ q (by first | omega | exact fam_lt _ _ _ _ _ | exact gf_lt _ | exact tf_lt _ | exact pt_lt (by first | omega | exact fam_lt _ _ _ _ _) (by omega) | exact tn_lt (by first | omega | exact pt_lt (by omega) (by omega)))) mi_X1_rankOf wl_X10_180 rfl hl.1 rfl (Nat.le_of_ble_eq_true rfl) dX10_point_60 ⟨by decide, by decide⟩ ⟨Nat.le_refl 0, Nat.le_refl 0⟩) hM sgA (fun r_60 σ_60 H locs hp_60 hM => ?_)
        obtain ⟨hr_60, hs_60⟩ := hp_60; subst r_60; subst σ_60
        exact hret _ _ _ _ _ _ dX10_point_63 hM (⟨by rw [F_point_in hq, swp_in 3 (Nat.le_of_ble_eq_true rfl) (Nat.le_of_ble_eq_true rfl)]; rfl, hI, fun _ _ => rfl⟩)
      | 4, _ =>
        subst c_11
        refine lv_tableIn (tgt := 64) (off := 53) hx hb dX10_point_11 (by decide) (by decide) (by decide) (by decide) ?_
        have hl : lv_has ls 3 [(0, .ref (b + 0)), (1, .int (nI q)), (2, .int (nI 4))] := hl
        refine lv_iload_n hx hb dX10_point_64 rfl (lv_at hl 1 rfl) ?_
        refine sg_ci (sg_runS (d := 0) (As := [.int (nI q)]) (rest := []) hx hb hml hts hown hK hM (c_g_turn l G b σ q (by first | omega | exact fam_lt _ _ _ _ _ | exact gf_lt _ | exact tf_lt _ | exact pt_lt (by first | omega | exact fam_lt _ _ _ _ _) (by omega) | exact tn_lt (by first | omega | exact pt_lt (by omega) (by omega)))) mi_X1_turnOf wl_X10_183 rfl hl.1 rfl (Nat.le_of_ble_eq_true rfl) dX10_point_65 ⟨by decide, by decide⟩ ⟨Nat.le_refl 0, Nat.le_refl 0⟩) hM sgA (fun r_65 σ_65 H locs hp_65 hM => ?_)
        obtain ⟨hr_65, hs_65⟩ := hp_65; subst r_65; subst σ_65
        exact hret _ _ _ _ _ _ dX10_point_68 hM (⟨by rw [F_point_in hq, swp_in 4 (Nat.le_of_ble_eq_true rfl) (Nat.le_of_ble_eq_true rfl)]; rfl, hI, fun _ _ => rfl⟩)
      | j + 5, hj => exact absurd hj (by omega)
  · refine lv_ldc (v := (-1000000001)) hx hb hown (hts (Cond.constant RX10 139 ((-1000000001))) wk_X10_139) dX10_point_7 ?_
    exact hret _ _ _ _ _ _ dX10_point_9 hM (⟨by unfold F_point; rw [d1]; rfl, hI, fun _ _ => rfl⟩)
set_option maxHeartbeats 4000000 in
set_option maxRecDepth 100000 in
theorem x_member (l : Launch) (G : GT) (b : Nat) (σ : Mem) (w : World) (hI : ICw σ w) (x y : Int32) : KI l G b yX10_member cX10_member 3 1 σ [.ref (b + 0), .int x, .int y] (fun r σ' => r = F_member x y ∧ ICw σ' w ∧ ∀ k, 131 ≤ k → σ' k = σ k) := by
  refine sg_metI [.ref (b + 0), .int x, .int y] (by decide) (Nat.le_of_ble_eq_true rfl) ?_
  intro vp ve vs vm args below meth vc ls Q hx hb hml hown hts hK hM hl hret
  have hl : lv_has ls 3 [(0, .ref (b + 0)), (1, .int x), (2, .int y)] := hl
  obtain ⟨hR, hA, ⟨o, hPI⟩, hJ⟩ := id hI
  have hc : CodeAt σ 2 (rM w.1) (rG w.1) (rH w.1) := hA.1
  have h3 : σ 3 0 = nI (rS w.1) := hA.2.2.1
  have h8 : σ 8 0 = nI (rN w.1) := hA.2.2.2.2.1
  have hE : σ 1 3 = rE w.1 := hA.2.1
  have hS24 := hR.2.1.1
  have hN24 := hR.2.1.2
  have hm8 := p2_le hR.1.1.2
  refine lv_iload_n hx hb dX10_member_0 rfl (lv_at hl 1 rfl) ?_
  refine sg_ci (sg_runS (d := 0) (As := [.int x]) (rest := []) hx hb hml hts hown hK hM (c_isFamily l G b σ x) mi_X10_isFamily wl_X10_186 rfl hl.1 rfl (Nat.le_of_ble_eq_true rfl) dX10_member_1 ⟨by decide, by decide⟩ ⟨Nat.le_refl 0, Nat.le_refl 0⟩) hM sgA (fun r_1 σ_1 H locs hp_1 hM => ?_)
  obtain ⟨hr_1, hs_1⟩ := hp_1; subst r_1; subst σ_1
  refine sn_ifz_ne (tgt := 10) hx hb dX10_member_4 (by decide) (fun d1 => ?_) (fun d1 => ?_)
  · obtain ⟨f, hf, rfl⟩ := inR_nat (by decide) d1
    have hl : lv_has ls 3 [(0, .ref (b + 0)), (1, .int (nI f)), (2, .int y)] := hl
    refine lv_iload_n hx hb dX10_member_10 rfl (lv_at hl 2 rfl) ?_
    refine lv_iconst (v := nI 0) hx hb dX10_member_11 (by decide) ?_
    refine lv_iconst (v := nI 3) hx hb dX10_member_12 (by decide) ?_
    refine sg_ci (sg_runS (d := 0) (As := [.int y, .int (nI 0), .int (nI 3)]) (rest := []) hx hb hml hts hown hK hM (c_isOutside l G b σ y (nI 0) (nI 3)) mi_X10_isOutside wl_X10_60 rfl hl.1 rfl (Nat.le_of_ble_eq_true rfl) dX10_member_13 ⟨by decide, by decide⟩ ⟨Nat.le_refl 0, Nat.le_refl 0⟩) hM sgA (fun r_13 σ_13 H locs hp_13 hM => ?_)
    obtain ⟨hr_13, hs_13⟩ := hp_13; subst r_13; subst σ_13
    refine sn_ifz_eq (tgt := 22) hx hb dX10_member_16 (by decide) (fun d2 => ?_) (fun d2 => ?_)
    · obtain ⟨v, hv, rfl⟩ := inR_nat (by decide) (not_f d2)
      have hl : lv_has ls 3 [(0, .ref (b + 0)), (1, .int (nI f)), (2, .int (nI v))] := hl
      refine lv_iload_n hx hb dX10_member_22 rfl (lv_at hl 1 rfl) ?_
      refine lv_iload_n hx hb dX10_member_23 rfl (lv_at hl 2 rfl) ?_
      refine sg_ci (sg_runS (d := 0) (As := [.int (nI f), .int (nI v)]) (rest := []) hx hb hml hts hown hK hM (c_g_pointOf l G b σ f v (by first | omega | exact fam_lt _ _ _ _ _ | exact gf_lt _ | exact tf_lt _ | exact pt_lt (by first | omega | exact fam_lt _ _ _ _ _) (by omega) | exact tn_lt (by first | omega | exact pt_lt (by omega) (by omega))) (by first | omega | exact fam_lt _ _ _ _ _ | exact gf_lt _ | exact tf_lt _ | exact pt_lt (by first | omega | exact fam_lt _ _ _ _ _) (by omega) | exact tn_lt (by first | omega | exact pt_lt (by omega) (by omega)))) mi_X1_pointOf wl_X10_189 rfl hl.1 rfl (Nat.le_of_ble_eq_true rfl) dX10_member_24 ⟨by decide, by decide⟩ ⟨Nat.le_refl 0, Nat.le_refl 0⟩) hM sgA (fun r_24 σ_24 H locs hp_24 hM => ?_)
      obtain ⟨hr_24, hs_24⟩ := hp_24; subst r_24; subst σ_24
      exact hret _ _ _ _ _ _ dX10_member_27 hM (⟨(F_member_in hf hv).symm, hI, fun _ _ => rfl⟩)
    · refine lv_ldc (v := (-1000000002)) hx hb hown (hts (Cond.constant RX10 59 ((-1000000002))) wk_X10_59) dX10_member_19 ?_
      exact hret _ _ _ _ _ _ dX10_member_21 hM (⟨(F_member_o hf (not_t d2)).symm, hI, fun _ _ => rfl⟩)
  · refine lv_ldc (v := (-1000000001)) hx hb hown (hts (Cond.constant RX10 139 ((-1000000001))) wk_X10_139) dX10_member_7 ?_
    exact hret _ _ _ _ _ _ dX10_member_9 hM (⟨by unfold F_member; rw [d1]; rfl, hI, fun _ _ => rfl⟩)
set_option maxHeartbeats 4000000 in
set_option maxRecDepth 100000 in
theorem x_apart (l : Launch) (G : GT) (b : Nat) (σ : Mem) (w : World) (hI : ICw σ w) (x y : Int32) : KI l G b yX10_apart cX10_apart 3 3 σ [.ref (b + 0), .int x, .int y] (fun r σ' => r = F_apart x y ∧ ICw σ' w ∧ ∀ k, 131 ≤ k → σ' k = σ k) := by
  refine sg_metI [.ref (b + 0), .int x, .int y] (by decide) (Nat.le_of_ble_eq_true rfl) ?_
  intro vp ve vs vm args below meth vc ls Q hx hb hml hown hts hK hM hl hret
  have hl : lv_has ls 3 [(0, .ref (b + 0)), (1, .int x), (2, .int y)] := hl
  obtain ⟨hR, hA, ⟨o, hPI⟩, hJ⟩ := id hI
  have hc : CodeAt σ 2 (rM w.1) (rG w.1) (rH w.1) := hA.1
  have h3 : σ 3 0 = nI (rS w.1) := hA.2.2.1
  have h8 : σ 8 0 = nI (rN w.1) := hA.2.2.2.2.1
  have hE : σ 1 3 = rE w.1 := hA.2.1
  have hS24 := hR.2.1.1
  have hN24 := hR.2.1.2
  have hm8 := p2_le hR.1.1.2
  refine lv_iload_n hx hb dX10_apart_0 rfl (lv_at hl 1 rfl) ?_
  refine sg_ci (sg_runS (d := 0) (As := [.int x]) (rest := []) hx hb hml hts hown hK hM (c_isFamily l G b σ x) mi_X10_isFamily wl_X10_186 rfl hl.1 rfl (Nat.le_of_ble_eq_true rfl) dX10_apart_1 ⟨by decide, by decide⟩ ⟨Nat.le_refl 0, Nat.le_refl 0⟩) hM sgA (fun r_1 σ_1 H locs hp_1 hM => ?_)
  obtain ⟨hr_1, hs_1⟩ := hp_1; subst r_1; subst σ_1
  refine sn_ifz_eq (tgt := 14) hx hb dX10_apart_4 (by decide) (fun d1 => ?_) (fun d1 => ?_)
  · refine lv_ldc (v := (-1000000001)) hx hb hown (hts (Cond.constant RX10 139 ((-1000000001))) wk_X10_139) dX10_apart_14 ?_
    exact hret _ _ _ _ _ _ dX10_apart_16 hM (⟨by unfold F_apart; rw [d1]; rfl, hI, fun _ _ => rfl⟩)
  · obtain ⟨f, hf, rfl⟩ := inR_nat (by decide) d1
    have hl : lv_has ls 3 [(0, .ref (b + 0)), (1, .int (nI f)), (2, .int y)] := hl
    refine lv_iload_n hx hb dX10_apart_7 rfl (lv_at hl 2 rfl) ?_
    refine sg_ci (sg_runS (d := 0) (As := [.int y]) (rest := []) hx hb hml hts hown hK hM (c_isFamily l G b σ y) mi_X10_isFamily wl_X10_186 rfl hl.1 rfl (Nat.le_of_ble_eq_true rfl) dX10_apart_8 ⟨by decide, by decide⟩ ⟨Nat.le_refl 0, Nat.le_refl 0⟩) hM sgA (fun r_8 σ_8 H locs hp_8 hM => ?_)
    obtain ⟨hr_8, hs_8⟩ := hp_8; subst r_8; subst σ_8
    refine sn_ifz_ne (tgt := 17) hx hb dX10_apart_11 (by decide) (fun d2 => ?_) (fun d2 => ?_)
    · obtain ⟨v, hv, rfl⟩ := inR_nat (by decide) d2
      have hl : lv_has ls 3 [(0, .ref (b + 0)), (1, .int (nI f)), (2, .int (nI v))] := hl
      refine lv_iload_n hx hb dX10_apart_17 rfl (lv_at hl 1 rfl) ?_
      refine lv_iload_n hx hb dX10_apart_18 rfl (lv_at hl 2 rfl) ?_
      refine sg_ci (sg_runS (d := 2) (As := [.int (nI f), .int (nI v)]) (rest := []) hx hb hml hts hown hK hM (c_g_gapOf l G b σ f v (by first | omega | exact fam_lt _ _ _ _ _ | exact gf_lt _ | exact tf_lt _ | exact pt_lt (by first | omega | exact fam_lt _ _ _ _ _) (by omega) | exact tn_lt (by first | omega | exact pt_lt (by omega) (by omega))) (by first | omega | exact fam_lt _ _ _ _ _ | exact gf_lt _ | exact tf_lt _ | exact pt_lt (by first | omega | exact fam_lt _ _ _ _ _) (by omega) | exact tn_lt (by first | omega | exact pt_lt (by omega) (by omega)))) mi_X1_gapOf wl_X10_193 rfl hl.1 rfl (Nat.le_of_ble_eq_true rfl) dX10_apart_19 ⟨by decide, by decide⟩ ⟨Nat.le_refl 0, Nat.le_refl 0⟩) hM sgA (fun r_19 σ_19 H locs hp_19 hM => ?_)
      obtain ⟨hr_19, hs_19⟩ := hp_19; subst r_19; subst σ_19
      exact hret _ _ _ _ _ _ dX10_apart_22 hM (⟨(F_apart_in hf hv).symm, hI, fun _ _ => rfl⟩)
    · refine lv_ldc (v := (-1000000001)) hx hb hown (hts (Cond.constant RX10 139 ((-1000000001))) wk_X10_139) dX10_apart_14 ?_
      exact hret _ _ _ _ _ _ dX10_apart_16 hM (⟨(F_apart_o d2).symm, hI, fun _ _ => rfl⟩)
set_option maxHeartbeats 4000000 in
set_option maxRecDepth 100000 in
theorem x_distance (l : Launch) (G : GT) (b : Nat) (σ : Mem) (w : World) (hI : ICw σ w) (x y : Int32) : KI l G b yX10_distance cX10_distance 3 2 σ [.ref (b + 0), .int x, .int y] (fun r σ' => r = F_distance x y ∧ ICw σ' w ∧ ∀ k, 131 ≤ k → σ' k = σ k) := by
  refine sg_metI [.ref (b + 0), .int x, .int y] (by decide) (Nat.le_of_ble_eq_true rfl) ?_
  intro vp ve vs vm args below meth vc ls Q hx hb hml hown hts hK hM hl hret
  have hl : lv_has ls 3 [(0, .ref (b + 0)), (1, .int x), (2, .int y)] := hl
  obtain ⟨hR, hA, ⟨o, hPI⟩, hJ⟩ := id hI
  have hc : CodeAt σ 2 (rM w.1) (rG w.1) (rH w.1) := hA.1
  have h3 : σ 3 0 = nI (rS w.1) := hA.2.2.1
  have h8 : σ 8 0 = nI (rN w.1) := hA.2.2.2.2.1
  have hE : σ 1 3 = rE w.1 := hA.2.1
  have hS24 := hR.2.1.1
  have hN24 := hR.2.1.2
  have hm8 := p2_le hR.1.1.2
  refine lv_iload_n hx hb dX10_distance_0 rfl (lv_at hl 1 rfl) ?_
  refine sg_ci (sg_runS (d := 0) (As := [.int x]) (rest := []) hx hb hml hts hown hK hM (c_isPoint l G b σ x) mi_X10_isPoint wl_X10_174 rfl hl.1 rfl (Nat.le_of_ble_eq_true rfl) dX10_distance_1 ⟨by decide, by decide⟩ ⟨Nat.le_refl 0, Nat.le_refl 0⟩) hM sgA (fun r_1 σ_1 H locs hp_1 hM => ?_)
  obtain ⟨hr_1, hs_1⟩ := hp_1; subst r_1; subst σ_1
  refine sn_ifz_eq (tgt := 19) hx hb dX10_distance_4 (by decide) (fun d1 => ?_) (fun d1 => ?_)
  · refine lv_ldc (v := (-1000000001)) hx hb hown (hts (Cond.constant RX10 139 ((-1000000001))) wk_X10_139) dX10_distance_19 ?_
    exact hret _ _ _ _ _ _ dX10_distance_21 hM (⟨by unfold F_distance; rw [d1]; rfl, hI, fun _ _ => rfl⟩)
  · obtain ⟨q, hq, rfl⟩ := inR_nat (by decide) d1
    have hl : lv_has ls 3 [(0, .ref (b + 0)), (1, .int (nI q)), (2, .int y)] := hl
    refine lv_iload_n hx hb dX10_distance_7 rfl (lv_at hl 2 rfl) ?_
    refine sg_ci (sg_runS (d := 0) (As := [.int y]) (rest := []) hx hb hml hts hown hK hM (c_isPoint l G b σ y) mi_X10_isPoint wl_X10_174 rfl hl.1 rfl (Nat.le_of_ble_eq_true rfl) dX10_distance_8 ⟨by decide, by decide⟩ ⟨Nat.le_refl 0, Nat.le_refl 0⟩) hM sgA (fun r_8 σ_8 H locs hp_8 hM => ?_)
    obtain ⟨hr_8, hs_8⟩ := hp_8; subst r_8; subst σ_8
    refine sn_ifz_eq (tgt := 19) hx hb dX10_distance_11 (by decide) (fun d2 => ?_) (fun d2 => ?_)
    · refine lv_ldc (v := (-1000000001)) hx hb hown (hts (Cond.constant RX10 139 ((-1000000001))) wk_X10_139) dX10_distance_19 ?_
      exact hret _ _ _ _ _ _ dX10_distance_21 hM (⟨(F_dist_o2 d2).symm, hI, fun _ _ => rfl⟩)
    · obtain ⟨v, hv, rfl⟩ := inR_nat (by decide) d2
      have hl : lv_has ls 3 [(0, .ref (b + 0)), (1, .int (nI q)), (2, .int (nI v))] := hl
      refine lv_iload_n hx hb dX10_distance_14 rfl (lv_at hl 1 rfl) ?_
      refine lv_iload_n hx hb dX10_distance_15 rfl (lv_at hl 2 rfl) ?_
      refine sn_icmp_ne (tgt := 22) hx hb dX10_distance_16 (by decide) (by omega) (by omega) (fun d3 => ?_) (fun d3 => ?_)
      · refine lv_iload_n hx hb dX10_distance_22 rfl (lv_at hl 1 rfl) ?_
        refine lv_iload_n hx hb dX10_distance_23 rfl (lv_at hl 2 rfl) ?_
        refine sg_ci (sg_runS (d := 0) (As := [.int (nI v)]) (rest := [.int (nI q)]) hx hb hml hts hown hK hM (c_g_xOf l G b σ v (by first | omega | exact fam_lt _ _ _ _ _ | exact gf_lt _ | exact tf_lt _ | exact pt_lt (by first | omega | exact fam_lt _ _ _ _ _) (by omega) | exact tn_lt (by first | omega | exact pt_lt (by omega) (by omega)))) mi_X1_xOf wl_X10_126 rfl hl.1 rfl (Nat.le_of_ble_eq_true rfl) dX10_distance_24 ⟨by decide, by decide⟩ ⟨Nat.le_refl 0, Nat.le_refl 0⟩) hM sgA (fun r_24 σ_24 H locs hp_24 hM => ?_)
        obtain ⟨hr_24, hs_24⟩ := hp_24; subst r_24; subst σ_24
        refine lv_iload_n hx hb dX10_distance_27 rfl (lv_at hl 2 rfl) ?_
        refine sg_ci (sg_runS (d := 0) (As := [.int (nI v)]) (rest := [.int (gx v), .int (nI q)]) hx hb hml hts hown hK hM (c_g_yOf l G b σ v (by first | omega | exact fam_lt _ _ _ _ _ | exact gf_lt _ | exact tf_lt _ | exact pt_lt (by first | omega | exact fam_lt _ _ _ _ _) (by omega) | exact tn_lt (by first | omega | exact pt_lt (by omega) (by omega)))) mi_X1_yOf wl_X10_131 rfl hl.1 rfl (Nat.le_of_ble_eq_true rfl) dX10_distance_28 ⟨by decide, by decide⟩ ⟨Nat.le_refl 0, Nat.le_refl 0⟩) hM sgA (fun r_28 σ_28 H locs hp_28 hM => ?_)
        obtain ⟨hr_28, hs_28⟩ := hp_28; subst r_28; subst σ_28
        refine sg_ci (sg_runS (d := 1) (As := [.int (nI q), .int (gx v), .int (gy v)]) (rest := []) hx hb hml hts hown hK hM (c_g_far l G b σ q (gx v) (gy v) (by first | omega | exact fam_lt _ _ _ _ _ | exact gf_lt _ | exact tf_lt _ | exact pt_lt (by first | omega | exact fam_lt _ _ _ _ _) (by omega) | exact tn_lt (by first | omega | exact pt_lt (by omega) (by omega)))) mi_X1_farFrom wl_X10_196 rfl hl.1 rfl (Nat.le_of_ble_eq_true rfl) dX10_distance_31 ⟨by decide, by decide⟩ ⟨Nat.le_refl 0, Nat.le_refl 0⟩) hM sgA (fun r_31 σ_31 H locs hp_31 hM => ?_)
        obtain ⟨hr_31, hs_31⟩ := hp_31; subst r_31; subst σ_31
        exact hret _ _ _ _ _ _ dX10_distance_34 hM (⟨(F_dist_in hq hv d3).symm, hI, fun _ _ => rfl⟩)
      · refine lv_ldc (v := (-1000000001)) hx hb hown (hts (Cond.constant RX10 139 ((-1000000001))) wk_X10_139) dX10_distance_19 ?_
        exact hret _ _ _ _ _ _ dX10_distance_21 hM (⟨by subst d3; exact F_dist_o3.symm, hI, fun _ _ => rfl⟩)
set_option maxHeartbeats 4000000 in
set_option maxRecDepth 100000 in
theorem x_turned (l : Launch) (G : GT) (b : Nat) (σ : Mem) (w : World) (hI : ICw σ w) (x : Int32) : KI l G b yX10_turned cX10_turned 2 2 σ [.ref (b + 0), .int x] (fun r σ' => r = F_turned x ∧ ICw σ' w ∧ ∀ k, 131 ≤ k → σ' k = σ k) := by
  refine sg_metI [.ref (b + 0), .int x] (by decide) (Nat.le_of_ble_eq_true rfl) ?_
  intro vp ve vs vm args below meth vc ls Q hx hb hml hown hts hK hM hl hret
  have hl : lv_has ls 2 [(0, .ref (b + 0)), (1, .int x)] := hl
  obtain ⟨hR, hA, ⟨o, hPI⟩, hJ⟩ := id hI
  have hc : CodeAt σ 2 (rM w.1) (rG w.1) (rH w.1) := hA.1
  have h3 : σ 3 0 = nI (rS w.1) := hA.2.2.1
  have h8 : σ 8 0 = nI (rN w.1) := hA.2.2.2.2.1
  have hE : σ 1 3 = rE w.1 := hA.2.1
  have hS24 := hR.2.1.1
  have hN24 := hR.2.1.2
  have hm8 := p2_le hR.1.1.2
  refine lv_iload_n hx hb dX10_turned_0 rfl (lv_at hl 1 rfl) ?_
  refine sg_ci (sg_runS (d := 0) (As := [.int x]) (rest := []) hx hb hml hts hown hK hM (c_isFamily l G b σ x) mi_X10_isFamily wl_X10_186 rfl hl.1 rfl (Nat.le_of_ble_eq_true rfl) dX10_turned_1 ⟨by decide, by decide⟩ ⟨Nat.le_refl 0, Nat.le_refl 0⟩) hM sgA (fun r_1 σ_1 H locs hp_1 hM => ?_)
  obtain ⟨hr_1, hs_1⟩ := hp_1; subst r_1; subst σ_1
  refine sn_ifz_ne (tgt := 10) hx hb dX10_turned_4 (by decide) (fun d1 => ?_) (fun d1 => ?_)
  · obtain ⟨f, hf, rfl⟩ := inR_nat (by decide) d1
    have hl : lv_has ls 2 [(0, .ref (b + 0)), (1, .int (nI f))] := hl
    refine lv_iload_n hx hb dX10_turned_10 rfl (lv_at hl 1 rfl) ?_
    refine sg_ci (sg_runS (d := 1) (As := [.int (nI f)]) (rest := []) hx hb hml hts hown hK hM (c_g_turnOfFamily l G b σ f (by first | omega | exact fam_lt _ _ _ _ _ | exact gf_lt _ | exact tf_lt _ | exact pt_lt (by first | omega | exact fam_lt _ _ _ _ _) (by omega) | exact tn_lt (by first | omega | exact pt_lt (by omega) (by omega)))) mi_X1_turnOfFamily wl_X10_200 rfl hl.1 rfl (Nat.le_of_ble_eq_true rfl) dX10_turned_11 ⟨by decide, by decide⟩ ⟨Nat.le_refl 0, Nat.le_refl 0⟩) hM sgA (fun r_11 σ_11 H locs hp_11 hM => ?_)
    obtain ⟨hr_11, hs_11⟩ := hp_11; subst r_11; subst σ_11
    exact hret _ _ _ _ _ _ dX10_turned_14 hM (⟨(F_turned_in hf).symm, hI, fun _ _ => rfl⟩)
  · refine lv_ldc (v := (-1000000001)) hx hb hown (hts (Cond.constant RX10 139 ((-1000000001))) wk_X10_139) dX10_turned_7 ?_
    exact hret _ _ _ _ _ _ dX10_turned_9 hM (⟨by unfold F_turned; rw [d1]; rfl, hI, fun _ _ => rfl⟩)
set_option maxHeartbeats 4000000 in
set_option maxRecDepth 100000 in
theorem x_next (l : Launch) (G : GT) (b : Nat) (σ : Mem) (w : World) (hI : ICw σ w) (x y what : Int32) : KI l G b yX10_next cX10_next 4 2 σ [.ref (b + 0), .int x, .int y, .int what] (fun r σ' => r = F_next w.1 x y what ∧ ICw σ' w ∧ ∀ k, 131 ≤ k → σ' k = σ k) := by
  refine sg_metI [.ref (b + 0), .int x, .int y, .int what] (by decide) (Nat.le_of_ble_eq_true rfl) ?_
  intro vp ve vs vm args below meth vc ls Q hx hb hml hown hts hK hM hl hret
  have hl : lv_has ls 4 [(0, .ref (b + 0)), (1, .int x), (2, .int y), (3, .int what)] := hl
  obtain ⟨hR, hA, ⟨o, hPI⟩, hJ⟩ := id hI
  have hc : CodeAt σ 2 (rM w.1) (rG w.1) (rH w.1) := hA.1
  have h3 : σ 3 0 = nI (rS w.1) := hA.2.2.1
  have h8 : σ 8 0 = nI (rN w.1) := hA.2.2.2.2.1
  have hE : σ 1 3 = rE w.1 := hA.2.1
  have hS24 := hR.2.1.1
  have hN24 := hR.2.1.2
  have hm8 := p2_le hR.1.1.2
  refine lv_aload_n hx hb dX10_next_0 rfl (lv_at hl 0 rfl) ?_
  refine lv_iload_n hx hb dX10_next_1 rfl (lv_at hl 1 rfl) ?_
  refine sg_ci (sg_runV (d := 1) (As := [.int x]) (rest := []) hx hb hml hts hown hK hM (c_isState l G b σ (rM w.1) (rG w.1) (rH w.1) x hc) mi_X10_isState wl_X10_135 (sh0 kc_0) (kd_lt kc_0 (by decide)) rfl rfl rfl hl.1 rfl (Nat.le_of_ble_eq_true rfl) dX10_next_2 ⟨by decide, by decide⟩ ⟨Nat.le_refl 0, Nat.le_refl 0⟩) hM sgA (fun r_2 σ_2 H locs hp_2 hM => ?_)
  obtain ⟨hr_2, hs_2⟩ := hp_2; subst r_2; subst σ_2
  refine sn_ifz_ne (tgt := 11) hx hb dX10_next_5 (by decide) (fun d1 => ?_) (fun d1 => ?_)
  · obtain ⟨s, hs, rfl⟩ := stB_t hR.1.1.2 d1
    have hl : lv_has ls 4 [(0, .ref (b + 0)), (1, .int (nI s)), (2, .int y), (3, .int what)] := hl
    refine lv_iload_n hx hb dX10_next_11 rfl (lv_at hl 2 rfl) ?_
    refine lv_iconst (v := nI 0) hx hb dX10_next_12 (by decide) ?_
    refine lv_iconst (v := nI 1) hx hb dX10_next_13 (by decide) ?_
    refine sg_ci (sg_runS (d := 0) (As := [.int y, .int (nI 0), .int (nI 1)]) (rest := []) hx hb hml hts hown hK hM (c_isOutside l G b σ y (nI 0) (nI 1)) mi_X10_isOutside wl_X10_60 rfl hl.1 rfl (Nat.le_of_ble_eq_true rfl) dX10_next_14 ⟨by decide, by decide⟩ ⟨Nat.le_refl 0, Nat.le_refl 0⟩) hM sgA (fun r_14 σ_14 H locs hp_14 hM => ?_)
    obtain ⟨hr_14, hs_14⟩ := hp_14; subst r_14; subst σ_14
    refine sn_ifz_eq (tgt := 23) hx hb dX10_next_17 (by decide) (fun d2 => ?_) (fun d2 => ?_)
    · obtain ⟨u, hu, rfl⟩ := inR_nat (by decide) (not_f d2)
      have hl : lv_has ls 4 [(0, .ref (b + 0)), (1, .int (nI s)), (2, .int (nI u)), (3, .int what)] := hl
      refine lv_iload_n hx hb dX10_next_23 rfl (lv_at hl 3 rfl) ?_
      rcases swc what 1 with c_24 | ⟨j, hj, c_24⟩
      · refine lv_lookup (tgt := 78) (off := 54) hx hb dX10_next_24 (by decide) (by rw [lv_osw (k := nI 0) (sw_ne c_24 0 (by decide) (by decide)) (by decide)]; rw [lv_osw (k := nI 1) (sw_ne c_24 1 (by decide) (by decide)) (by decide)]; exact rfl) (by decide) ?_
        refine lv_ldc (v := (-1000000002)) hx hb hown (hts (Cond.constant RX10 59 ((-1000000002))) wk_X10_59) dX10_next_78 ?_
        exact hret _ _ _ _ _ _ dX10_next_80 hM (⟨by rw [F_next_in hR.1.1.2 hs hu, swp_out c_24 rfl], hI, fun _ _ => rfl⟩)
      · match j, hj with
        | 0, _ =>
          subst c_24
          refine lv_lookup (tgt := 52) (off := 28) hx hb dX10_next_24 (by decide) (by decide) (by decide) ?_
          have hl : lv_has ls 4 [(0, .ref (b + 0)), (1, .int (nI s)), (2, .int (nI u)), (3, .int (nI 0))] := hl
          refine lv_aload_n hx hb dX10_next_52 rfl (lv_at hl 0 rfl) ?_
          refine sg_get (v := .ref (b + 1)) hx hb hts hown hK hM (sh0 kc_0) (kd_lt kc_0 (by decide)) rfl inX10 0 (by decide) wf_X10_10 rfl dX10_next_53 ?_
          refine sg_get (v := .ref (b + 2)) hx hb hts hown hK hM (sh1 kc_1) (kd_lt kc_1 (by decide)) rfl inX3 0 (by decide) wf_X10_68 rfl dX10_next_56 ?_
          refine lv_iload_n hx hb dX10_next_59 rfl (lv_at hl 1 rfl) ?_
          refine lv_iload_n hx hb dX10_next_60 rfl (lv_at hl 2 rfl) ?_
          refine sg_ci (sg_runV (d := 1) (As := [.int (nI s), .int (nI u)]) (rest := []) hx hb hml hts hown hK hM (c_Code_fam l G b σ 2 (rM w.1) (rG w.1) (rH w.1) s u kc_2 (hc) (by omega) (hs)) mi_X0_familyFrom wl_X10_203 (sh2 kc_2) (kd_lt kc_2 (by decide)) rfl rfl rfl hl.1 rfl (Nat.le_of_ble_eq_true rfl) dX10_next_61 ⟨by decide, by decide⟩ ⟨Nat.le_refl 0, Nat.le_refl 0⟩) hM sgA (fun r_61 σ_61 H locs hp_61 hM => ?_)
          obtain ⟨hr_61, hs_61⟩ := hp_61; subst r_61; subst σ_61
          exact hret _ _ _ _ _ _ dX10_next_64 hM (⟨by rw [F_next_in hR.1.1.2 hs hu, swp_in 0 (Nat.le_of_ble_eq_true rfl) (Nat.le_of_ble_eq_true rfl)]; rfl, hI, fun _ _ => rfl⟩)
        | 1, _ =>
          subst c_24
          refine lv_lookup (tgt := 65) (off := 41) hx hb dX10_next_24 (by decide) (by decide) (by decide) ?_
          have hl : lv_has ls 4 [(0, .ref (b + 0)), (1, .int (nI s)), (2, .int (nI u)), (3, .int (nI 1))] := hl
          refine lv_aload_n hx hb dX10_next_65 rfl (lv_at hl 0 rfl) ?_
          refine sg_get (v := .ref (b + 1)) hx hb hts hown hK hM (sh0 kc_0) (kd_lt kc_0 (by decide)) rfl inX10 0 (by decide) wf_X10_10 rfl dX10_next_66 ?_
          refine sg_get (v := .ref (b + 2)) hx hb hts hown hK hM (sh1 kc_1) (kd_lt kc_1 (by decide)) rfl inX3 0 (by decide) wf_X10_68 rfl dX10_next_69 ?_
          refine lv_iload_n hx hb dX10_next_72 rfl (lv_at hl 1 rfl) ?_
          refine lv_iload_n hx hb dX10_next_73 rfl (lv_at hl 2 rfl) ?_
          refine sg_ci (sg_runV (d := 1) (As := [.int (nI s), .int (nI u)]) (rest := []) hx hb hml hts hown hK hM (c_Code_next l G b σ 2 (rM w.1) (rG w.1) (rH w.1) s u kc_2 (hc) (by omega) (hs)) mi_X0_stateAfter wl_X10_206 (sh2 kc_2) (kd_lt kc_2 (by decide)) rfl rfl rfl hl.1 rfl (Nat.le_of_ble_eq_true rfl) dX10_next_74 ⟨by decide, by decide⟩ ⟨Nat.le_refl 0, Nat.le_refl 0⟩) hM sgA (fun r_74 σ_74 H locs hp_74 hM => ?_)
          obtain ⟨hr_74, hs_74⟩ := hp_74; subst r_74; subst σ_74
          exact hret _ _ _ _ _ _ dX10_next_77 hM (⟨by rw [F_next_in hR.1.1.2 hs hu, swp_in 1 (Nat.le_of_ble_eq_true rfl) (Nat.le_of_ble_eq_true rfl)]; rfl, hI, fun _ _ => rfl⟩)
        | j + 2, hj => exact absurd hj (by omega)
    · refine lv_ldc (v := (-1000000002)) hx hb hown (hts (Cond.constant RX10 59 ((-1000000002))) wk_X10_59) dX10_next_20 ?_
      exact hret _ _ _ _ _ _ dX10_next_22 hM (⟨(F_next_o d1 (not_t d2)).symm, hI, fun _ _ => rfl⟩)
  · refine lv_ldc (v := (-1000000001)) hx hb hown (hts (Cond.constant RX10 139 ((-1000000001))) wk_X10_139) dX10_next_8 ?_
    exact hret _ _ _ _ _ _ dX10_next_10 hM (⟨by unfold F_next; rw [d1]; rfl, hI, fun _ _ => rfl⟩)
set_option maxHeartbeats 4000000 in
set_option maxRecDepth 100000 in
theorem x_sent (l : Launch) (G : GT) (b : Nat) (σ : Mem) (w : World) (hI : ICw σ w) (x what : Int32) : KI l G b yX10_sent cX10_sent 3 1 σ [.ref (b + 0), .int x, .int what] (fun r σ' => r = F_sent w.1 x what ∧ ICw σ' w ∧ ∀ k, 131 ≤ k → σ' k = σ k) := by
  refine sg_metI [.ref (b + 0), .int x, .int what] (by decide) (Nat.le_of_ble_eq_true rfl) ?_
  intro vp ve vs vm args below meth vc ls Q hx hb hml hown hts hK hM hl hret
  have hl : lv_has ls 3 [(0, .ref (b + 0)), (1, .int x), (2, .int what)] := hl
  obtain ⟨hR, hA, ⟨o, hPI⟩, hJ⟩ := id hI
  have hc : CodeAt σ 2 (rM w.1) (rG w.1) (rH w.1) := hA.1
  have h3 : σ 3 0 = nI (rS w.1) := hA.2.2.1
  have h8 : σ 8 0 = nI (rN w.1) := hA.2.2.2.2.1
  have hE : σ 1 3 = rE w.1 := hA.2.1
  have hS24 := hR.2.1.1
  have hN24 := hR.2.1.2
  have hm8 := p2_le hR.1.1.2
  refine lv_iload_n hx hb dX10_sent_0 rfl (lv_at hl 1 rfl) ?_
  refine lv_iconst (v := nI 0) hx hb dX10_sent_1 (by decide) ?_
  refine lv_aload_n hx hb dX10_sent_2 rfl (lv_at hl 0 rfl) ?_
  refine sg_get (v := .ref (b + 1)) hx hb hts hown hK hM (sh0 kc_0) (kd_lt kc_0 (by decide)) rfl inX10 0 (by decide) wf_X10_10 rfl dX10_sent_3 ?_
  refine sg_get (v := .ref (b + 3)) hx hb hts hown hK hM (sh1 kc_1) (kd_lt kc_1 (by decide)) rfl inX3 1 (by decide) wf_X10_89 rfl dX10_sent_6 ?_
  refine sg_get (v := .int (σ 3 0)) hx hb hts hown hK hM (sh3 kc_3) (kd_lt kc_3 (by decide)) rfl inX7 0 (by decide) wf_X10_134 rfl dX10_sent_9 ?_
  refine sn_top (y := nI (rS w.1)) (h3) ?_
  refine lv_iconst (v := nI 1) hx hb dX10_sent_12 (by decide) ?_
  refine lv_isub hx hb dX10_sent_13 ?_
  refine sg_ci (sg_runS (d := 0) (As := [.int x, .int (nI 0), .int ((nI (rS w.1)) - (nI 1))]) (rest := []) hx hb hml hts hown hK hM (c_isOutside l G b σ x (nI 0) ((nI (rS w.1)) - (nI 1))) mi_X10_isOutside wl_X10_60 rfl hl.1 rfl (Nat.le_of_ble_eq_true rfl) dX10_sent_14 ⟨by decide, by decide⟩ ⟨Nat.le_refl 0, Nat.le_refl 0⟩) hM sgA (fun r_14 σ_14 H locs hp_14 hM => ?_)
  obtain ⟨hr_14, hs_14⟩ := hp_14; subst r_14; subst σ_14
  refine sn_ifz_eq (tgt := 23) hx hb dX10_sent_17 (by decide) (fun d1 => ?_) (fun d1 => ?_)
  · obtain ⟨k, hk, rfl⟩ := ixB_t (by omega) (not_f d1)
    have hl : lv_has ls 3 [(0, .ref (b + 0)), (1, .int (nI k)), (2, .int what)] := hl
    refine lv_aload_n hx hb dX10_sent_23 rfl (lv_at hl 0 rfl) ?_
    refine sg_get (v := .ref (b + 1)) hx hb hts hown hK hM (sh0 kc_0) (kd_lt kc_0 (by decide)) rfl inX10 0 (by decide) wf_X10_10 rfl dX10_sent_24 ?_
    refine sg_get (v := .ref (b + 3)) hx hb hts hown hK hM (sh1 kc_1) (kd_lt kc_1 (by decide)) rfl inX3 1 (by decide) wf_X10_89 rfl dX10_sent_27 ?_
    refine lv_iload_n hx hb dX10_sent_30 rfl (lv_at hl 1 rfl) ?_
    refine lv_iload_n hx hb dX10_sent_31 rfl (lv_at hl 2 rfl) ?_
    refine sg_ci (sg_runV (d := 0) (As := [.int (nI k), .int what]) (rest := []) hx hb hml hts hown hK hM (c_Row_part l G b σ 3 k what kc_3 (by omega)) mi_X7_partOf wl_X10_209 (sh3 kc_3) (kd_lt kc_3 (by decide)) rfl rfl rfl hl.1 rfl (Nat.le_of_ble_eq_true rfl) dX10_sent_32 ⟨by decide, by decide⟩ ⟨Nat.le_refl 0, Nat.le_refl 0⟩) hM sgA (fun r_32 σ_32 H locs hp_32 hM => ?_)
    obtain ⟨hr_32, hs_32⟩ := hp_32; subst r_32; subst σ_32
    exact hret _ _ _ _ _ _ dX10_sent_35 hM (⟨by rw [F_sent_in hk hS24]; have q := hA.2.2.2.1 k hk; exact partV_swp q.1 q.2.1 q.2.2.1 q.2.2.2, hI, fun _ _ => rfl⟩)
  · refine lv_ldc (v := (-1000000001)) hx hb hown (hts (Cond.constant RX10 139 ((-1000000001))) wk_X10_139) dX10_sent_20 ?_
    exact hret _ _ _ _ _ _ dX10_sent_22 hM (⟨by unfold F_sent ixB; rw [not_t d1]; rfl, hI, fun _ _ => rfl⟩)
set_option maxHeartbeats 4000000 in
set_option maxRecDepth 100000 in
theorem x_heard (l : Launch) (G : GT) (b : Nat) (σ : Mem) (w : World) (hI : ICw σ w) (x what : Int32) : KI l G b yX10_heard cX10_heard 3 3 σ [.ref (b + 0), .int x, .int what] (fun r σ' => r = F_heard w.1 x what ∧ ICw σ' w ∧ ∀ k, 131 ≤ k → σ' k = σ k) := by
  refine sg_metI [.ref (b + 0), .int x, .int what] (by decide) (Nat.le_of_ble_eq_true rfl) ?_
  intro vp ve vs vm args below meth vc ls Q hx hb hml hown hts hK hM hl hret
  have hl : lv_has ls 3 [(0, .ref (b + 0)), (1, .int x), (2, .int what)] := hl
  obtain ⟨hR, hA, ⟨o, hPI⟩, hJ⟩ := id hI
  have hc : CodeAt σ 2 (rM w.1) (rG w.1) (rH w.1) := hA.1
  have h3 : σ 3 0 = nI (rS w.1) := hA.2.2.1
  have h8 : σ 8 0 = nI (rN w.1) := hA.2.2.2.2.1
  have hE : σ 1 3 = rE w.1 := hA.2.1
  have hS24 := hR.2.1.1
  have hN24 := hR.2.1.2
  have hm8 := p2_le hR.1.1.2
  refine lv_iload_n hx hb dX10_heard_0 rfl (lv_at hl 1 rfl) ?_
  refine lv_iconst (v := nI 0) hx hb dX10_heard_1 (by decide) ?_
  refine lv_aload_n hx hb dX10_heard_2 rfl (lv_at hl 0 rfl) ?_
  refine sg_get (v := .ref (b + 1)) hx hb hts hown hK hM (sh0 kc_0) (kd_lt kc_0 (by decide)) rfl inX10 0 (by decide) wf_X10_10 rfl dX10_heard_3 ?_
  refine sg_get (v := .ref (b + 8)) hx hb hts hown hK hM (sh1 kc_1) (kd_lt kc_1 (by decide)) rfl inX3 2 (by decide) wf_X10_104 rfl dX10_heard_6 ?_
  refine sg_get (v := .int (σ 8 0)) hx hb hts hown hK hM (sh5 kc_8) (kd_lt kc_8 (by decide)) rfl inX6 0 (by decide) wf_X10_114 rfl dX10_heard_9 ?_
  refine sn_top (y := nI (rN w.1)) (h8) ?_
  refine lv_iconst (v := nI 1) hx hb dX10_heard_12 (by decide) ?_
  refine lv_isub hx hb dX10_heard_13 ?_
  refine sg_ci (sg_runS (d := 0) (As := [.int x, .int (nI 0), .int ((nI (rN w.1)) - (nI 1))]) (rest := []) hx hb hml hts hown hK hM (c_isOutside l G b σ x (nI 0) ((nI (rN w.1)) - (nI 1))) mi_X10_isOutside wl_X10_60 rfl hl.1 rfl (Nat.le_of_ble_eq_true rfl) dX10_heard_14 ⟨by decide, by decide⟩ ⟨Nat.le_refl 0, Nat.le_refl 0⟩) hM sgA (fun r_14 σ_14 H locs hp_14 hM => ?_)
  obtain ⟨hr_14, hs_14⟩ := hp_14; subst r_14; subst σ_14
  refine sn_ifz_eq (tgt := 23) hx hb dX10_heard_17 (by decide) (fun d1 => ?_) (fun d1 => ?_)
  · obtain ⟨k, hk, rfl⟩ := ixB_t (by omega) (not_f d1)
    have hxy := hA.2.2.2.2.2 k hk
    have hl : lv_has ls 3 [(0, .ref (b + 0)), (1, .int (nI k)), (2, .int what)] := hl
    refine lv_iload_n hx hb dX10_heard_23 rfl (lv_at hl 2 rfl) ?_
    rcases swc what 2 with c_24 | ⟨j, hj, c_24⟩
    · refine lv_tableOut (tgt := 106) hx hb dX10_heard_24 c_24 (by decide) ?_
      refine lv_ldc (v := (-1000000002)) hx hb hown (hts (Cond.constant RX10 59 ((-1000000002))) wk_X10_59) dX10_heard_106 ?_
      exact hret _ _ _ _ _ _ dX10_heard_108 hM (⟨by rw [F_heard_in hk hN24, swp_out c_24 rfl], hI, fun _ _ => rfl⟩)
    · match j, hj with
      | 0, _ =>
        subst c_24
        refine lv_tableIn (tgt := 52) (off := 28) hx hb dX10_heard_24 (by decide) (by decide) (by decide) (by decide) ?_
        have hl : lv_has ls 3 [(0, .ref (b + 0)), (1, .int (nI k)), (2, .int (nI 0))] := hl
        refine lv_aload_n hx hb dX10_heard_52 rfl (lv_at hl 0 rfl) ?_
        refine sg_get (v := .ref (b + 1)) hx hb hts hown hK hM (sh0 kc_0) (kd_lt kc_0 (by decide)) rfl inX10 0 (by decide) wf_X10_10 rfl dX10_heard_53 ?_
        refine sg_get (v := .ref (b + 8)) hx hb hts hown hK hM (sh1 kc_1) (kd_lt kc_1 (by decide)) rfl inX3 2 (by decide) wf_X10_104 rfl dX10_heard_56 ?_
        refine sg_get (v := .ref (b + 9)) hx hb hts hown hK hM (sh5 kc_8) (kd_lt kc_8 (by decide)) rfl inX6 1 (by decide) wf_X10_212 rfl dX10_heard_59 ?_
        refine lv_iload_n hx hb dX10_heard_62 rfl (lv_at hl 1 rfl) ?_
        refine sg_iald hx hb hK hM (sh4 kc_9) (kd_lt kc_9 (by decide)) (i := k) (by omega) (by decide) dX10_heard_63 ?_
        refine sn_top (y := rX w.1 k) (hxy.1) ?_
        exact hret _ _ _ _ _ _ dX10_heard_64 hM (⟨by rw [F_heard_in hk hN24, swp_in 0 (Nat.le_of_ble_eq_true rfl) (Nat.le_of_ble_eq_true rfl)]; rfl, hI, fun _ _ => rfl⟩)
      | 1, _ =>
        subst c_24
        refine lv_tableIn (tgt := 65) (off := 41) hx hb dX10_heard_24 (by decide) (by decide) (by decide) (by decide) ?_
        have hl : lv_has ls 3 [(0, .ref (b + 0)), (1, .int (nI k)), (2, .int (nI 1))] := hl
        refine lv_aload_n hx hb dX10_heard_65 rfl (lv_at hl 0 rfl) ?_
        refine sg_get (v := .ref (b + 1)) hx hb hts hown hK hM (sh0 kc_0) (kd_lt kc_0 (by decide)) rfl inX10 0 (by decide) wf_X10_10 rfl dX10_heard_66 ?_
        refine sg_get (v := .ref (b + 8)) hx hb hts hown hK hM (sh1 kc_1) (kd_lt kc_1 (by decide)) rfl inX3 2 (by decide) wf_X10_104 rfl dX10_heard_69 ?_
        refine sg_get (v := .ref (b + 10)) hx hb hts hown hK hM (sh5 kc_8) (kd_lt kc_8 (by decide)) rfl inX6 2 (by decide) wf_X10_216 rfl dX10_heard_72 ?_
        refine lv_iload_n hx hb dX10_heard_75 rfl (lv_at hl 1 rfl) ?_
        refine sg_iald hx hb hK hM (sh4 kc_10) (kd_lt kc_10 (by decide)) (i := k) (by omega) (by decide) dX10_heard_76 ?_
        refine sn_top (y := rY w.1 k) (hxy.2) ?_
        exact hret _ _ _ _ _ _ dX10_heard_77 hM (⟨by rw [F_heard_in hk hN24, swp_in 1 (Nat.le_of_ble_eq_true rfl) (Nat.le_of_ble_eq_true rfl)]; rfl, hI, fun _ _ => rfl⟩)
      | 2, _ =>
        subst c_24
        refine lv_tableIn (tgt := 78) (off := 54) hx hb dX10_heard_24 (by decide) (by decide) (by decide) (by decide) ?_
        have hl : lv_has ls 3 [(0, .ref (b + 0)), (1, .int (nI k)), (2, .int (nI 2))] := hl
        refine lv_aload_n hx hb dX10_heard_78 rfl (lv_at hl 0 rfl) ?_
        refine sg_get (v := .ref (b + 1)) hx hb hts hown hK hM (sh0 kc_0) (kd_lt kc_0 (by decide)) rfl inX10 0 (by decide) wf_X10_10 rfl dX10_heard_79 ?_
        refine sg_get (v := .ref (b + 8)) hx hb hts hown hK hM (sh1 kc_1) (kd_lt kc_1 (by decide)) rfl inX3 2 (by decide) wf_X10_104 rfl dX10_heard_82 ?_
        refine sg_get (v := .ref (b + 9)) hx hb hts hown hK hM (sh5 kc_8) (kd_lt kc_8 (by decide)) rfl inX6 1 (by decide) wf_X10_212 rfl dX10_heard_85 ?_
        refine lv_iload_n hx hb dX10_heard_88 rfl (lv_at hl 1 rfl) ?_
        refine sg_iald hx hb hK hM (sh4 kc_9) (kd_lt kc_9 (by decide)) (i := k) (by omega) (by decide) dX10_heard_89 ?_
        refine sn_top (y := rX w.1 k) (hxy.1) ?_
        refine lv_aload_n hx hb dX10_heard_90 rfl (lv_at hl 0 rfl) ?_
        refine sg_get (v := .ref (b + 1)) hx hb hts hown hK hM (sh0 kc_0) (kd_lt kc_0 (by decide)) rfl inX10 0 (by decide) wf_X10_10 rfl dX10_heard_91 ?_
        refine sg_get (v := .ref (b + 8)) hx hb hts hown hK hM (sh1 kc_1) (kd_lt kc_1 (by decide)) rfl inX3 2 (by decide) wf_X10_104 rfl dX10_heard_94 ?_
        refine sg_get (v := .ref (b + 10)) hx hb hts hown hK hM (sh5 kc_8) (kd_lt kc_8 (by decide)) rfl inX6 2 (by decide) wf_X10_216 rfl dX10_heard_97 ?_
        refine lv_iload_n hx hb dX10_heard_100 rfl (lv_at hl 1 rfl) ?_
        refine sg_iald hx hb hK hM (sh4 kc_10) (kd_lt kc_10 (by decide)) (i := k) (by omega) (by decide) dX10_heard_101 ?_
        refine sn_top (y := rY w.1 k) (hxy.2) ?_
        refine sg_ci (sg_runS (d := 2) (As := [.int (rX w.1 k), .int (rY w.1 k)]) (rest := []) hx hb hml hts hown hK hM (c_g_pointAt l G b σ (rX w.1 k) (rY w.1 k)) mi_X1_pointAt wl_X10_219 rfl hl.1 rfl (Nat.le_of_ble_eq_true rfl) dX10_heard_102 ⟨by decide, by decide⟩ ⟨Nat.le_refl 0, Nat.le_refl 0⟩) hM sgA (fun r_102 σ_102 H locs hp_102 hM => ?_)
        obtain ⟨hr_102, hs_102⟩ := hp_102; subst r_102; subst σ_102
        exact hret _ _ _ _ _ _ dX10_heard_105 hM (⟨by rw [F_heard_in hk hN24, swp_in 2 (Nat.le_of_ble_eq_true rfl) (Nat.le_of_ble_eq_true rfl)]; rfl, hI, fun _ _ => rfl⟩)
      | j + 3, hj => exact absurd hj (by omega)
  · refine lv_ldc (v := (-1000000001)) hx hb hown (hts (Cond.constant RX10 139 ((-1000000001))) wk_X10_139) dX10_heard_20 ?_
    exact hret _ _ _ _ _ _ dX10_heard_22 hM (⟨by unfold F_heard ixB; rw [not_t d1]; rfl, hI, fun _ _ => rfl⟩)

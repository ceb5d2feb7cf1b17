theorem F_near_in {A : Rec} {k : Nat} {what : Int32} (hk : k < rN A) (h24 : rN A ≤ 24) (hw : inR what (nI 0) (nI 3) = true) (hd : dE A < NV) : F_nearest A (nI k) what = swp what [nI (uA A (rN A) (rE A) k), nI (wA A (rN A) (rE A) k), nI (pA A (rN A) (rE A) k), nI (sA A (rN A) (rE A) (k + 1))] (-1000000002) := by
  unfold F_nearest
  rw [ixB_n hk (by omega), if_pos (by rfl), hw, if_pos (by rfl), if_pos hd, nI_clamp (by omega)]
theorem F_near_n {A : Rec} {k : Nat} {what : Int32} (hk : k < rN A) (h24 : rN A ≤ 24) (hw : inR what (nI 0) (nI 3) = true) (hd : ¬ dE A < NV) : F_nearest A (nI k) what = (-1) := by
  unfold F_nearest
  rw [ixB_n hk (by omega), if_pos (by rfl), hw, if_pos (by rfl), if_neg hd]
theorem F_near_o {A : Rec} {k : Nat} {what : Int32} (hk : k < rN A) (h24 : rN A ≤ 24) (hw : inR what (nI 0) (nI 3) = false) : F_nearest A (nI k) what = (-1000000002) := by
  unfold F_nearest
  rw [ixB_n hk (by omega), if_pos (by rfl), hw]
  rfl
theorem F_ahead_in {A : Rec} {k : Nat} {y : Int32} (h1 : stB y (rM A) = true) (hk : k ≤ rN A) (h24 : rN A ≤ 24) : F_ahead A (nI k) y = nI (dA A k y k 0) := by
  unfold F_ahead
  rw [h1, inR_n (by omega) (by omega) (by omega), decide_eq_true (by omega), if_pos (by rfl), if_pos (by rfl), nI_clamp (by omega)]
theorem F_ahead_o {A : Rec} {x y : Int32} (h1 : stB y (rM A) = true) (h2 : inR x (nI 0) (nI (rN A)) = false) : F_ahead A x y = (-1000000002) := by unfold F_ahead; rw [h1, h2]; rfl
theorem F_dec_in {A : Rec} {k t : Nat} (hk : k < rN A) (ht : t ≤ 23) (h24 : rN A ≤ 24) : F_decided A (nI k) (nI t) = if k + t + 1 ≤ rN A then nI (pA A (k + t + 1) (-1) k) else (-1) := by
  unfold F_decided
  rw [ixB_n hk (by omega), inR_n (by omega) (by omega) (by omega), decide_eq_true (by omega), if_pos (by rfl), if_pos (by rfl), nI_clamp (by omega), nI_clamp (by omega)]
theorem F_dec_o {A : Rec} {k : Nat} {y : Int32} (hk : k < rN A) (h24 : rN A ≤ 24) (h : inR y (nI 0) (nI 23) = false) : F_decided A (nI k) y = (-1000000002) := by
  unfold F_decided
  rw [ixB_n hk (by omega), if_pos (by rfl), h]
  rfl
theorem F_sign_in {A : Rec} {i : Nat} (hi : i < 2 ^ 31) : F_sign A (nI i) = if sgA' A ≤ i then (-1) else nI (sgV A i) := by
  unfold F_sign
  rw [if_neg (nI_pos hi), nI_clamp hi]
theorem sg_lt {A : Rec} (hR : ROk A) : sgA' A ≤ 60 := by
  have := hR.2.1.2
  unfold sgA'
  split <;> omega
/-- a sign's step is one of the row's -/
theorem sg_in {A : Rec} (hR : ROk A) {i : Nat} (h : i < sgA' A) (h8 : i % 9 ≠ 8) : dE A < NV ∧ i / 9 * 4 + i % 9 / 2 < rN A := by
  have := hR.2.1.2
  unfold sgA' at h
  split at h
  · rename_i q
    exact ⟨q.1, by omega⟩
  · omega
set_option maxHeartbeats 4000000 in
set_option maxRecDepth 100000 in
theorem x_nearest (l : Launch) (G : GT) (b : Nat) (σ : Mem) (w : World) (hI : ICw σ w) (x what : Int32) : KI l G b yX10_nearest cX10_nearest 3 6 σ [.ref (b + 0), .int x, .int what] (fun r σ' => r = F_nearest w.1 x what ∧ ICw σ' w ∧ ∀ k, 131 ≤ k → σ' k = σ k) := by
  refine sg_metI [.ref (b + 0), .int x, .int what] (by decide) (Nat.le_of_ble_eq_true rfl) ?_
  intro vp ve vs vm args below meth vc ls Q hx hb hml hown hts hK hM hl hret
  have hl : lv_has ls 3 [(0, .ref (b + 0)), (1, .int x), (2, .int what)] := hl
  obtain ⟨hR, hA, ⟨o, hPI⟩, hJ⟩ := id hI
  have hc : CodeAt σ 2 (rM w.1) (rG w.1) (rH w.1) := hA.1
  have h3 : σ 3 0 = nI (rS w.1) := hA.2.2.1
  have h8 : σ 8 0 = nI (rN w.1) := hA.2.2.2.2.1
  have hE : σ 1 3 = rE w.1 := hA.2.1
  have hS24 := hR.2.1.1
  have hN24 := hR.2.1.2
  have hm8 := p2_le hR.1.1.2
  refine lv_iload_n hx hb dX10_nearest_0 rfl (lv_at hl 1 rfl) ?_
  refine lv_iconst (v := nI 0) hx hb dX10_nearest_1 (by decide) ?_
  refine lv_aload_n hx hb dX10_nearest_2 rfl (lv_at hl 0 rfl) ?_
  refine sg_get (v := .ref (b + 1)) hx hb hts hown hK hM (sh0 kc_0) (kd_lt kc_0 (by decide)) rfl inX10 0 (by decide) wf_X10_10 rfl dX10_nearest_3 ?_
  refine sg_get (v := .ref (b + 8)) hx hb hts hown hK hM (sh1 kc_1) (kd_lt kc_1 (by decide)) rfl inX3 2 (by decide) wf_X10_104 rfl dX10_nearest_6 ?_
  refine sg_get (v := .int (σ 8 0)) hx hb hts hown hK hM (sh5 kc_8) (kd_lt kc_8 (by decide)) rfl inX6 0 (by decide) wf_X10_114 rfl dX10_nearest_9 ?_
  refine sn_top (y := nI (rN w.1)) (h8) ?_
  refine lv_iconst (v := nI 1) hx hb dX10_nearest_12 (by decide) ?_
  refine lv_isub hx hb dX10_nearest_13 ?_
  refine sg_ci (sg_runS (d := 0) (As := [.int x, .int (nI 0), .int ((nI (rN w.1)) - (nI 1))]) (rest := []) hx hb hml hts hown hK hM (c_isOutside l G b σ x (nI 0) ((nI (rN w.1)) - (nI 1))) mi_X10_isOutside wl_X10_60 rfl hl.1 rfl (Nat.le_of_ble_eq_true rfl) dX10_nearest_14 ⟨by decide, by decide⟩ ⟨Nat.le_refl 0, Nat.le_refl 0⟩) hM sgA (fun r_14 σ_14 H locs hp_14 hM => ?_)
  obtain ⟨hr_14, hs_14⟩ := hp_14; subst r_14; subst σ_14
  refine sn_ifz_eq (tgt := 23) hx hb dX10_nearest_17 (by decide) (fun d1 => ?_) (fun d1 => ?_)
  · obtain ⟨k, hk, rfl⟩ := ixB_t (by omega) (not_f d1)
    have hl : lv_has ls 3 [(0, .ref (b + 0)), (1, .int (nI k)), (2, .int what)] := hl
    refine lv_iload_n hx hb dX10_nearest_23 rfl (lv_at hl 2 rfl) ?_
    refine lv_iconst (v := nI 0) hx hb dX10_nearest_24 (by decide) ?_
    refine lv_iconst (v := nI 3) hx hb dX10_nearest_25 (by decide) ?_
    refine sg_ci (sg_runS (d := 0) (As := [.int what, .int (nI 0), .int (nI 3)]) (rest := []) hx hb hml hts hown hK hM (c_isOutside l G b σ what (nI 0) (nI 3)) mi_X10_isOutside wl_X10_60 rfl hl.1 rfl (Nat.le_of_ble_eq_true rfl) dX10_nearest_26 ⟨by decide, by decide⟩ ⟨Nat.le_refl 0, Nat.le_refl 0⟩) hM sgA (fun r_26 σ_26 H locs hp_26 hM => ?_)
    obtain ⟨hr_26, hs_26⟩ := hp_26; subst r_26; subst σ_26
    refine sn_ifz_eq (tgt := 35) hx hb dX10_nearest_29 (by decide) (fun d2 => ?_) (fun d2 => ?_)
    · refine lv_aload_n hx hb dX10_nearest_35 rfl (lv_at hl 0 rfl) ?_
      refine sg_ci (sg_runV (d := 5) (As := []) (rest := []) hx hb hml hts hown hK hM (c_seekNearest l G b σ w.1 hR hA) mi_X10_seekNearest wl_X10_157 (sh0 kc_0) (kd_lt kc_0 (by decide)) rfl rfl rfl hl.1 rfl (Nat.le_of_ble_eq_true rfl) dX10_nearest_36 ⟨by decide, by decide⟩ ⟨Nat.le_refl 0, Nat.le_refl 0⟩) hM sgA (fun r1 σ1 H locs hq hM => ?_)
      obtain ⟨hr1, hq, hq2⟩ := hq
      subst hr1
      refine lv_ldc (v := nI 99999999) hx hb hown (hts (Cond.constant RX10 222 (nI 99999999)) wk_X10_222) dX10_nearest_39 ?_
      refine sn_icmp_ne (tgt := 46) hx hb dX10_nearest_41 (by decide) (by have := dE_le hR; have : NV = 99999999 := rfl; omega) (by omega) (fun d3 => ?_) (fun d3 => ?_)
      · refine lv_aload_n hx hb dX10_nearest_46 rfl (lv_at hl 0 rfl) ?_
        refine sg_get (v := .ref (b + 116)) hx hb hts hown hK hM (sh0 kc_0) (kd_lt kc_0 (by decide)) rfl inX10 5 (by decide) wf_X10_41 rfl dX10_nearest_47 ?_
        refine sg_get (v := .ref (b + 117)) hx hb hts hown hK hM (sh10 kc_116) (kd_lt kc_116 (by decide)) rfl inX8 0 (by decide) wf_X10_223 rfl dX10_nearest_50 ?_
        refine lv_iload_n hx hb dX10_nearest_53 rfl (lv_at hl 1 rfl) ?_
        refine lv_iload_n hx hb dX10_nearest_54 rfl (lv_at hl 2 rfl) ?_
        refine sg_ci (sg_runV (d := 0) (As := [.int (nI k), .int what]) (rest := []) hx hb hml hts hown hK hM (c_Row_part l G b σ1 117 k what kc_117 (by omega)) mi_X7_partOf wl_X10_209 (sh3 kc_117) (kd_lt kc_117 (by decide)) rfl rfl rfl hl.1 rfl (Nat.le_of_ble_eq_true rfl) dX10_nearest_55 ⟨by decide, by decide⟩ ⟨Nat.le_refl 0, Nat.le_refl 0⟩) hM sgA (fun r_55 σ_55 H locs hp_55 hM => ?_)
        obtain ⟨hr_55, hs_55⟩ := hp_55; subst r_55; subst σ_55
        have hd : dE w.1 < NV := Nat.lt_of_le_of_ne (dE_le hR) d3
        have q := (hq.1 hd).2 k hk
        exact hret _ _ _ _ _ _ dX10_nearest_58 hM (⟨by rw [F_near_in hk hN24 (not_f d2) hd]; exact partV_swp q.1 q.2.1 q.2.2.1 q.2.2.2, IC.keep hI (fun k hk => hq2 k (Or.inl (by omega))), fun k hk => hq2 k (Or.inr (by omega))⟩)
      · refine lv_iconst (v := (-1)) hx hb dX10_nearest_44 (by decide) ?_
        exact hret _ _ _ _ _ _ dX10_nearest_45 hM (⟨(F_near_n hk hN24 (not_f d2) (by have : NV = 99999999 := rfl; omega)).symm, IC.keep hI (fun k hk => hq2 k (Or.inl (by omega))), fun k hk => hq2 k (Or.inr (by omega))⟩)
    · refine lv_ldc (v := (-1000000002)) hx hb hown (hts (Cond.constant RX10 59 ((-1000000002))) wk_X10_59) dX10_nearest_32 ?_
      exact hret _ _ _ _ _ _ dX10_nearest_34 hM (⟨(F_near_o hk hN24 (not_t d2)).symm, hI, fun _ _ => rfl⟩)
  · refine lv_ldc (v := (-1000000001)) hx hb hown (hts (Cond.constant RX10 139 ((-1000000001))) wk_X10_139) dX10_nearest_20 ?_
    exact hret _ _ _ _ _ _ dX10_nearest_22 hM (⟨by unfold F_nearest ixB; rw [not_t d1]; rfl, hI, fun _ _ => rfl⟩)
set_option maxHeartbeats 4000000 in
set_option maxRecDepth 100000 in
theorem x_ahead (l : Launch) (G : GT) (b : Nat) (σ : Mem) (w : World) (hI : ICw σ w) (x y : Int32) : KI l G b yX10_ahead cX10_ahead 3 5 σ [.ref (b + 0), .int x, .int y] (fun r σ' => r = F_ahead w.1 x y ∧ ICw σ' w ∧ ∀ k, 131 ≤ k → σ' k = σ k) := by
  refine sg_metI [.ref (b + 0), .int x, .int y] (by decide) (Nat.le_of_ble_eq_true rfl) ?_
  intro vp ve vs vm args below meth vc ls Q hx hb hml hown hts hK hM hl hret
  have hl : lv_has ls 3 [(0, .ref (b + 0)), (1, .int x), (2, .int y)] := hl
  obtain ⟨hR, hA, ⟨o, hPI⟩, hJ⟩ := id hI
  have hc : CodeAt σ 2 (rM w.1) (rG w.1) (rH w.1) := hA.1
  have h3 : σ 3 0 = nI (rS w.1) := hA.2.2.1
  have h8 : σ 8 0 = nI (rN w.1) := hA.2.2.2.2.1
  have hE : σ 1 3 = rE w.1 := hA.2.1
  have hS24 := hR.2.1.1
  have hN24 := hR.2.1.2
  have hm8 := p2_le hR.1.1.2
  refine lv_aload_n hx hb dX10_ahead_0 rfl (lv_at hl 0 rfl) ?_
  refine lv_iload_n hx hb dX10_ahead_1 rfl (lv_at hl 2 rfl) ?_
  refine sg_ci (sg_runV (d := 1) (As := [.int y]) (rest := []) hx hb hml hts hown hK hM (c_isState l G b σ (rM w.1) (rG w.1) (rH w.1) y hc) mi_X10_isState wl_X10_135 (sh0 kc_0) (kd_lt kc_0 (by decide)) rfl rfl rfl hl.1 rfl (Nat.le_of_ble_eq_true rfl) dX10_ahead_2 ⟨by decide, by decide⟩ ⟨Nat.le_refl 0, Nat.le_refl 0⟩) hM sgA (fun r_2 σ_2 H locs hp_2 hM => ?_)
  obtain ⟨hr_2, hs_2⟩ := hp_2; subst r_2; subst σ_2
  refine sn_ifz_ne (tgt := 11) hx hb dX10_ahead_5 (by decide) (fun d1 => ?_) (fun d1 => ?_)
  · refine lv_iload_n hx hb dX10_ahead_11 rfl (lv_at hl 1 rfl) ?_
    refine lv_iconst (v := nI 0) hx hb dX10_ahead_12 (by decide) ?_
    refine lv_aload_n hx hb dX10_ahead_13 rfl (lv_at hl 0 rfl) ?_
    refine sg_get (v := .ref (b + 1)) hx hb hts hown hK hM (sh0 kc_0) (kd_lt kc_0 (by decide)) rfl inX10 0 (by decide) wf_X10_10 rfl dX10_ahead_14 ?_
    refine sg_get (v := .ref (b + 8)) hx hb hts hown hK hM (sh1 kc_1) (kd_lt kc_1 (by decide)) rfl inX3 2 (by decide) wf_X10_104 rfl dX10_ahead_17 ?_
    refine sg_get (v := .int (σ 8 0)) hx hb hts hown hK hM (sh5 kc_8) (kd_lt kc_8 (by decide)) rfl inX6 0 (by decide) wf_X10_114 rfl dX10_ahead_20 ?_
    refine sn_top (y := nI (rN w.1)) (h8) ?_
    refine sg_ci (sg_runS (d := 0) (As := [.int x, .int (nI 0), .int (nI (rN w.1))]) (rest := []) hx hb hml hts hown hK hM (c_isOutside l G b σ x (nI 0) (nI (rN w.1))) mi_X10_isOutside wl_X10_60 rfl hl.1 rfl (Nat.le_of_ble_eq_true rfl) dX10_ahead_23 ⟨by decide, by decide⟩ ⟨Nat.le_refl 0, Nat.le_refl 0⟩) hM sgA (fun r_23 σ_23 H locs hp_23 hM => ?_)
    obtain ⟨hr_23, hs_23⟩ := hp_23; subst r_23; subst σ_23
    refine sn_ifz_eq (tgt := 32) hx hb dX10_ahead_26 (by decide) (fun d2 => ?_) (fun d2 => ?_)
    · obtain ⟨k, hk, rfl⟩ := inR_nat (by omega) (not_f d2)
      have hl : lv_has ls 3 [(0, .ref (b + 0)), (1, .int (nI k)), (2, .int y)] := hl
      refine lv_aload_n hx hb dX10_ahead_32 rfl (lv_at hl 0 rfl) ?_
      refine sg_get (v := .ref (b + 116)) hx hb hts hown hK hM (sh0 kc_0) (kd_lt kc_0 (by decide)) rfl inX10 5 (by decide) wf_X10_41 rfl dX10_ahead_33 ?_
      refine lv_aload_n hx hb dX10_ahead_36 rfl (lv_at hl 0 rfl) ?_
      refine sg_get (v := .ref (b + 1)) hx hb hts hown hK hM (sh0 kc_0) (kd_lt kc_0 (by decide)) rfl inX10 0 (by decide) wf_X10_10 rfl dX10_ahead_37 ?_
      refine lv_iload_n hx hb dX10_ahead_40 rfl (lv_at hl 1 rfl) ?_
      refine lv_iload_n hx hb dX10_ahead_41 rfl (lv_at hl 2 rfl) ?_
      refine sg_ci (sg_runV (d := 4) (As := [.ref (b + 1), .int (nI k), .int y]) (rest := []) hx hb hml hts hown hK hM (c_Se_seek l G b σ w.1 k y hR hA hk) mi_X8_seek wl_X10_224 (sh10 kc_116) (kd_lt kc_116 (by decide)) rfl rfl rfl hl.1 rfl (Nat.le_of_ble_eq_true rfl) dX10_ahead_42 ⟨by decide, by decide⟩ ⟨Nat.le_refl 0, Nat.le_refl 0⟩) hM sgA (fun r1 σ1 H locs hq hM => ?_)
      exact hret _ _ _ _ _ _ dX10_ahead_45 hM (⟨by rw [hq.1, F_ahead_in d1 hk hN24], IC.keep hI (fun k hk => hq.2.2.2 k (Or.inl (by omega))), fun k hk => hq.2.2.2 k (Or.inr (by omega))⟩)
    · refine lv_ldc (v := (-1000000002)) hx hb hown (hts (Cond.constant RX10 59 ((-1000000002))) wk_X10_59) dX10_ahead_29 ?_
      exact hret _ _ _ _ _ _ dX10_ahead_31 hM (⟨(F_ahead_o d1 (not_t d2)).symm, hI, fun _ _ => rfl⟩)
  · refine lv_ldc (v := (-1000000001)) hx hb hown (hts (Cond.constant RX10 139 ((-1000000001))) wk_X10_139) dX10_ahead_8 ?_
    exact hret _ _ _ _ _ _ dX10_ahead_10 hM (⟨by unfold F_ahead; rw [d1]; rfl, hI, fun _ _ => rfl⟩)
set_option maxHeartbeats 4000000 in
set_option maxRecDepth 100000 in
theorem x_decided (l : Launch) (G : GT) (b : Nat) (σ : Mem) (w : World) (hI : ICw σ w) (x y : Int32) : KI l G b yX10_decided cX10_decided 4 5 σ [.ref (b + 0), .int x, .int y] (fun r σ' => r = F_decided w.1 x y ∧ ICw σ' w ∧ ∀ k, 131 ≤ k → σ' k = σ k) := by
  refine sg_metI [.ref (b + 0), .int x, .int y] (by decide) (Nat.le_of_ble_eq_true rfl) ?_
  intro vp ve vs vm args below meth vc ls Q hx hb hml hown hts hK hM hl hret
  have hl : lv_has ls 4 [(0, .ref (b + 0)), (1, .int x), (2, .int y)] := hl
  obtain ⟨hR, hA, ⟨o, hPI⟩, hJ⟩ := id hI
  have hc : CodeAt σ 2 (rM w.1) (rG w.1) (rH w.1) := hA.1
  have h3 : σ 3 0 = nI (rS w.1) := hA.2.2.1
  have h8 : σ 8 0 = nI (rN w.1) := hA.2.2.2.2.1
  have hE : σ 1 3 = rE w.1 := hA.2.1
  have hS24 := hR.2.1.1
  have hN24 := hR.2.1.2
  have hm8 := p2_le hR.1.1.2
  refine lv_iload_n hx hb dX10_decided_0 rfl (lv_at hl 1 rfl) ?_
  refine lv_iconst (v := nI 0) hx hb dX10_decided_1 (by decide) ?_
  refine lv_aload_n hx hb dX10_decided_2 rfl (lv_at hl 0 rfl) ?_
  refine sg_get (v := .ref (b + 1)) hx hb hts hown hK hM (sh0 kc_0) (kd_lt kc_0 (by decide)) rfl inX10 0 (by decide) wf_X10_10 rfl dX10_decided_3 ?_
  refine sg_get (v := .ref (b + 8)) hx hb hts hown hK hM (sh1 kc_1) (kd_lt kc_1 (by decide)) rfl inX3 2 (by decide) wf_X10_104 rfl dX10_decided_6 ?_
  refine sg_get (v := .int (σ 8 0)) hx hb hts hown hK hM (sh5 kc_8) (kd_lt kc_8 (by decide)) rfl inX6 0 (by decide) wf_X10_114 rfl dX10_decided_9 ?_
  refine sn_top (y := nI (rN w.1)) (h8) ?_
  refine lv_iconst (v := nI 1) hx hb dX10_decided_12 (by decide) ?_
  refine lv_isub hx hb dX10_decided_13 ?_
  refine sg_ci (sg_runS (d := 0) (As := [.int x, .int (nI 0), .int ((nI (rN w.1)) - (nI 1))]) (rest := []) hx hb hml hts hown hK hM (c_isOutside l G b σ x (nI 0) ((nI (rN w.1)) - (nI 1))) mi_X10_isOutside wl_X10_60 rfl hl.1 rfl (Nat.le_of_ble_eq_true rfl) dX10_decided_14 ⟨by decide, by decide⟩ ⟨Nat.le_refl 0, Nat.le_refl 0⟩) hM sgA (fun r_14 σ_14 H locs hp_14 hM => ?_)
  obtain ⟨hr_14, hs_14⟩ := hp_14; subst r_14; subst σ_14
  refine sn_ifz_eq (tgt := 23) hx hb dX10_decided_17 (by decide) (fun d1 => ?_) (fun d1 => ?_)
  · obtain ⟨k, hk, rfl⟩ := ixB_t (by omega) (not_f d1)
    have hl : lv_has ls 4 [(0, .ref (b + 0)), (1, .int (nI k)), (2, .int y)] := hl
    refine lv_iload_n hx hb dX10_decided_23 rfl (lv_at hl 2 rfl) ?_
    refine lv_iconst (v := nI 0) hx hb dX10_decided_24 (by decide) ?_
    refine lv_bipush (v := nI 23) hx hb dX10_decided_25 (by decide) ?_
    refine sg_ci (sg_runS (d := 0) (As := [.int y, .int (nI 0), .int (nI 23)]) (rest := []) hx hb hml hts hown hK hM (c_isOutside l G b σ y (nI 0) (nI 23)) mi_X10_isOutside wl_X10_60 rfl hl.1 rfl (Nat.le_of_ble_eq_true rfl) dX10_decided_27 ⟨by decide, by decide⟩ ⟨Nat.le_refl 0, Nat.le_refl 0⟩) hM sgA (fun r_27 σ_27 H locs hp_27 hM => ?_)
    obtain ⟨hr_27, hs_27⟩ := hp_27; subst r_27; subst σ_27
    refine sn_ifz_eq (tgt := 36) hx hb dX10_decided_30 (by decide) (fun d2 => ?_) (fun d2 => ?_)
    · obtain ⟨t, ht, rfl⟩ := inR_nat (by decide) (not_f d2)
      have hl : lv_has ls 4 [(0, .ref (b + 0)), (1, .int (nI k)), (2, .int (nI t))] := hl
      refine lv_iload_n hx hb dX10_decided_36 rfl (lv_at hl 1 rfl) ?_
      refine lv_iload_n hx hb dX10_decided_37 rfl (lv_at hl 2 rfl) ?_
      refine sn_iadd hx hb dX10_decided_38 ?_
      refine lv_iconst (v := nI 1) hx hb dX10_decided_39 (by decide) ?_
      refine sn_iadd hx hb dX10_decided_40 ?_
      refine lv_istore_n (lv' := [(3, .int (nI ((k + t) + 1))), (0, .ref (b + 0)), (1, .int (nI k)), (2, .int (nI t))]) hx hb dX10_decided_41 rfl hl (by decide) rfl (fun ls hl => ?_)
      refine lv_iload_n hx hb dX10_decided_42 rfl (lv_at hl 0 rfl) ?_
      refine lv_aload_n hx hb dX10_decided_43 rfl (lv_at hl 1 rfl) ?_
      refine sg_get (v := .ref (b + 1)) hx hb hts hown hK hM (sh0 kc_0) (kd_lt kc_0 (by decide)) rfl inX10 0 (by decide) wf_X10_10 rfl dX10_decided_44 ?_
      refine sg_get (v := .ref (b + 8)) hx hb hts hown hK hM (sh1 kc_1) (kd_lt kc_1 (by decide)) rfl inX3 2 (by decide) wf_X10_104 rfl dX10_decided_47 ?_
      refine sg_get (v := .int (σ 8 0)) hx hb hts hown hK hM (sh5 kc_8) (kd_lt kc_8 (by decide)) rfl inX6 0 (by decide) wf_X10_114 rfl dX10_decided_50 ?_
      refine sn_top (y := nI (rN w.1)) (h8) ?_
      refine sn_icmp_le (tgt := 58) hx hb dX10_decided_53 (by decide) (by omega) (by omega) (fun d3 => ?_) (fun d3 => ?_)
      · refine lv_aload_n hx hb dX10_decided_58 rfl (lv_at hl 1 rfl) ?_
        refine sg_get (v := .ref (b + 116)) hx hb hts hown hK hM (sh0 kc_0) (kd_lt kc_0 (by decide)) rfl inX10 5 (by decide) wf_X10_41 rfl dX10_decided_59 ?_
        refine lv_aload_n hx hb dX10_decided_62 rfl (lv_at hl 1 rfl) ?_
        refine sg_get (v := .ref (b + 1)) hx hb hts hown hK hM (sh0 kc_0) (kd_lt kc_0 (by decide)) rfl inX10 0 (by decide) wf_X10_10 rfl dX10_decided_63 ?_
        refine lv_iload_n hx hb dX10_decided_66 rfl (lv_at hl 0 rfl) ?_
        refine lv_iconst (v := (-1)) hx hb dX10_decided_67 (by decide) ?_
        refine sg_ci (sg_runV (d := 4) (As := [.ref (b + 1), .int (nI ((k + t) + 1)), .int (-1)]) (rest := []) hx hb hml hts hown hK hM (c_Se_seek l G b σ w.1 (k + t + 1) (-1) hR hA d3) mi_X8_seek wl_X10_224 (sh10 kc_116) (kd_lt kc_116 (by decide)) rfl rfl rfl hl.1 rfl (Nat.le_of_ble_eq_true rfl) dX10_decided_68 ⟨by decide, by decide⟩ ⟨Nat.le_refl 0, Nat.le_refl 0⟩) hM sgA (fun r1 σ1 H locs hq hM => ?_)
        refine lv_pop hx hb dX10_decided_71 rfl ?_
        refine lv_aload_n hx hb dX10_decided_72 rfl (lv_at hl 1 rfl) ?_
        refine sg_get (v := .ref (b + 116)) hx hb hts hown hK hM (sh0 kc_0) (kd_lt kc_0 (by decide)) rfl inX10 5 (by decide) wf_X10_41 rfl dX10_decided_73 ?_
        refine sg_get (v := .ref (b + 117)) hx hb hts hown hK hM (sh10 kc_116) (kd_lt kc_116 (by decide)) rfl inX8 0 (by decide) wf_X10_223 rfl dX10_decided_76 ?_
        refine sg_get (v := .ref (b + 120)) hx hb hts hown hK hM (sh3 kc_117) (kd_lt kc_117 (by decide)) rfl inX7 3 (by decide) wf_X10_228 rfl dX10_decided_79 ?_
        refine lv_iload_n hx hb dX10_decided_82 rfl (lv_at hl 2 rfl) ?_
        refine sg_iald hx hb hK hM (sh4 kc_120) (kd_lt kc_120 (by decide)) (i := k) (by omega) (by decide) dX10_decided_83 ?_
        refine sn_top (y := nI (pA w.1 (k + t + 1) (-1) k)) (((hq.2.1 (dA_none hR d3)).2 k (by omega)).2.2.1) ?_
        exact hret _ _ _ _ _ _ dX10_decided_84 hM (⟨by rw [F_dec_in hk ht hN24, if_pos d3], IC.keep hI (fun k hk => hq.2.2.2 k (Or.inl (by omega))), fun k hk => hq.2.2.2 k (Or.inr (by omega))⟩)
      · refine lv_iconst (v := (-1)) hx hb dX10_decided_56 (by decide) ?_
        exact hret _ _ _ _ _ _ dX10_decided_57 hM (⟨by rw [F_dec_in hk ht hN24, if_neg (by omega)], hI, fun _ _ => rfl⟩)
    · refine lv_ldc (v := (-1000000002)) hx hb hown (hts (Cond.constant RX10 59 ((-1000000002))) wk_X10_59) dX10_decided_33 ?_
      exact hret _ _ _ _ _ _ dX10_decided_35 hM (⟨(F_dec_o hk hN24 (not_t d2)).symm, hI, fun _ _ => rfl⟩)
  · refine lv_ldc (v := (-1000000001)) hx hb hown (hts (Cond.constant RX10 139 ((-1000000001))) wk_X10_139) dX10_decided_20 ?_
    exact hret _ _ _ _ _ _ dX10_decided_22 hM (⟨by unfold F_decided ixB; rw [not_t d1]; rfl, hI, fun _ _ => rfl⟩)
set_option maxHeartbeats 4000000 in
set_option maxRecDepth 100000 in
theorem x_cost (l : Launch) (G : GT) (b : Nat) (σ : Mem) (w : World) (hI : ICw σ w)  : KI l G b yX10_cost cX10_cost 4 2 σ [.ref (b + 0)] (fun r σ' => r = F_cost w.1 ∧ ICw σ' w ∧ ∀ k, 131 ≤ k → σ' k = σ k) := by
  refine sg_metI [.ref (b + 0)] (by decide) (Nat.le_of_ble_eq_true rfl) ?_
  intro vp ve vs vm args below meth vc ls Q hx hb hml hown hts hK hM hl hret
  have hl : lv_has ls 4 [(0, .ref (b + 0))] := hl
  obtain ⟨hR, hA, ⟨o, hPI⟩, hJ⟩ := id hI
  have hc : CodeAt σ 2 (rM w.1) (rG w.1) (rH w.1) := hA.1
  have h3 : σ 3 0 = nI (rS w.1) := hA.2.2.1
  have h8 : σ 8 0 = nI (rN w.1) := hA.2.2.2.2.1
  have hE : σ 1 3 = rE w.1 := hA.2.1
  have hS24 := hR.2.1.1
  have hN24 := hR.2.1.2
  have hm8 := p2_le hR.1.1.2
  refine lv_aload_n hx hb dX10_cost_0 rfl (lv_at hl 0 rfl) ?_
  refine sg_get (v := .ref (b + 1)) hx hb hts hown hK hM (sh0 kc_0) (kd_lt kc_0 (by decide)) rfl inX10 0 (by decide) wf_X10_10 rfl dX10_cost_1 ?_
  refine sg_get (v := .ref (b + 3)) hx hb hts hown hK hM (sh1 kc_1) (kd_lt kc_1 (by decide)) rfl inX3 1 (by decide) wf_X10_89 rfl dX10_cost_4 ?_
  refine sg_get (v := .int (σ 3 0)) hx hb hts hown hK hM (sh3 kc_3) (kd_lt kc_3 (by decide)) rfl inX7 0 (by decide) wf_X10_134 rfl dX10_cost_7 ?_
  refine sn_top (y := nI (rS w.1)) (h3) ?_
  refine lv_aload_n hx hb dX10_cost_10 rfl (lv_at hl 0 rfl) ?_
  refine sg_get (v := .ref (b + 1)) hx hb hts hown hK hM (sh0 kc_0) (kd_lt kc_0 (by decide)) rfl inX10 0 (by decide) wf_X10_10 rfl dX10_cost_11 ?_
  refine sg_get (v := .ref (b + 8)) hx hb hts hown hK hM (sh1 kc_1) (kd_lt kc_1 (by decide)) rfl inX3 2 (by decide) wf_X10_104 rfl dX10_cost_14 ?_
  refine sg_get (v := .int (σ 8 0)) hx hb hts hown hK hM (sh5 kc_8) (kd_lt kc_8 (by decide)) rfl inX6 0 (by decide) wf_X10_114 rfl dX10_cost_17 ?_
  refine sn_top (y := nI (rN w.1)) (h8) ?_
  refine va_mmin hx hb (by rw [hml]; exact hl.1.symm) hown (hts _ wl_X10_231) (hts _ ws_J9_min_7cf53) (hts _ wi_RJ9) (hts _ wc_J9_min_7cf53) (by decide) (Nat.le_of_ble_eq_true rfl) (Nat.le_refl 0) (Nat.le_refl 0) dX10_cost_20 ?_
  refine sn_top (y := nI (min (rS w.1) (rN w.1))) (q_min (by omega) (by omega)) ?_
  refine lv_istore_n (lv' := [(1, .int (nI (min (rS w.1) (rN w.1)))), (0, .ref (b + 0))]) hx hb dX10_cost_23 rfl hl (by decide) rfl (fun ls hl => ?_)
  refine lv_iconst (v := nI 0) hx hb dX10_cost_24 (by decide) ?_
  refine lv_istore_n (lv' := [(2, .int (nI 0)), (1, .int (nI (min (rS w.1) (rN w.1)))), (0, .ref (b + 0))]) hx hb dX10_cost_25 rfl hl (by decide) rfl (fun ls hl => ?_)
  refine lv_iconst (v := nI 0) hx hb dX10_cost_26 (by decide) ?_
  refine lv_istore_n (lv' := [(3, .int (nI 0)), (2, .int (nI 0)), (1, .int (nI (min (rS w.1) (rN w.1)))), (0, .ref (b + 0))]) hx hb dX10_cost_27 rfl hl (by decide) rfl (fun ls hl => ?_)
  have L28 : ∀ (fuel : Nat) (k : Nat) (c1 : Int32), (k ≤ min (rS w.1) (rN w.1)) → (c1 = csN w.1 k) → (min (rS w.1) (rN w.1) - k) < fuel → ∀ (H : Heap) (locs : List Loc) (ls : Array Slot), St G (Fr b) b σ vs H locs → lv_has ls 4 [(0, .ref (b + 0)), (1, .int (nI (min (rS w.1) (rN w.1)))), (2, .int c1), (3, .int (nI k))] → W vp l ve (RM 2) vs vm args below meth vc H locs 0 0 Q (F0 vm 28 ls []) := by
    intro fuel
    induction fuel with
    | zero => intro k c1 hk hc1 hF; exact absurd hF (Nat.not_lt_zero _)
    | succ fuel ih28 =>
      intro k c1 hk hc1 hF H locs ls hM hl
      refine lv_iload_n hx hb dX10_cost_28 rfl (lv_at hl 3 rfl) ?_
      refine lv_iload_n hx hb dX10_cost_29 rfl (lv_at hl 1 rfl) ?_
      refine sn_icmp_ge (tgt := 81) hx hb dX10_cost_30 (by decide) (by omega) (by omega) (fun hlt => ?_) (fun hlt => ?_)
      · refine lv_iload_n hx hb dX10_cost_81 rfl (lv_at hl 2 rfl) ?_
        exact hret _ _ _ _ _ _ dX10_cost_82 hM (⟨by rw [hc1, show k = min (rS w.1) (rN w.1) by omega]; rfl, hI, fun _ _ => rfl⟩)
      · have hlf := fam_lt (rM w.1) (rG w.1) (rH w.1) (stS w.1 k) (rU w.1 k)
        have hwl := (hR.2.2.1 k (by omega)).2
        have hp16 : ptS w.1 k < 16 := pt_lt hlf hwl
        have hxy := hA.2.2.2.2.2 k (by omega)
        refine lv_iload_n hx hb dX10_cost_33 rfl (lv_at hl 2 rfl) ?_
        refine lv_aload_n hx hb dX10_cost_34 rfl (lv_at hl 0 rfl) ?_
        refine sg_get (v := .ref (b + 1)) hx hb hts hown hK hM (sh0 kc_0) (kd_lt kc_0 (by decide)) rfl inX10 0 (by decide) wf_X10_10 rfl dX10_cost_35 ?_
        refine sg_get (v := .ref (b + 3)) hx hb hts hown hK hM (sh1 kc_1) (kd_lt kc_1 (by decide)) rfl inX3 1 (by decide) wf_X10_89 rfl dX10_cost_38 ?_
        refine sg_get (v := .ref (b + 6)) hx hb hts hown hK hM (sh3 kc_3) (kd_lt kc_3 (by decide)) rfl inX7 3 (by decide) wf_X10_228 rfl dX10_cost_41 ?_
        refine lv_iload_n hx hb dX10_cost_44 rfl (lv_at hl 3 rfl) ?_
        refine sg_iald hx hb hK hM (sh4 kc_6) (kd_lt kc_6 (by decide)) (i := k) (by omega) (by decide) dX10_cost_45 ?_
        refine sn_top (y := nI (ptS w.1 k)) ((hA.2.2.2.1 k (by omega)).2.2.1) ?_
        refine lv_aload_n hx hb dX10_cost_46 rfl (lv_at hl 0 rfl) ?_
        refine sg_get (v := .ref (b + 1)) hx hb hts hown hK hM (sh0 kc_0) (kd_lt kc_0 (by decide)) rfl inX10 0 (by decide) wf_X10_10 rfl dX10_cost_47 ?_
        refine sg_get (v := .ref (b + 8)) hx hb hts hown hK hM (sh1 kc_1) (kd_lt kc_1 (by decide)) rfl inX3 2 (by decide) wf_X10_104 rfl dX10_cost_50 ?_
        refine sg_get (v := .ref (b + 9)) hx hb hts hown hK hM (sh5 kc_8) (kd_lt kc_8 (by decide)) rfl inX6 1 (by decide) wf_X10_212 rfl dX10_cost_53 ?_
        refine lv_iload_n hx hb dX10_cost_56 rfl (lv_at hl 3 rfl) ?_
        refine sg_iald hx hb hK hM (sh4 kc_9) (kd_lt kc_9 (by decide)) (i := k) (by omega) (by decide) dX10_cost_57 ?_
        refine sn_top (y := rX w.1 k) (hxy.1) ?_
        refine lv_aload_n hx hb dX10_cost_58 rfl (lv_at hl 0 rfl) ?_
        refine sg_get (v := .ref (b + 1)) hx hb hts hown hK hM (sh0 kc_0) (kd_lt kc_0 (by decide)) rfl inX10 0 (by decide) wf_X10_10 rfl dX10_cost_59 ?_
        refine sg_get (v := .ref (b + 8)) hx hb hts hown hK hM (sh1 kc_1) (kd_lt kc_1 (by decide)) rfl inX3 2 (by decide) wf_X10_104 rfl dX10_cost_62 ?_
        refine sg_get (v := .ref (b + 10)) hx hb hts hown hK hM (sh5 kc_8) (kd_lt kc_8 (by decide)) rfl inX6 2 (by decide) wf_X10_216 rfl dX10_cost_65 ?_
        refine lv_iload_n hx hb dX10_cost_68 rfl (lv_at hl 3 rfl) ?_
        refine sg_iald hx hb hK hM (sh4 kc_10) (kd_lt kc_10 (by decide)) (i := k) (by omega) (by decide) dX10_cost_69 ?_
        refine sn_top (y := rY w.1 k) (hxy.2) ?_
        refine sg_ci (sg_runS (d := 1) (As := [.int (nI (ptS w.1 k)), .int (rX w.1 k), .int (rY w.1 k)]) (rest := [.int c1]) hx hb hml hts hown hK hM (c_g_far l G b σ (ptS w.1 k) (rX w.1 k) (rY w.1 k) (by first | omega | exact fam_lt _ _ _ _ _ | exact gf_lt _ | exact tf_lt _ | exact pt_lt (by first | omega | exact fam_lt _ _ _ _ _) (by omega) | exact tn_lt (by first | omega | exact pt_lt (by omega) (by omega)))) mi_X1_farFrom wl_X10_196 rfl hl.1 rfl (Nat.le_of_ble_eq_true rfl) dX10_cost_70 ⟨by decide, by decide⟩ ⟨Nat.le_refl 0, Nat.le_refl 0⟩) hM sgA (fun r_70 σ_70 H locs hp_70 hM => ?_)
        obtain ⟨hr_70, hs_70⟩ := hp_70; subst r_70; subst σ_70
        refine lv_iadd hx hb dX10_cost_73 ?_
        refine lv_istore_n (lv' := [(2, .int (c1 + (far (ptS w.1 k) (rX w.1 k) (rY w.1 k)))), (0, .ref (b + 0)), (1, .int (nI (min (rS w.1) (rN w.1)))), (3, .int (nI k))]) hx hb dX10_cost_74 rfl hl (by decide) rfl (fun ls hl => ?_)
        refine lv_iinc (v := nI (k + 1)) (lv' := [(3, .int (nI (k + 1))), (2, .int (c1 + (far (ptS w.1 k) (rX w.1 k) (rY w.1 k)))), (0, .ref (b + 0)), (1, .int (nI (min (rS w.1) (rN w.1))))]) hx hb dX10_cost_75 hl (k := 3) rfl (q_inc _) (by decide) rfl (fun ls hl => ?_)
        refine lv_goto (tgt := 28) hx hb dX10_cost_78 (by decide) ?_
        exact ih28 (k + 1) (c1 + (far (ptS w.1 k) (rX w.1 k) (rY w.1 k))) (by omega) (by rw [hc1]; rfl) (by omega) _ _ _ hM (lv_sub hl [2, 3, 1, 0] rfl)
  exact L28 (_ + 1) 0 (nI 0) (Nat.zero_le _) rfl (Nat.lt_succ_self _) _ _ _ hM (lv_sub hl [3, 2, 1, 0] rfl)
set_option maxHeartbeats 4000000 in
set_option maxRecDepth 100000 in
theorem x_sign (l : Launch) (G : GT) (b : Nat) (σ : Mem) (w : World) (hI : ICw σ w) (x : Int32) : KI l G b yX10_sign cX10_sign 4 6 σ [.ref (b + 0), .int x] (fun r σ' => r = F_sign w.1 x ∧ ICw σ' w ∧ ∀ k, 131 ≤ k → σ' k = σ k) := by
  refine sg_metI [.ref (b + 0), .int x] (by decide) (Nat.le_of_ble_eq_true rfl) ?_
  intro vp ve vs vm args below meth vc ls Q hx hb hml hown hts hK hM hl hret
  have hl : lv_has ls 4 [(0, .ref (b + 0)), (1, .int x)] := hl
  obtain ⟨hR, hA, ⟨o, hPI⟩, hJ⟩ := id hI
  have hc : CodeAt σ 2 (rM w.1) (rG w.1) (rH w.1) := hA.1
  have h3 : σ 3 0 = nI (rS w.1) := hA.2.2.1
  have h8 : σ 8 0 = nI (rN w.1) := hA.2.2.2.2.1
  have hE : σ 1 3 = rE w.1 := hA.2.1
  have hS24 := hR.2.1.1
  have hN24 := hR.2.1.2
  have hm8 := p2_le hR.1.1.2
  refine lv_iload_n hx hb dX10_sign_0 rfl (lv_at hl 1 rfl) ?_
  refine lv_if_ge (tgt := 7) hx hb dX10_sign_1 (by decide) (fun d1 => ?_) (fun d1 => ?_)
  · obtain ⟨i, hi, rfl⟩ := nI_of (Int32.not_lt.mpr d1)
    have hsg := sg_lt hR
    have hl : lv_has ls 4 [(0, .ref (b + 0)), (1, .int (nI i))] := hl
    refine lv_aload_n hx hb dX10_sign_7 rfl (lv_at hl 0 rfl) ?_
    refine sg_ci (sg_runV (d := 5) (As := []) (rest := []) hx hb hml hts hown hK hM (c_seekNearest l G b σ w.1 hR hA) mi_X10_seekNearest wl_X10_157 (sh0 kc_0) (kd_lt kc_0 (by decide)) rfl rfl rfl hl.1 rfl (Nat.le_of_ble_eq_true rfl) dX10_sign_8 ⟨by decide, by decide⟩ ⟨Nat.le_refl 0, Nat.le_refl 0⟩) hM sgA (fun r1 σ1 H locs hq hM => ?_)
    obtain ⟨hr1, hq, hq2⟩ := hq
    subst hr1
    have hA1 : CM σ1 1 w.1 := hA.keep (fun k _ _ => hq2 k (Or.inl (by omega)))
    refine lv_pop hx hb dX10_sign_11 rfl ?_
    refine lv_iload_n hx hb dX10_sign_12 rfl (lv_at hl 1 rfl) ?_
    refine lv_aload_n hx hb dX10_sign_13 rfl (lv_at hl 0 rfl) ?_
    refine sg_ci (sg_runV (d := 0) (As := []) (rest := [.int (nI i)]) hx hb hml hts hown hK hM (c_countSigns l G b σ1 w.1 hR hA1 hq) mi_X10_countSigns wl_X10_171 (sh0 kc_0) (kd_lt kc_0 (by decide)) rfl rfl rfl hl.1 rfl (Nat.le_of_ble_eq_true rfl) dX10_sign_14 ⟨by decide, by decide⟩ ⟨Nat.le_refl 0, Nat.le_refl 0⟩) hM sgA (fun r_14 σ_14 H locs hp_14 hM => ?_)
    obtain ⟨hr_14, hs_14⟩ := hp_14; subst r_14; subst σ_14
    refine sn_icmp_lt (tgt := 22) hx hb dX10_sign_17 (by decide) (by omega) (by omega) (fun d2 => ?_) (fun d2 => ?_)
    · refine lv_iload_n hx hb dX10_sign_22 rfl (lv_at hl 1 rfl) ?_
      refine lv_bipush (v := nI 9) hx hb dX10_sign_23 (by decide) ?_
      refine sn_irem hx hb dX10_sign_25 (by omega) (by omega) (by omega) ?_
      refine lv_istore_n (lv' := [(2, .int (nI (i % 9))), (0, .ref (b + 0)), (1, .int (nI i))]) hx hb dX10_sign_26 rfl hl (by decide) rfl (fun ls hl => ?_)
      refine lv_iload_n hx hb dX10_sign_27 rfl (lv_at hl 0 rfl) ?_
      refine lv_bipush (v := nI 8) hx hb dX10_sign_28 (by decide) ?_
      refine sn_icmp_ne (tgt := 36) hx hb dX10_sign_30 (by decide) (by omega) (by omega) (fun d3 => ?_) (fun d3 => ?_)
      · have hg := sg_in hR d2 d3
        refine lv_iload_n hx hb dX10_sign_36 rfl (lv_at hl 2 rfl) ?_
        refine lv_bipush (v := nI 9) hx hb dX10_sign_37 (by decide) ?_
        refine sn_idiv hx hb dX10_sign_39 (by omega) (by omega) (by omega) ?_
        refine lv_iconst (v := nI 4) hx hb dX10_sign_40 (by decide) ?_
        refine sn_imul hx hb dX10_sign_41 ?_
        refine lv_iload_n hx hb dX10_sign_42 rfl (lv_at hl 0 rfl) ?_
        refine lv_iconst (v := nI 2) hx hb dX10_sign_43 (by decide) ?_
        refine sn_idiv hx hb dX10_sign_44 (by omega) (by omega) (by omega) ?_
        refine sn_iadd hx hb dX10_sign_45 ?_
        refine lv_istore_n (lv' := [(3, .int (nI (((i / 9) * 4) + ((i % 9) / 2)))), (2, .int (nI (i % 9))), (0, .ref (b + 0)), (1, .int (nI i))]) hx hb dX10_sign_46 rfl hl (by decide) rfl (fun ls hl => ?_)
        refine lv_iload_n hx hb dX10_sign_47 rfl (lv_at hl 1 rfl) ?_
        refine lv_iconst (v := nI 2) hx hb dX10_sign_48 (by decide) ?_
        refine sn_irem hx hb dX10_sign_49 (by omega) (by omega) (by omega) ?_
        refine sn_if_ne (tgt := 72) hx hb dX10_sign_50 (by decide) (by omega) (fun d4 => ?_) (fun d4 => ?_)
        · refine lv_bipush (v := nI 48) hx hb dX10_sign_72 (by decide) ?_
          refine lv_aload_n hx hb dX10_sign_74 rfl (lv_at hl 2 rfl) ?_
          refine sg_get (v := .ref (b + 116)) hx hb hts hown hK hM (sh0 kc_0) (kd_lt kc_0 (by decide)) rfl inX10 5 (by decide) wf_X10_41 rfl dX10_sign_75 ?_
          refine sg_get (v := .ref (b + 117)) hx hb hts hown hK hM (sh10 kc_116) (kd_lt kc_116 (by decide)) rfl inX8 0 (by decide) wf_X10_223 rfl dX10_sign_78 ?_
          refine sg_get (v := .ref (b + 119)) hx hb hts hown hK hM (sh3 kc_117) (kd_lt kc_117 (by decide)) rfl inX7 2 (by decide) wf_X10_236 rfl dX10_sign_81 ?_
          refine lv_iload_n hx hb dX10_sign_84 rfl (lv_at hl 0 rfl) ?_
          refine sg_iald hx hb hK hM (sh4 kc_119) (kd_lt kc_119 (by decide)) (i := ((i / 9) * 4) + ((i % 9) / 2)) (by omega) (by decide) dX10_sign_85 ?_
          refine sn_top (y := nI (wA w.1 (rN w.1) (rE w.1) (i / 9 * 4 + i % 9 / 2))) (((hq.1 hg.1).2 _ hg.2).2.1) ?_
          refine sn_iadd hx hb dX10_sign_86 ?_
          exact hret _ _ _ _ _ _ dX10_sign_87 hM (⟨by rw [F_sign_in hi, if_neg (by omega)]; unfold sgV; rw [if_neg d3, if_neg d4], IC.keep hI (fun k hk => hq2 k (Or.inl (by omega))), fun k hk => hq2 k (Or.inr (by omega))⟩)
        · refine lv_bipush (v := nI 65) hx hb dX10_sign_53 (by decide) ?_
          refine lv_aload_n hx hb dX10_sign_55 rfl (lv_at hl 2 rfl) ?_
          refine sg_get (v := .ref (b + 116)) hx hb hts hown hK hM (sh0 kc_0) (kd_lt kc_0 (by decide)) rfl inX10 5 (by decide) wf_X10_41 rfl dX10_sign_56 ?_
          refine sg_get (v := .ref (b + 117)) hx hb hts hown hK hM (sh10 kc_116) (kd_lt kc_116 (by decide)) rfl inX8 0 (by decide) wf_X10_223 rfl dX10_sign_59 ?_
          refine sg_get (v := .ref (b + 120)) hx hb hts hown hK hM (sh3 kc_117) (kd_lt kc_117 (by decide)) rfl inX7 3 (by decide) wf_X10_228 rfl dX10_sign_62 ?_
          refine lv_iload_n hx hb dX10_sign_65 rfl (lv_at hl 0 rfl) ?_
          refine sg_iald hx hb hK hM (sh4 kc_120) (kd_lt kc_120 (by decide)) (i := ((i / 9) * 4) + ((i % 9) / 2)) (by omega) (by decide) dX10_sign_66 ?_
          refine sn_top (y := nI (pA w.1 (rN w.1) (rE w.1) (i / 9 * 4 + i % 9 / 2))) (((hq.1 hg.1).2 _ hg.2).2.2.1) ?_
          refine sg_ci (sg_runS (d := 0) (As := [.int (nI (pA w.1 (rN w.1) (rE w.1) (i / 9 * 4 + i % 9 / 2)))]) (rest := [.int (nI 65)]) hx hb hml hts hown hK hM (c_g_familyOf l G b σ1 (pA w.1 (rN w.1) (rE w.1) (i / 9 * 4 + i % 9 / 2)) (pt_lt (fam_lt _ _ _ _ _) (cw_lt _ _ _))) mi_X1_familyOf wl_X10_177 rfl hl.1 rfl (Nat.le_of_ble_eq_true rfl) dX10_sign_67 ⟨by decide, by decide⟩ ⟨Nat.le_refl 0, Nat.le_refl 0⟩) hM sgA (fun r_67 σ_67 H locs hp_67 hM => ?_)
          obtain ⟨hr_67, hs_67⟩ := hp_67; subst r_67; subst σ_67
          refine sn_iadd hx hb dX10_sign_70 ?_
          exact hret _ _ _ _ _ _ dX10_sign_71 hM (⟨by rw [F_sign_in hi, if_neg (by omega)]; unfold sgV; rw [if_neg d3, if_pos d4], IC.keep hI (fun k hk => hq2 k (Or.inl (by omega))), fun k hk => hq2 k (Or.inr (by omega))⟩)
      · refine lv_bipush (v := nI 45) hx hb dX10_sign_33 (by decide) ?_
        exact hret _ _ _ _ _ _ dX10_sign_35 hM (⟨by rw [F_sign_in hi, if_neg (by omega)]; unfold sgV; rw [if_pos d3], IC.keep hI (fun k hk => hq2 k (Or.inl (by omega))), fun k hk => hq2 k (Or.inr (by omega))⟩)
    · refine lv_iconst (v := (-1)) hx hb dX10_sign_20 (by decide) ?_
      exact hret _ _ _ _ _ _ dX10_sign_21 hM (⟨by rw [F_sign_in hi, if_pos d2], IC.keep hI (fun k hk => hq2 k (Or.inl (by omega))), fun k hk => hq2 k (Or.inr (by omega))⟩)
  · refine lv_ldc (v := (-1000000002)) hx hb hown (hts (Cond.constant RX10 59 ((-1000000002))) wk_X10_59) dX10_sign_4 ?_
    exact hret _ _ _ _ _ _ dX10_sign_6 hM (⟨by unfold F_sign; rw [if_pos (Int32.not_le.mp d1)], hI, fun _ _ => rfl⟩)
set_option maxHeartbeats 4000000 in
set_option maxRecDepth 100000 in
theorem x_told (l : Launch) (G : GT) (b : Nat) (σ : Mem) (w : World) (hI : ICw σ w) (what : Int32) : KI l G b yX10_told cX10_told 2 6 σ [.ref (b + 0), .int what] (fun r σ' => r = F_told w.1 w.2.1 what ∧ ICw σ' w ∧ ∀ k, 131 ≤ k → σ' k = σ k) := by
  refine sg_metI [.ref (b + 0), .int what] (by decide) (Nat.le_of_ble_eq_true rfl) ?_
  intro vp ve vs vm args below meth vc ls Q hx hb hml hown hts hK hM hl hret
  have hl : lv_has ls 2 [(0, .ref (b + 0)), (1, .int what)] := hl
  obtain ⟨hR, hA, ⟨o, hPI⟩, hJ⟩ := id hI
  have hc : CodeAt σ 2 (rM w.1) (rG w.1) (rH w.1) := hA.1
  have h3 : σ 3 0 = nI (rS w.1) := hA.2.2.1
  have h8 : σ 8 0 = nI (rN w.1) := hA.2.2.2.2.1
  have hE : σ 1 3 = rE w.1 := hA.2.1
  have hS24 := hR.2.1.1
  have hN24 := hR.2.1.2
  have hm8 := p2_le hR.1.1.2
  refine lv_iload_n hx hb dX10_told_0 rfl (lv_at hl 1 rfl) ?_
  rcases swc what 13 with c_1 | ⟨j, hj, c_1⟩
  · refine lv_tableOut (tgt := 228) hx hb dX10_told_1 c_1 (by decide) ?_
    refine lv_ldc (v := (-1000000002)) hx hb hown (hts (Cond.constant RX10 59 ((-1000000002))) wk_X10_59) dX10_told_228 ?_
    exact hret _ _ _ _ _ _ dX10_told_230 hM (⟨by unfold F_told; rw [swp_out c_1 rfl], hI, fun _ _ => rfl⟩)
  · match j, hj with
    | 0, _ =>
      subst c_1
      refine lv_tableIn (tgt := 72) (off := 71) hx hb dX10_told_1 (by decide) (by decide) (by decide) (by decide) ?_
      have hl : lv_has ls 2 [(0, .ref (b + 0)), (1, .int (nI 0))] := hl
      refine lv_aload_n hx hb dX10_told_72 rfl (lv_at hl 0 rfl) ?_
      refine sg_get (v := .ref (b + 1)) hx hb hts hown hK hM (sh0 kc_0) (kd_lt kc_0 (by decide)) rfl inX10 0 (by decide) wf_X10_10 rfl dX10_told_73 ?_
      refine sg_get (v := .ref (b + 2)) hx hb hts hown hK hM (sh1 kc_1) (kd_lt kc_1 (by decide)) rfl inX3 0 (by decide) wf_X10_68 rfl dX10_told_76 ?_
      refine sg_get (v := .int (σ 2 0)) hx hb hts hown hK hM (sh2 kc_2) (kd_lt kc_2 (by decide)) rfl inX0 0 (by decide) wf_X10_145 rfl dX10_told_79 ?_
      refine sn_top (y := nI (rM w.1)) (hc.1) ?_
      exact hret _ _ _ _ _ _ dX10_told_82 hM (⟨by unfold F_told; rw [swp_in 0 (Nat.le_of_ble_eq_true rfl) (Nat.le_of_ble_eq_true rfl)]; rfl, hI, fun _ _ => rfl⟩)
    | 1, _ =>
      subst c_1
      refine lv_tableIn (tgt := 83) (off := 82) hx hb dX10_told_1 (by decide) (by decide) (by decide) (by decide) ?_
      have hl : lv_has ls 2 [(0, .ref (b + 0)), (1, .int (nI 1))] := hl
      refine lv_aload_n hx hb dX10_told_83 rfl (lv_at hl 0 rfl) ?_
      refine sg_get (v := .ref (b + 1)) hx hb hts hown hK hM (sh0 kc_0) (kd_lt kc_0 (by decide)) rfl inX10 0 (by decide) wf_X10_10 rfl dX10_told_84 ?_
      refine sg_get (v := .ref (b + 2)) hx hb hts hown hK hM (sh1 kc_1) (kd_lt kc_1 (by decide)) rfl inX3 0 (by decide) wf_X10_68 rfl dX10_told_87 ?_
      refine sg_get (v := .int (σ 2 1)) hx hb hts hown hK hM (sh2 kc_2) (kd_lt kc_2 (by decide)) rfl inX0 1 (by decide) wf_X10_148 rfl dX10_told_90 ?_
      refine sn_top (y := nI (rG w.1)) (hc.2.1) ?_
      exact hret _ _ _ _ _ _ dX10_told_93 hM (⟨by unfold F_told; rw [swp_in 1 (Nat.le_of_ble_eq_true rfl) (Nat.le_of_ble_eq_true rfl)]; rfl, hI, fun _ _ => rfl⟩)
    | 2, _ =>
      subst c_1
      refine lv_tableIn (tgt := 94) (off := 93) hx hb dX10_told_1 (by decide) (by decide) (by decide) (by decide) ?_
      have hl : lv_has ls 2 [(0, .ref (b + 0)), (1, .int (nI 2))] := hl
      refine lv_aload_n hx hb dX10_told_94 rfl (lv_at hl 0 rfl) ?_
      refine sg_get (v := .ref (b + 1)) hx hb hts hown hK hM (sh0 kc_0) (kd_lt kc_0 (by decide)) rfl inX10 0 (by decide) wf_X10_10 rfl dX10_told_95 ?_
      refine sg_get (v := .ref (b + 2)) hx hb hts hown hK hM (sh1 kc_1) (kd_lt kc_1 (by decide)) rfl inX3 0 (by decide) wf_X10_68 rfl dX10_told_98 ?_
      refine sg_get (v := .int (σ 2 2)) hx hb hts hown hK hM (sh2 kc_2) (kd_lt kc_2 (by decide)) rfl inX0 2 (by decide) wf_X10_151 rfl dX10_told_101 ?_
      refine sn_top (y := nI (rH w.1)) (hc.2.2.1) ?_
      exact hret _ _ _ _ _ _ dX10_told_104 hM (⟨by unfold F_told; rw [swp_in 2 (Nat.le_of_ble_eq_true rfl) (Nat.le_of_ble_eq_true rfl)]; rfl, hI, fun _ _ => rfl⟩)
    | 3, _ =>
      subst c_1
      refine lv_tableIn (tgt := 105) (off := 104) hx hb dX10_told_1 (by decide) (by decide) (by decide) (by decide) ?_
      have hl : lv_has ls 2 [(0, .ref (b + 0)), (1, .int (nI 3))] := hl
      refine lv_aload_n hx hb dX10_told_105 rfl (lv_at hl 0 rfl) ?_
      refine sg_get (v := .ref (b + 1)) hx hb hts hown hK hM (sh0 kc_0) (kd_lt kc_0 (by decide)) rfl inX10 0 (by decide) wf_X10_10 rfl dX10_told_106 ?_
      refine sg_get (v := .ref (b + 2)) hx hb hts hown hK hM (sh1 kc_1) (kd_lt kc_1 (by decide)) rfl inX3 0 (by decide) wf_X10_68 rfl dX10_told_109 ?_
      refine sg_ci (sg_runV (d := 0) (As := []) (rest := []) hx hb hml hts hown hK hM (c_Code_states l G b σ 2 (rM w.1) (rG w.1) (rH w.1) kc_2 (hc)) mi_X0_states wl_X10_85 (sh2 kc_2) (kd_lt kc_2 (by decide)) rfl rfl rfl hl.1 rfl (Nat.le_of_ble_eq_true rfl) dX10_told_112 ⟨by decide, by decide⟩ ⟨Nat.le_refl 0, Nat.le_refl 0⟩) hM sgA (fun r_112 σ_112 H locs hp_112 hM => ?_)
      obtain ⟨hr_112, hs_112⟩ := hp_112; subst r_112; subst σ_112
      exact hret _ _ _ _ _ _ dX10_told_115 hM (⟨by unfold F_told; rw [swp_in 3 (Nat.le_of_ble_eq_true rfl) (Nat.le_of_ble_eq_true rfl)]; rfl, hI, fun _ _ => rfl⟩)
    | 4, _ =>
      subst c_1
      refine lv_tableIn (tgt := 116) (off := 115) hx hb dX10_told_1 (by decide) (by decide) (by decide) (by decide) ?_
      have hl : lv_has ls 2 [(0, .ref (b + 0)), (1, .int (nI 4))] := hl
      refine lv_aload_n hx hb dX10_told_116 rfl (lv_at hl 0 rfl) ?_
      refine sg_get (v := .ref (b + 1)) hx hb hts hown hK hM (sh0 kc_0) (kd_lt kc_0 (by decide)) rfl inX10 0 (by decide) wf_X10_10 rfl dX10_told_117 ?_
      refine sg_get (v := .ref (b + 3)) hx hb hts hown hK hM (sh1 kc_1) (kd_lt kc_1 (by decide)) rfl inX3 1 (by decide) wf_X10_89 rfl dX10_told_120 ?_
      refine sg_get (v := .int (σ 3 0)) hx hb hts hown hK hM (sh3 kc_3) (kd_lt kc_3 (by decide)) rfl inX7 0 (by decide) wf_X10_134 rfl dX10_told_123 ?_
      refine sn_top (y := nI (rS w.1)) (h3) ?_
      exact hret _ _ _ _ _ _ dX10_told_126 hM (⟨by unfold F_told; rw [swp_in 4 (Nat.le_of_ble_eq_true rfl) (Nat.le_of_ble_eq_true rfl)]; rfl, hI, fun _ _ => rfl⟩)
    | 5, _ =>
      subst c_1
      refine lv_tableIn (tgt := 127) (off := 126) hx hb dX10_told_1 (by decide) (by decide) (by decide) (by decide) ?_
      have hl : lv_has ls 2 [(0, .ref (b + 0)), (1, .int (nI 5))] := hl
      refine lv_aload_n hx hb dX10_told_127 rfl (lv_at hl 0 rfl) ?_
      refine sg_get (v := .ref (b + 1)) hx hb hts hown hK hM (sh0 kc_0) (kd_lt kc_0 (by decide)) rfl inX10 0 (by decide) wf_X10_10 rfl dX10_told_128 ?_
      refine sg_get (v := .ref (b + 8)) hx hb hts hown hK hM (sh1 kc_1) (kd_lt kc_1 (by decide)) rfl inX3 2 (by decide) wf_X10_104 rfl dX10_told_131 ?_
      refine sg_get (v := .int (σ 8 0)) hx hb hts hown hK hM (sh5 kc_8) (kd_lt kc_8 (by decide)) rfl inX6 0 (by decide) wf_X10_114 rfl dX10_told_134 ?_
      refine sn_top (y := nI (rN w.1)) (h8) ?_
      exact hret _ _ _ _ _ _ dX10_told_137 hM (⟨by unfold F_told; rw [swp_in 5 (Nat.le_of_ble_eq_true rfl) (Nat.le_of_ble_eq_true rfl)]; rfl, hI, fun _ _ => rfl⟩)
    | 6, _ =>
      subst c_1
      refine lv_tableIn (tgt := 138) (off := 137) hx hb dX10_told_1 (by decide) (by decide) (by decide) (by decide) ?_
      have hl : lv_has ls 2 [(0, .ref (b + 0)), (1, .int (nI 6))] := hl
      refine lv_aload_n hx hb dX10_told_138 rfl (lv_at hl 0 rfl) ?_
      refine sg_get (v := .ref (b + 1)) hx hb hts hown hK hM (sh0 kc_0) (kd_lt kc_0 (by decide)) rfl inX10 0 (by decide) wf_X10_10 rfl dX10_told_139 ?_
      refine sg_get (v := .ref (b + 3)) hx hb hts hown hK hM (sh1 kc_1) (kd_lt kc_1 (by decide)) rfl inX3 1 (by decide) wf_X10_89 rfl dX10_told_142 ?_
      refine sg_ci (sg_runV (d := 0) (As := []) (rest := []) hx hb hml hts hown hK hM (c_Row_last l G b σ 3 (rS w.1) kc_3 h3 hS24) mi_X7_lastState wl_X10_154 (sh3 kc_3) (kd_lt kc_3 (by decide)) rfl rfl rfl hl.1 rfl (Nat.le_of_ble_eq_true rfl) dX10_told_145 ⟨by decide, by decide⟩ ⟨Nat.le_refl 0, Nat.le_refl 0⟩) hM sgA (fun r_145 σ_145 H locs hp_145 hM => ?_)
      obtain ⟨hr_145, hs_145⟩ := hp_145; subst r_145; subst σ_145
      refine sn_top (y := nI (stS w.1 (rS w.1))) (hA.last) ?_
      exact hret _ _ _ _ _ _ dX10_told_148 hM (⟨by unfold F_told; rw [swp_in 6 (Nat.le_of_ble_eq_true rfl) (Nat.le_of_ble_eq_true rfl)]; rfl, hI, fun _ _ => rfl⟩)
    | 7, _ =>
      subst c_1
      refine lv_tableIn (tgt := 149) (off := 148) hx hb dX10_told_1 (by decide) (by decide) (by decide) (by decide) ?_
      have hl : lv_has ls 2 [(0, .ref (b + 0)), (1, .int (nI 7))] := hl
      refine lv_aload_n hx hb dX10_told_149 rfl (lv_at hl 0 rfl) ?_
      refine sg_get (v := .ref (b + 1)) hx hb hts hown hK hM (sh0 kc_0) (kd_lt kc_0 (by decide)) rfl inX10 0 (by decide) wf_X10_10 rfl dX10_told_150 ?_
      refine sg_get (v := .int (σ 1 3)) hx hb hts hown hK hM (sh1 kc_1) (kd_lt kc_1 (by decide)) rfl inX3 3 (by decide) wf_X10_81 rfl dX10_told_153 ?_
      refine sn_top (y := rE w.1) (hE) ?_
      exact hret _ _ _ _ _ _ dX10_told_156 hM (⟨by unfold F_told; rw [swp_in 7 (Nat.le_of_ble_eq_true rfl) (Nat.le_of_ble_eq_true rfl)]; rfl, hI, fun _ _ => rfl⟩)
    | 8, _ =>
      subst c_1
      refine lv_tableIn (tgt := 157) (off := 156) hx hb dX10_told_1 (by decide) (by decide) (by decide) (by decide) ?_
      have hl : lv_has ls 2 [(0, .ref (b + 0)), (1, .int (nI 8))] := hl
      refine lv_aload_n hx hb dX10_told_157 rfl (lv_at hl 0 rfl) ?_
      refine sg_ci (sg_runV (d := 5) (As := []) (rest := []) hx hb hml hts hown hK hM (c_seekNearest l G b σ w.1 hR hA) mi_X10_seekNearest wl_X10_157 (sh0 kc_0) (kd_lt kc_0 (by decide)) rfl rfl rfl hl.1 rfl (Nat.le_of_ble_eq_true rfl) dX10_told_158 ⟨by decide, by decide⟩ ⟨Nat.le_refl 0, Nat.le_refl 0⟩) hM sgA (fun r1 σ1 H locs hq hM => ?_)
      obtain ⟨hr1, hq, hq2⟩ := hq
      subst hr1
      have hA1 : CM σ1 1 w.1 := hA.keep (fun k _ _ => hq2 k (Or.inl (by omega)))
      exact hret _ _ _ _ _ _ dX10_told_161 hM (⟨by unfold F_told; rw [swp_in 8 (Nat.le_of_ble_eq_true rfl) (Nat.le_of_ble_eq_true rfl)]; rfl, IC.keep hI (fun k hk => hq2 k (Or.inl (by omega))), fun k hk => hq2 k (Or.inr (by omega))⟩)
    | 9, _ =>
      subst c_1
      refine lv_tableIn (tgt := 162) (off := 161) hx hb dX10_told_1 (by decide) (by decide) (by decide) (by decide) ?_
      have hl : lv_has ls 2 [(0, .ref (b + 0)), (1, .int (nI 9))] := hl
      refine lv_aload_n hx hb dX10_told_162 rfl (lv_at hl 0 rfl) ?_
      refine sg_ci (sg_runV (d := 5) (As := []) (rest := []) hx hb hml hts hown hK hM (c_seekNearest l G b σ w.1 hR hA) mi_X10_seekNearest wl_X10_157 (sh0 kc_0) (kd_lt kc_0 (by decide)) rfl rfl rfl hl.1 rfl (Nat.le_of_ble_eq_true rfl) dX10_told_163 ⟨by decide, by decide⟩ ⟨Nat.le_refl 0, Nat.le_refl 0⟩) hM sgA (fun r1 σ1 H locs hq hM => ?_)
      obtain ⟨hr1, hq, hq2⟩ := hq
      subst hr1
      have hA1 : CM σ1 1 w.1 := hA.keep (fun k _ _ => hq2 k (Or.inl (by omega)))
      refine lv_pop hx hb dX10_told_166 rfl ?_
      refine lv_aload_n hx hb dX10_told_167 rfl (lv_at hl 0 rfl) ?_
      refine sg_ci (sg_runV (d := 1) (As := []) (rest := []) hx hb hml hts hown hK hM (c_countUnlike l G b σ1 w.1 hR hA1 hq) mi_X10_countUnlike wl_X10_160 (sh0 kc_0) (kd_lt kc_0 (by decide)) rfl rfl rfl hl.1 rfl (Nat.le_of_ble_eq_true rfl) dX10_told_168 ⟨by decide, by decide⟩ ⟨Nat.le_refl 0, Nat.le_refl 0⟩) hM sgA (fun r_168 σ_168 H locs hp_168 hM => ?_)
      obtain ⟨hr_168, hs_168⟩ := hp_168; subst r_168; subst σ_168
      exact hret _ _ _ _ _ _ dX10_told_171 hM (⟨by unfold F_told; rw [swp_in 9 (Nat.le_of_ble_eq_true rfl) (Nat.le_of_ble_eq_true rfl)]; rfl, IC.keep hI (fun k hk => hq2 k (Or.inl (by omega))), fun k hk => hq2 k (Or.inr (by omega))⟩)
    | 10, _ =>
      subst c_1
      refine lv_tableIn (tgt := 172) (off := 171) hx hb dX10_told_1 (by decide) (by decide) (by decide) (by decide) ?_
      have hl : lv_has ls 2 [(0, .ref (b + 0)), (1, .int (nI 10))] := hl
      refine lv_aload_n hx hb dX10_told_172 rfl (lv_at hl 0 rfl) ?_
      refine sg_get (v := .ref (b + 125)) hx hb hts hown hK hM (sh0 kc_0) (kd_lt kc_0 (by decide)) rfl inX10 6 (by decide) wf_X10_48 rfl dX10_told_173 ?_
      refine lv_aload_n hx hb dX10_told_176 rfl (lv_at hl 0 rfl) ?_
      refine sg_get (v := .ref (b + 1)) hx hb hts hown hK hM (sh0 kc_0) (kd_lt kc_0 (by decide)) rfl inX10 0 (by decide) wf_X10_10 rfl dX10_told_177 ?_
      refine sg_get (v := .ref (b + 2)) hx hb hts hown hK hM (sh1 kc_1) (kd_lt kc_1 (by decide)) rfl inX3 0 (by decide) wf_X10_68 rfl dX10_told_180 ?_
      refine sg_ci (sg_runV (d := 5) (As := [.ref (b + 2)]) (rest := []) hx hb hml hts hown hK hM (c_Pa_least l G b σ (rM w.1) (rG w.1) (rH w.1) hc) mi_X4_leastSum wl_X10_163 (sh13 kc_125) (kd_lt kc_125 (by decide)) rfl rfl rfl hl.1 rfl (Nat.le_of_ble_eq_true rfl) dX10_told_183 ⟨by decide, by decide⟩ ⟨Nat.le_refl 0, Nat.le_refl 0⟩) hM sgA (fun r1 σ1 H locs hq hM => ?_)
      exact hret _ _ _ _ _ _ dX10_told_186 hM (⟨by rw [hq.1]; unfold F_told; rw [swp_in 10 (Nat.le_of_ble_eq_true rfl) (Nat.le_of_ble_eq_true rfl)]; rfl, IC.keep hI (fun k hk => hq.2 k (by omega)), fun k hk => hq.2 k (by omega)⟩)
    | 11, _ =>
      subst c_1
      refine lv_tableIn (tgt := 187) (off := 186) hx hb dX10_told_1 (by decide) (by decide) (by decide) (by decide) ?_
      have hl : lv_has ls 2 [(0, .ref (b + 0)), (1, .int (nI 11))] := hl
      refine lv_aload_n hx hb dX10_told_187 rfl (lv_at hl 0 rfl) ?_
      refine sg_get (v := .ref (b + 129)) hx hb hts hown hK hM (sh0 kc_0) (kd_lt kc_0 (by decide)) rfl inX10 7 (by decide) wf_X10_55 rfl dX10_told_188 ?_
      refine lv_aload_n hx hb dX10_told_191 rfl (lv_at hl 0 rfl) ?_
      refine sg_get (v := .ref (b + 1)) hx hb hts hown hK hM (sh0 kc_0) (kd_lt kc_0 (by decide)) rfl inX10 0 (by decide) wf_X10_10 rfl dX10_told_192 ?_
      refine sg_get (v := .ref (b + 2)) hx hb hts hown hK hM (sh1 kc_1) (kd_lt kc_1 (by decide)) rfl inX3 0 (by decide) wf_X10_68 rfl dX10_told_195 ?_
      refine sg_ci (sg_runV (d := 4) (As := [.ref (b + 2)]) (rest := []) hx hb hml hts hown hK hM (c_Tu_holds l G b σ (rM w.1) (rG w.1) (rH w.1) hc hR.1) mi_X9_holdsFor wl_X10_167 (sh16 kc_129) (kd_lt kc_129 (by decide)) rfl rfl rfl hl.1 rfl (Nat.le_of_ble_eq_true rfl) dX10_told_198 ⟨by decide, by decide⟩ ⟨Nat.le_refl 0, Nat.le_refl 0⟩) hM sgA (fun r1 σ1 H locs hq hM => ?_)
      obtain ⟨hr1, hq2⟩ := hq
      subst hr1
      refine sn_ifz_eq (tgt := 208) hx hb dX10_told_201 (by decide) (fun c_201 => ?_) (fun c_201 => ?_)
      · refine lv_iconst (v := nI 0) hx hb dX10_told_208 (by decide) ?_
        exact hret _ _ _ _ _ _ dX10_told_209 hM (⟨by unfold F_told; rw [swp_in 11 (Nat.le_of_ble_eq_true rfl) (Nat.le_of_ble_eq_true rfl)]; rfl, IC.keep hI (fun k hk => hq2 k (by omega)), fun k hk => hq2 k (by omega)⟩)
      · exact absurd c_201 (by decide)
    | 12, _ =>
      subst c_1
      refine lv_tableIn (tgt := 210) (off := 209) hx hb dX10_told_1 (by decide) (by decide) (by decide) (by decide) ?_
      have hl : lv_has ls 2 [(0, .ref (b + 0)), (1, .int (nI 12))] := hl
      refine lv_aload_n hx hb dX10_told_210 rfl (lv_at hl 0 rfl) ?_
      refine sg_ci (sg_runV (d := 5) (As := []) (rest := []) hx hb hml hts hown hK hM (c_seekNearest l G b σ w.1 hR hA) mi_X10_seekNearest wl_X10_157 (sh0 kc_0) (kd_lt kc_0 (by decide)) rfl rfl rfl hl.1 rfl (Nat.le_of_ble_eq_true rfl) dX10_told_211 ⟨by decide, by decide⟩ ⟨Nat.le_refl 0, Nat.le_refl 0⟩) hM sgA (fun r1 σ1 H locs hq hM => ?_)
      obtain ⟨hr1, hq, hq2⟩ := hq
      subst hr1
      have hA1 : CM σ1 1 w.1 := hA.keep (fun k _ _ => hq2 k (Or.inl (by omega)))
      refine lv_pop hx hb dX10_told_214 rfl ?_
      refine lv_aload_n hx hb dX10_told_215 rfl (lv_at hl 0 rfl) ?_
      refine sg_ci (sg_runV (d := 0) (As := []) (rest := []) hx hb hml hts hown hK hM (c_countSigns l G b σ1 w.1 hR hA1 hq) mi_X10_countSigns wl_X10_171 (sh0 kc_0) (kd_lt kc_0 (by decide)) rfl rfl rfl hl.1 rfl (Nat.le_of_ble_eq_true rfl) dX10_told_216 ⟨by decide, by decide⟩ ⟨Nat.le_refl 0, Nat.le_refl 0⟩) hM sgA (fun r_216 σ_216 H locs hp_216 hM => ?_)
      obtain ⟨hr_216, hs_216⟩ := hp_216; subst r_216; subst σ_216
      exact hret _ _ _ _ _ _ dX10_told_219 hM (⟨by unfold F_told; rw [swp_in 12 (Nat.le_of_ble_eq_true rfl) (Nat.le_of_ble_eq_true rfl)]; rfl, IC.keep hI (fun k hk => hq2 k (Or.inl (by omega))), fun k hk => hq2 k (Or.inr (by omega))⟩)
    | 13, _ =>
      subst c_1
      refine lv_tableIn (tgt := 220) (off := 219) hx hb dX10_told_1 (by decide) (by decide) (by decide) (by decide) ?_
      have hl : lv_has ls 2 [(0, .ref (b + 0)), (1, .int (nI 13))] := hl
      refine lv_aload_n hx hb dX10_told_220 rfl (lv_at hl 0 rfl) ?_
      refine sg_get (v := .ref (b + 11)) hx hb hts hown hK hM (sh0 kc_0) (kd_lt kc_0 (by decide)) rfl inX10 1 (by decide) wf_X10_19 rfl dX10_told_221 ?_
      refine sg_get (v := .int (σ 11 0)) hx hb hts hown hK hM (sh6 kc_11) (kd_lt kc_11 (by decide)) rfl inX5 0 (by decide) wf_X10_140 rfl dX10_told_224 ?_
      refine sn_top (y := nI w.2.1) (hPI.1.1) ?_
      exact hret _ _ _ _ _ _ dX10_told_227 hM (⟨by unfold F_told; rw [swp_in 13 (Nat.le_of_ble_eq_true rfl) (Nat.le_of_ble_eq_true rfl)]; rfl, hI, fun _ _ => rfl⟩)
    | j + 14, hj => exact absurd hj (by omega)

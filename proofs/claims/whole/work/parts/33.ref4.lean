set_option maxHeartbeats 4000000 in
set_option maxRecDepth 100000 in
theorem m_errors (l : Launch) (G : GT) (b : Nat) (σ : Mem) (A : Rec) (hR : ROk A) (hA : RecF (σ 132) A) : KI l G b yX11_errors cX11_errors 3 5 σ [.ref (b + 131)] (fun r σ' => r = nI (unA A) ∧ ∀ c, c < 136 ∨ 140 ≤ c → σ' c = σ c) := by
  refine sg_metI [.ref (b + 131)] (by decide) (Nat.le_of_ble_eq_true rfl) ?_
  intro vp ve vs vm args below meth vc ls Q hx hb hml hown hts hK hM hl hret
  have hl : lv_has ls 3 [(0, .ref (b + 131))] := hl
  have hS24 := hR.2.1.1
  have hN24 := hR.2.1.2
  have hNV : NV = 99999999 := rfl
  refine lv_aload_n hx hb dX11_errors_0 rfl (lv_at hl 0 rfl) ?_
  refine lv_aload_n hx hb dX11_errors_1 rfl (lv_at hl 0 rfl) ?_
  refine sg_get (v := .ref (b + 132)) hx hb hts hown hK hM (sh18 kc_131) (kd_lt kc_131 (by decide)) rfl inX11 0 (by decide) wf_X11_7 rfl dX11_errors_2 ?_
  refine lv_iconst (v := nI 5) hx hb dX11_errors_5 (by decide) ?_
  refine sg_iald hx hb hK hM (sh19 kc_132) (kd_lt kc_132 (by decide)) (i := 5) (by omega) (by decide) dX11_errors_6 ?_
  refine sn_top (y := nI (rN A)) (hA.1.2.2.2.2.2) ?_
  refine lv_aload_n hx hb dX11_errors_7 rfl (lv_at hl 0 rfl) ?_
  refine sg_get (v := .ref (b + 132)) hx hb hts hown hK hM (sh18 kc_131) (kd_lt kc_131 (by decide)) rfl inX11 0 (by decide) wf_X11_7 rfl dX11_errors_8 ?_
  refine lv_iconst (v := nI 3) hx hb dX11_errors_11 (by decide) ?_
  refine sg_iald hx hb hK hM (sh19 kc_132) (kd_lt kc_132 (by decide)) (i := 3) (by omega) (by decide) dX11_errors_12 ?_
  refine sn_top (y := rE A) (hA.1.2.2.2.1) ?_
  refine sg_ci (sg_runV (d := 4) (As := [.int (nI (rN A)), .int (rE A)]) (rest := []) hx hb hml hts hown hK hM (m_finds l G b σ A hR hA (rN A) (rE A) (Nat.le_refl _)) mi_X11_finds wl_X11_136 (sh18 kc_131) (kd_lt kc_131 (by decide)) rfl rfl rfl hl.1 rfl (Nat.le_of_ble_eq_true rfl) dX11_errors_13 ⟨by decide, by decide⟩ ⟨Nat.le_refl 0, Nat.le_refl 0⟩) hM sgA (fun r1 σ1 H locs hq hM => ?_)
  obtain ⟨hr1, hq1, hq2⟩ := hq
  have hr1 : r1 = nI (dE A) := hr1
  subst hr1
  have hA1 : RecF (σ1 132) A := by rw [hq2 132 (by omega)]; exact hA
  refine lv_ldc (v := nI 99999999) hx hb hown (hts (Cond.constant RX11 57 (nI 99999999)) wk_X11_57) dX11_errors_16 ?_
  refine sn_icmp_ne (tgt := 23) hx hb dX11_errors_18 (by decide) (by have := dE_le hR; omega) (by omega) (fun d1 => ?_) (fun d1 => ?_)
  · have hd : dE A < NV := Nat.lt_of_le_of_ne (dE_le hR) d1
    refine lv_iconst (v := nI 0) hx hb dX11_errors_23 (by decide) ?_
    refine lv_istore_n (lv' := [(1, .int (nI 0)), (0, .ref (b + 131))]) hx hb dX11_errors_24 rfl hl (by decide) rfl (fun ls hl => ?_)
    refine lv_iconst (v := nI 0) hx hb dX11_errors_25 (by decide) ?_
    refine lv_istore_n (lv' := [(2, .int (nI 0)), (1, .int (nI 0)), (0, .ref (b + 131))]) hx hb dX11_errors_26 rfl hl (by decide) rfl (fun ls hl => ?_)
    have L27 : ∀ (fuel : Nat) (k : Nat), (k ≤ rN A ∧ k ≤ rS A) → (25 - k) < fuel → ∀ (H : Heap) (locs : List Loc) (ls : Array Slot), St G (Fr b) b σ1 vs H locs → lv_has ls 3 [(0, .ref (b + 131)), (1, .int (nI (unN A k))), (2, .int (nI k))] → W vp l ve (RM 5) vs vm args below meth vc H locs 0 0 Q (F0 vm 27 ls []) := by
      intro fuel
      induction fuel with
      | zero => intro k hk hF; exact absurd hF (Nat.not_lt_zero _)
      | succ fuel ih27 =>
        intro k hk hF H locs ls hM hl
        refine lv_iload_n hx hb dX11_errors_27 rfl (lv_at hl 2 rfl) ?_
        refine lv_aload_n hx hb dX11_errors_28 rfl (lv_at hl 0 rfl) ?_
        refine sg_get (v := .ref (b + 132)) hx hb hts hown hK hM (sh18 kc_131) (kd_lt kc_131 (by decide)) rfl inX11 0 (by decide) wf_X11_7 rfl dX11_errors_29 ?_
        refine lv_iconst (v := nI 5) hx hb dX11_errors_32 (by decide) ?_
        refine sg_iald hx hb hK hM (sh19 kc_132) (kd_lt kc_132 (by decide)) (i := 5) (by omega) (by decide) dX11_errors_33 ?_
        refine sn_top (y := nI (rN A)) (hA1.1.2.2.2.2.2) ?_
        refine sn_icmp_ge (tgt := 74) hx hb dX11_errors_34 (by decide) (by omega) (by omega) (fun d2 => ?_) (fun d2 => ?_)
        · refine lv_iload_n hx hb dX11_errors_74 rfl (lv_at hl 1 rfl) ?_
          exact hret _ _ _ _ _ _ dX11_errors_75 hM (⟨by unfold unA; rw [if_pos hd, show k = min (rS A) (rN A) by omega], hq2⟩)
        · refine lv_iload_n hx hb dX11_errors_37 rfl (lv_at hl 2 rfl) ?_
          refine lv_aload_n hx hb dX11_errors_38 rfl (lv_at hl 0 rfl) ?_
          refine sg_get (v := .ref (b + 132)) hx hb hts hown hK hM (sh18 kc_131) (kd_lt kc_131 (by decide)) rfl inX11 0 (by decide) wf_X11_7 rfl dX11_errors_39 ?_
          refine lv_iconst (v := nI 4) hx hb dX11_errors_42 (by decide) ?_
          refine sg_iald hx hb hK hM (sh19 kc_132) (kd_lt kc_132 (by decide)) (i := 4) (by omega) (by decide) dX11_errors_43 ?_
          refine sn_top (y := nI (rS A)) (hA1.1.2.2.2.2.1) ?_
          refine sn_icmp_ge (tgt := 74) hx hb dX11_errors_44 (by decide) (by omega) (by omega) (fun d3 => ?_) (fun d3 => ?_)
          · refine lv_iload_n hx hb dX11_errors_74 rfl (lv_at hl 1 rfl) ?_
            exact hret _ _ _ _ _ _ dX11_errors_75 hM (⟨by unfold unA; rw [if_pos hd, show k = min (rS A) (rN A) by omega], hq2⟩)
          · refine lv_iload_n hx hb dX11_errors_47 rfl (lv_at hl 1 rfl) ?_
            refine lv_aload_n hx hb dX11_errors_48 rfl (lv_at hl 0 rfl) ?_
            refine lv_iload_n hx hb dX11_errors_49 rfl (lv_at hl 2 rfl) ?_
            refine sg_ci (sg_runV (d := 2) (As := [.int (nI k)]) (rest := [.int (nI (unN A k))]) hx hb hml hts hown hK hM (m_pointOf l G b σ1 A hR hA1 (rN A) (rE A) k hN24 d2 (hq1 hd)) mi_X11_pointOf wl_X11_139 (sh18 kc_131) (kd_lt kc_131 (by decide)) rfl rfl rfl hl.1 rfl (Nat.le_of_ble_eq_true rfl) dX11_errors_50 ⟨by decide, by decide⟩ ⟨Nat.le_refl 0, Nat.le_refl 0⟩) hM sgA (fun r_50 σ_50 H locs hp_50 hM => ?_)
            obtain ⟨hr_50, hs_50⟩ := hp_50; subst r_50; subst σ_50
            refine lv_aload_n hx hb dX11_errors_53 rfl (lv_at hl 0 rfl) ?_
            refine lv_iload_n hx hb dX11_errors_54 rfl (lv_at hl 2 rfl) ?_
            refine sg_ci (sg_runV (d := 2) (As := [.int (nI k)]) (rest := [.int (nI (pA A (rN A) (rE A) k)), .int (nI (unN A k))]) hx hb hml hts hown hK hM (m_pointSent l G b σ1 A hR hA1 k d3) mi_X11_pointSent wl_X11_102 (sh18 kc_131) (kd_lt kc_131 (by decide)) rfl rfl rfl hl.1 rfl (Nat.le_of_ble_eq_true rfl) dX11_errors_55 ⟨by decide, by decide⟩ ⟨Nat.le_refl 0, Nat.le_refl 0⟩) hM sgA (fun r_55 σ_55 H locs hp_55 hM => ?_)
            obtain ⟨hr_55, hs_55⟩ := hp_55; subst r_55; subst σ_55
            refine sn_icmp_eq (tgt := 65) hx hb dX11_errors_58 (by decide) (by have : pA A (rN A) (rE A) k < 16 := pt_lt (fam_lt _ _ _ _ _) (cw_lt _ _ _); omega) (by have : ptS A k < 16 := pt_lt (fam_lt _ _ _ _ _) (hR.2.2.1 k d3).2; omega) (fun c_58 => ?_) (fun c_58 => ?_)
            · refine lv_iconst (v := nI 0) hx hb dX11_errors_65 (by decide) ?_
              refine sn_top (y := nI (if ptS A k = pA A (rN A) (rE A) k then 0 else 1)) (by rw [if_pos c_58.symm]) ?_
              refine sn_iadd hx hb dX11_errors_66 ?_
              refine sn_top (y := nI (unN A (k + 1))) (rfl) ?_
              refine lv_istore_n (lv' := [(1, .int (nI (unN A (k + 1)))), (0, .ref (b + 131)), (2, .int (nI k))]) hx hb dX11_errors_67 rfl hl (by decide) rfl (fun ls hl => ?_)
              refine lv_iinc (v := nI (k + 1)) (lv' := [(2, .int (nI (k + 1))), (1, .int (nI (unN A (k + 1)))), (0, .ref (b + 131))]) hx hb dX11_errors_68 hl (k := 2) rfl (q_inc _) (by decide) rfl (fun ls hl => ?_)
              refine lv_goto (tgt := 27) hx hb dX11_errors_71 (by decide) ?_
              exact ih27 (k + 1) (by omega) (by omega) _ _ _ hM (lv_sub hl [2, 1, 0] rfl)
            · refine lv_iconst (v := nI 1) hx hb dX11_errors_61 (by decide) ?_
              refine sn_top (y := nI (if ptS A k = pA A (rN A) (rE A) k then 0 else 1)) (by rw [if_neg (fun z => c_58 z.symm)]) ?_
              refine lv_goto (tgt := 66) hx hb dX11_errors_62 (by decide) ?_
              refine sn_iadd hx hb dX11_errors_66 ?_
              refine sn_top (y := nI (unN A (k + 1))) (rfl) ?_
              refine lv_istore_n (lv' := [(1, .int (nI (unN A (k + 1)))), (0, .ref (b + 131)), (2, .int (nI k))]) hx hb dX11_errors_67 rfl hl (by decide) rfl (fun ls hl => ?_)
              refine lv_iinc (v := nI (k + 1)) (lv' := [(2, .int (nI (k + 1))), (1, .int (nI (unN A (k + 1)))), (0, .ref (b + 131))]) hx hb dX11_errors_68 hl (k := 2) rfl (q_inc _) (by decide) rfl (fun ls hl => ?_)
              refine lv_goto (tgt := 27) hx hb dX11_errors_71 (by decide) ?_
              exact ih27 (k + 1) (by omega) (by omega) _ _ _ hM (lv_sub hl [2, 1, 0] rfl)
    exact L27 (_ + 1) 0 (⟨Nat.zero_le _, Nat.zero_le _⟩) (Nat.lt_succ_self _) _ _ _ hM (lv_sub hl [2, 1, 0] rfl)
  · refine lv_iconst (v := nI 0) hx hb dX11_errors_21 (by decide) ?_
    exact hret _ _ _ _ _ _ dX11_errors_22 hM (⟨by unfold unA; rw [if_neg (by omega)], hq2⟩)
set_option maxHeartbeats 4000000 in
set_option maxRecDepth 100000 in
theorem m_signs (l : Launch) (G : GT) (b : Nat) (σ : Mem) (A : Rec) (hR : ROk A) (hA : RecF (σ 132) A) : KI l G b yX11_signs cX11_signs 2 5 σ [.ref (b + 131)] (fun r σ' => r = nI (sgA' A) ∧ (dE A < NV → RowR σ' A (rN A) (rE A) (rN A)) ∧ ∀ c, c < 136 ∨ 140 ≤ c → σ' c = σ c) := by
  refine sg_metI [.ref (b + 131)] (by decide) (Nat.le_of_ble_eq_true rfl) ?_
  intro vp ve vs vm args below meth vc ls Q hx hb hml hown hts hK hM hl hret
  have hl : lv_has ls 2 [(0, .ref (b + 131))] := hl
  have hS24 := hR.2.1.1
  have hN24 := hR.2.1.2
  have hNV : NV = 99999999 := rfl
  refine lv_aload_n hx hb dX11_signs_0 rfl (lv_at hl 0 rfl) ?_
  refine sg_get (v := .ref (b + 132)) hx hb hts hown hK hM (sh18 kc_131) (kd_lt kc_131 (by decide)) rfl inX11 0 (by decide) wf_X11_7 rfl dX11_signs_1 ?_
  refine lv_iconst (v := nI 5) hx hb dX11_signs_4 (by decide) ?_
  refine sg_iald hx hb hK hM (sh19 kc_132) (kd_lt kc_132 (by decide)) (i := 5) (by omega) (by decide) dX11_signs_5 ?_
  refine sn_top (y := nI (rN A)) (hA.1.2.2.2.2.2) ?_
  refine lv_istore_n (lv' := [(1, .int (nI (rN A))), (0, .ref (b + 131))]) hx hb dX11_signs_6 rfl hl (by decide) rfl (fun ls hl => ?_)
  refine lv_aload_n hx hb dX11_signs_7 rfl (lv_at hl 1 rfl) ?_
  refine lv_iload_n hx hb dX11_signs_8 rfl (lv_at hl 0 rfl) ?_
  refine lv_aload_n hx hb dX11_signs_9 rfl (lv_at hl 1 rfl) ?_
  refine sg_get (v := .ref (b + 132)) hx hb hts hown hK hM (sh18 kc_131) (kd_lt kc_131 (by decide)) rfl inX11 0 (by decide) wf_X11_7 rfl dX11_signs_10 ?_
  refine lv_iconst (v := nI 3) hx hb dX11_signs_13 (by decide) ?_
  refine sg_iald hx hb hK hM (sh19 kc_132) (kd_lt kc_132 (by decide)) (i := 3) (by omega) (by decide) dX11_signs_14 ?_
  refine sn_top (y := rE A) (hA.1.2.2.2.1) ?_
  refine sg_ci (sg_runV (d := 4) (As := [.int (nI (rN A)), .int (rE A)]) (rest := []) hx hb hml hts hown hK hM (m_finds l G b σ A hR hA (rN A) (rE A) (Nat.le_refl _)) mi_X11_finds wl_X11_136 (sh18 kc_131) (kd_lt kc_131 (by decide)) rfl rfl rfl hl.1 rfl (Nat.le_of_ble_eq_true rfl) dX11_signs_15 ⟨by decide, by decide⟩ ⟨Nat.le_refl 0, Nat.le_refl 0⟩) hM sgA (fun r1 σ1 H locs hq hM => ?_)
  obtain ⟨hr1, hq1, hq2⟩ := hq
  have hr1 : r1 = nI (dE A) := hr1
  subst hr1
  have hA1 : RecF (σ1 132) A := by rw [hq2 132 (by omega)]; exact hA
  refine lv_ldc (v := nI 99999999) hx hb hown (hts (Cond.constant RX11 57 (nI 99999999)) wk_X11_57) dX11_signs_18 ?_
  refine sn_icmp_eq (tgt := 27) hx hb dX11_signs_20 (by decide) (by have := dE_le hR; omega) (by omega) (fun d1 => ?_) (fun d1 => ?_)
  · refine lv_iconst (v := nI 0) hx hb dX11_signs_27 (by decide) ?_
    refine lv_goto (tgt := 40) hx hb dX11_signs_28 (by decide) ?_
    exact hret _ _ _ _ _ _ dX11_signs_40 hM (⟨by unfold sgA'; rw [if_neg (fun z => by first | omega | exact z.2 (by assumption))], hq1, hq2⟩)
  · refine lv_iload_n hx hb dX11_signs_23 rfl (lv_at hl 0 rfl) ?_
    refine sn_if_ne (tgt := 31) hx hb dX11_signs_24 (by decide) (by omega) (fun d2 => ?_) (fun d2 => ?_)
    · refine lv_iconst (v := nI 2) hx hb dX11_signs_31 (by decide) ?_
      refine lv_iload_n hx hb dX11_signs_32 rfl (lv_at hl 0 rfl) ?_
      refine sn_imul hx hb dX11_signs_33 ?_
      refine lv_iload_n hx hb dX11_signs_34 rfl (lv_at hl 0 rfl) ?_
      refine lv_iconst (v := nI 1) hx hb dX11_signs_35 (by decide) ?_
      refine sn_isub hx hb dX11_signs_36 (by omega) ?_
      refine lv_iconst (v := nI 4) hx hb dX11_signs_37 (by decide) ?_
      refine sn_idiv hx hb dX11_signs_38 (by omega) (by omega) (by omega) ?_
      refine sn_iadd hx hb dX11_signs_39 ?_
      exact hret _ _ _ _ _ _ dX11_signs_40 hM (⟨by unfold sgA'; rw [if_pos ⟨Nat.lt_of_le_of_ne (dE_le hR) d1, d2⟩], hq1, hq2⟩)
    · refine lv_iconst (v := nI 0) hx hb dX11_signs_27 (by decide) ?_
      refine lv_goto (tgt := 40) hx hb dX11_signs_28 (by decide) ?_
      exact hret _ _ _ _ _ _ dX11_signs_40 hM (⟨by unfold sgA'; rw [if_neg (fun z => by first | omega | exact z.2 (by assumption))], hq1, hq2⟩)
set_option maxHeartbeats 4000000 in
set_option maxRecDepth 100000 in
theorem m_apartBy (l : Launch) (G : GT) (b : Nat) (σ : Mem) (m g h a u b1 v : Nat) (hc : RCd σ m g h) (ha : a < 2 ^ m) (hu : u < 2) (hb1 : b1 < 2 ^ m) (hv : v < 2) : KI l G b yX11_apartBy cX11_apartBy 7 3 σ [.ref (b + 131), .int (nI a), .int (nI u), .int (nI b1), .int (nI v)] (fun r σ' => r = nI (apv m g h a u b1 v) ∧ σ' = σ) := by
  refine sg_metI [.ref (b + 131), .int (nI a), .int (nI u), .int (nI b1), .int (nI v)] (by decide) (Nat.le_of_ble_eq_true rfl) ?_
  intro vp ve vs vm args below meth vc ls Q hx hb hml hown hts hK hM hl hret
  have hl : lv_has ls 7 [(0, .ref (b + 131)), (1, .int (nI a)), (2, .int (nI u)), (3, .int (nI b1)), (4, .int (nI v))] := hl
  refine lv_aload_n hx hb dX11_apartBy_0 rfl (lv_at hl 0 rfl) ?_
  refine lv_iload_n hx hb dX11_apartBy_1 rfl (lv_at hl 1 rfl) ?_
  refine lv_iload_n hx hb dX11_apartBy_2 rfl (lv_at hl 2 rfl) ?_
  refine sg_ci (sg_runV (d := 1) (As := [.int (nI a), .int (nI u)]) (rest := []) hx hb hml hts hown hK hM (m_fam l G b σ m g h a u (hc) (by assumption) (by assumption)) mi_X11_familyBy wl_X11_94 (sh18 kc_131) (kd_lt kc_131 (by decide)) rfl rfl rfl hl.1 rfl (Nat.le_of_ble_eq_true rfl) dX11_apartBy_3 ⟨by decide, by decide⟩ ⟨Nat.le_refl 0, Nat.le_refl 0⟩) hM sgA (fun r_3 σ_3 H locs hp_3 hM => ?_)
  obtain ⟨hr_3, hs_3⟩ := hp_3; subst r_3; subst σ_3
  refine lv_istore (lv' := [(5, .int (nI (fam m g h a u))), (0, .ref (b + 131)), (1, .int (nI a)), (2, .int (nI u)), (3, .int (nI b1)), (4, .int (nI v))]) hx hb dX11_apartBy_6 hl (by decide) rfl (fun ls hl => ?_)
  refine lv_aload_n hx hb dX11_apartBy_8 rfl (lv_at hl 1 rfl) ?_
  refine lv_iload_n hx hb dX11_apartBy_9 rfl (lv_at hl 4 rfl) ?_
  refine lv_iload hx hb dX11_apartBy_10 (lv_at hl 5 rfl) ?_
  refine sg_ci (sg_runV (d := 1) (As := [.int (nI b1), .int (nI v)]) (rest := []) hx hb hml hts hown hK hM (m_fam l G b σ m g h b1 v (hc) (by assumption) (by assumption)) mi_X11_familyBy wl_X11_94 (sh18 kc_131) (kd_lt kc_131 (by decide)) rfl rfl rfl hl.1 rfl (Nat.le_of_ble_eq_true rfl) dX11_apartBy_12 ⟨by decide, by decide⟩ ⟨Nat.le_refl 0, Nat.le_refl 0⟩) hM sgA (fun r_12 σ_12 H locs hp_12 hM => ?_)
  obtain ⟨hr_12, hs_12⟩ := hp_12; subst r_12; subst σ_12
  refine lv_istore (lv' := [(6, .int (nI (fam m g h b1 v))), (5, .int (nI (fam m g h a u))), (0, .ref (b + 131)), (1, .int (nI a)), (2, .int (nI u)), (3, .int (nI b1)), (4, .int (nI v))]) hx hb dX11_apartBy_15 hl (by decide) rfl (fun ls hl => ?_)
  refine lv_iload hx hb dX11_apartBy_17 (lv_at hl 1 rfl) ?_
  refine lv_iload hx hb dX11_apartBy_19 (lv_at hl 0 rfl) ?_
  refine sn_icmp_ne (tgt := 28) hx hb dX11_apartBy_21 (by decide) (by have := fam_lt m g h a u; omega) (by have := fam_lt m g h b1 v; omega) (fun d1 => ?_) (fun d1 => ?_)
  · refine lv_iload hx hb dX11_apartBy_28 (lv_at hl 1 rfl) ?_
    refine lv_iload hx hb dX11_apartBy_30 (lv_at hl 0 rfl) ?_
    refine sg_ci (sg_runS (d := 2) (As := [.int (nI (fam m g h a u)), .int (nI (fam m g h b1 v))]) (rest := []) hx hb hml hts hown hK hM (m_apartOf l G b σ (fam m g h a u) (fam m g h b1 v) (fam_lt _ _ _ _ _) (fam_lt _ _ _ _ _)) mi_X11_apartOf wl_X11_142 rfl hl.1 rfl (Nat.le_of_ble_eq_true rfl) dX11_apartBy_32 ⟨by decide, by decide⟩ ⟨Nat.le_refl 0, Nat.le_refl 0⟩) hM sgA (fun r_32 σ_32 H locs hp_32 hM => ?_)
    obtain ⟨hr_32, hs_32⟩ := hp_32; subst r_32; subst σ_32
    exact hret _ _ _ _ _ _ dX11_apartBy_35 hM (⟨by unfold apv g0; first | rw [if_pos d1] | rw [if_neg d1], rfl⟩)
  · refine lv_iconst (v := nI 0) hx hb dX11_apartBy_24 (by decide) ?_
    refine lv_goto (tgt := 35) hx hb dX11_apartBy_25 (by decide) ?_
    exact hret _ _ _ _ _ _ dX11_apartBy_35 hM (⟨by unfold apv g0; first | rw [if_pos d1] | rw [if_neg d1], rfl⟩)
def Vd (m : Nat) (tv : Nat → Nat) : Prop := ∀ i, tv i < NV → i / 8 < 2 ^ m ∧ i % 8 < 2 ^ m
theorem vd_ab {m a b i : Nat} (hm : m ≤ 3) (ha : a < 2 ^ m) (hb : b < 2 ^ m) (e : i = a * 8 + b) : i / 8 < 2 ^ m ∧ i % 8 < 2 ^ m := by
  have := p2_le hm
  omega
theorem Vd_P {m g h s : Nat} {tv : Nat → Nat} (hm : m ≤ 3) (hs : s ≤ 2 ^ m) (H : P0s m g h s tv) : Vd m tv := by
  intro i hi
  rcases H.1 i with q | ⟨s1, q, r, _⟩
  · omega
  · exact vd_ab hm (nx_lt (by decide) (by omega)) (nx_lt (by decide) (by omega)) r
theorem Vd_A {m g h l0 p l : Nat} {tv lv : Nat → Nat} (hm : m ≤ 3) (H : AVs m g h tv l0 p l lv) : Vd m lv := by
  intro i hi
  rcases H.2.2.2.1 i with q | ⟨a, b, u, v, x, _, _, e, _⟩
  · omega
  · exact vd_ab hm (nx_lt x.2.2.1 x.1) (nx_lt x.2.2.2 x.2.1) e
theorem AVs_skip2 {m g h : Nat} {tv : Nat → Nat} {l0 k l : Nat} {lv : Nat → Nat} (H : AVs m g h tv l0 k l lv) (hl : l ≤ tv k) : AVs m g h tv l0 (k + 1) l lv := by
  obtain ⟨h1, h2, h3, h4, h5⟩ := H
  refine ⟨h1, h2, fun a1 b1 u v x y z => ?_, h4, fun a1 b1 u v x y z => ?_⟩
  · by_cases e : a1 * 8 + b1 = k
    · rw [e]; omega
    · exact h3 a1 b1 u v x (by omega) z
  · by_cases e : a1 * 8 + b1 = k
    · rw [e]; exact Or.inr hl
    · exact h5 a1 b1 u v x (by omega) z
theorem AVs_pair2 {m g h : Nat} {tv : Nat → Nat} {l0 k l : Nat} {lv lw : Nat → Nat} {rv : Nat} (hm : m ≤ 3) (hk : k / 8 < 2 ^ m ∧ k % 8 < 2 ^ m) (H : AVs m g h tv l0 k l lv) (hl : l ≤ NV) (ht : tv k < NV) (P : APs m g h (k / 8) (k % 8) (tv k) 4 lv rv lw) : AVs m g h tv l0 (k + 1) (min l rv) lw := by
  have e : k / 8 * 8 + k % 8 = k := by omega
  have q := AVs_pair (tv := tv) (a := k / 8) (b := k % 8) (l0 := l0) (l := l) (lv := lv) (lw := lw) (rv := rv) hm hk.1 hk.2 (by rw [e]; exact H) hl (by rw [e]; exact ht) (by rw [e]; exact P)
  rw [e] at q
  exact q
theorem APs_c2 {m g h a b t0 q : Nat} {lv lw : Nat → Nat} {rv : Nat} (H : APs m g h a b t0 q lv rv lw) (hq : q < 4) (hc : nx m a (q / 2) = nx m b (q % 2)) : APs m g h a b t0 (q + 1) lv (min rv (t0 + apv m g h a (q / 2) b (q % 2))) lw := by
  have e : 2 * (q / 2) + q % 2 = q := by omega
  have z := APs_c (u := q / 2) (v := q % 2) (by rw [e]; exact H) (by omega) (by omega) hc
  rw [e] at z
  exact z
theorem APs_n2 {m g h a b t0 q : Nat} {lv lw : Nat → Nat} {rv : Nat} (H : APs m g h a b t0 q lv rv lw) (hq : q < 4) (hc : nx m a (q / 2) ≠ nx m b (q % 2)) : APs m g h a b t0 (q + 1) lv rv (fu lw (nx m a (q / 2) * 8 + nx m b (q % 2)) (min (lw (nx m a (q / 2) * 8 + nx m b (q % 2))) (t0 + apv m g h a (q / 2) b (q % 2)))) := by
  have e : 2 * (q / 2) + q % 2 = q := by omega
  have z := APs_n (u := q / 2) (v := q % 2) (by rw [e]; exact H) (by omega) (by omega) hc
  rw [e] at z
  exact z
theorem fr_end {m g h : Nat} {tv : Nat → Nat} {l0 k l l3 q : Nat} {lv lw : Nat → Nat} {rv : Nat} (hm : m ≤ 3) (hk : tv k < NV → k / 8 < 2 ^ m ∧ k % 8 < 2 ^ m) (H : AVs m g h tv l0 k l lv) (hl : l ≤ NV) (P : APs m g h (k / 8) (k % 8) (tv k) q lv rv lw) (e : l3 = min l rv) (z : tv k < NV ∨ (l3 = l ∧ lw = lv)) (x : q = 4 ∨ NV ≤ tv k) : AVs m g h tv l0 (k + 1) l3 lw := by
  by_cases t : tv k < NV
  · have q4 : q = 4 := by omega
    subst q4
    rw [e]
    exact AVs_pair2 hm (hk t) H hl t P
  · rcases z with z | ⟨z1, z2⟩
    · exact absurd z t
    · rw [z1, z2]
      exact AVs_skip2 H (by omega)
set_option maxHeartbeats 4000000 in
set_option maxRecDepth 100000 in
theorem m_free (l : Launch) (G : GT) (b : Nat) (σ : Mem) (m g h : Nat) (hc : RCd σ m g h) : KI l G b yX11_free cX11_free 9 4 σ [.ref (b + 131)] (fun r σ' => r = nI (freeV m g h) ∧ ∀ c, c < 140 ∨ 142 ≤ c → σ' c = σ c) := by
  refine sg_metI [.ref (b + 131)] (by decide) (Nat.le_of_ble_eq_true rfl) ?_
  intro vp ve vs vm args below meth vc ls Q hx hb hml hown hts hK hM hl hret
  have hl : lv_has ls 9 [(0, .ref (b + 131))] := hl
  have hm8 := p2_le hc.m
  have hNV : NV = 99999999 := rfl
  refine lv_ldc (v := nI 99999999) hx hb hown (hts (Cond.constant RX11 57 (nI 99999999)) wk_X11_57) dX11_free_0 ?_
  refine lv_istore_n (lv' := [(1, .int (nI 99999999)), (0, .ref (b + 131))]) hx hb dX11_free_2 rfl hl (by decide) rfl (fun ls hl => ?_)
  refine lv_iconst (v := nI 0) hx hb dX11_free_3 (by decide) ?_
  refine lv_istore_n (lv' := [(2, .int (nI 0)), (1, .int (nI 99999999)), (0, .ref (b + 131))]) hx hb dX11_free_4 rfl hl (by decide) rfl (fun ls hl => ?_)
  have L5 : ∀ (fuel : Nat) (f1 : Nat), (f1 ≤ 4) → (4 - f1) < fuel → ∀ (H : Heap) (locs : List Loc) (ls : Array Slot), St G (Fr b) b σ vs H locs → lv_has ls 9 [(0, .ref (b + 131)), (1, .int (nI (gm f1))), (2, .int (nI f1))] → W vp l ve (RM 4) vs vm args below meth vc H locs 0 0 Q (F0 vm 5 ls []) := by
    intro fuel
    induction fuel with
    | zero => intro f1 hf1 hF; exact absurd hF (Nat.not_lt_zero _)
    | succ fuel ih5 =>
      intro f1 hf1 hF H locs ls hM hl
      refine lv_iload_n hx hb dX11_free_5 rfl (lv_at hl 2 rfl) ?_
      refine lv_iconst (v := nI 4) hx hb dX11_free_6 (by decide) ?_
      refine sn_icmp_ge (tgt := 33) hx hb dX11_free_7 (by decide) (by omega) (by omega) (fun c_7 => ?_) (fun c_7 => ?_)
      · obtain rfl : f1 = 4 := by omega
        have hl : lv_has ls 9 [(0, .ref (b + 131)), (1, .int (nI (gm 4))), (2, .int (nI 4))] := hl
        refine lv_aload_n hx hb dX11_free_33 rfl (lv_at hl 0 rfl) ?_
        refine sg_ci (sg_runV (d := 0) (As := []) (rest := []) hx hb hml hts hown hK hM (m_states l G b σ m g h hc) mi_X11_manyStates wl_X11_73 (sh18 kc_131) (kd_lt kc_131 (by decide)) rfl rfl rfl hl.1 rfl (Nat.le_of_ble_eq_true rfl) dX11_free_34 ⟨by decide, by decide⟩ ⟨Nat.le_refl 0, Nat.le_refl 0⟩) hM sgA (fun r_34 σ_34 H locs hp_34 hM => ?_)
        obtain ⟨hr_34, hs_34⟩ := hp_34; subst r_34; subst σ_34
        refine lv_istore_n (lv' := [(2, .int (nI (2 ^ m))), (0, .ref (b + 131)), (1, .int (nI (gm 4)))]) hx hb dX11_free_37 rfl hl (by decide) rfl (fun ls hl => ?_)
        refine lv_iconst (v := nI 0) hx hb dX11_free_38 (by decide) ?_
        refine lv_istore_n (lv' := [(3, .int (nI 0)), (2, .int (nI (2 ^ m))), (0, .ref (b + 131)), (1, .int (nI (gm 4)))]) hx hb dX11_free_39 rfl hl (by decide) rfl (fun ls hl => ?_)
        have L40 : ∀ (fuel : Nat) (k0 : Nat) (σ1 : Mem), (k0 ≤ 64) → (∀ i, i < k0 → σ1 140 i = nI NV) → (∀ c, c ≠ 140 → σ1 c = σ c) → (64 - k0) < fuel → ∀ (H : Heap) (locs : List Loc) (ls : Array Slot), St G (Fr b) b σ1 vs H locs → lv_has ls 9 [(0, .ref (b + 131)), (1, .int (nI (gm 4))), (2, .int (nI (2 ^ m))), (3, .int (nI k0))] → W vp l ve (RM 4) vs vm args below meth vc H locs 0 0 Q (F0 vm 40 ls []) := by
          intro fuel
          induction fuel with
          | zero => intro k0 σ1 hk0 a1 a2 hF; exact absurd hF (Nat.not_lt_zero _)
          | succ fuel ih40 =>
            intro k0 σ1 hk0 a1 a2 hF H locs ls hM hl
            refine lv_iload_n hx hb dX11_free_40 rfl (lv_at hl 3 rfl) ?_
            refine lv_bipush (v := nI 64) hx hb dX11_free_41 (by decide) ?_
            refine sn_icmp_ge (tgt := 60) hx hb dX11_free_43 (by decide) (by omega) (by omega) (fun c_43 => ?_) (fun c_43 => ?_)
            · refine lv_iconst (v := nI 0) hx hb dX11_free_60 (by decide) ?_
              refine lv_istore_n (lv' := [(3, .int (nI 0)), (0, .ref (b + 131)), (1, .int (nI (gm 4))), (2, .int (nI (2 ^ m)))]) hx hb dX11_free_61 rfl hl (by decide) rfl (fun ls hl => ?_)
              have L62 : ∀ (fuel : Nat) (s1 : Nat) (σ2 : Mem) (tv : Nat → Nat), (s1 ≤ 2 ^ m) → (Ar σ2 140 64 tv) → (P0s m g h s1 tv) → (∀ c, c ≠ 140 → σ2 c = σ c) → (2 ^ m - s1) < fuel → ∀ (H : Heap) (locs : List Loc) (ls : Array Slot), St G (Fr b) b σ2 vs H locs → lv_has ls 9 [(0, .ref (b + 131)), (1, .int (nI (gm 4))), (2, .int (nI (2 ^ m))), (3, .int (nI s1))] → W vp l ve (RM 4) vs vm args below meth vc H locs 0 0 Q (F0 vm 62 ls []) := by
                intro fuel
                induction fuel with
                | zero => intro s1 σ2 tv hs1 b1 b2 b3 hF; exact absurd hF (Nat.not_lt_zero _)
                | succ fuel ih62 =>
                  intro s1 σ2 tv hs1 b1 b2 b3 hF H locs ls hM hl
                  refine lv_iload_n hx hb dX11_free_62 rfl (lv_at hl 3 rfl) ?_
                  refine lv_iload_n hx hb dX11_free_63 rfl (lv_at hl 2 rfl) ?_
                  refine sn_icmp_ge (tgt := 132) hx hb dX11_free_64 (by decide) (by omega) (by omega) (fun hls => ?_) (fun hls => ?_)
                  · refine lv_iconst (v := nI 2) hx hb dX11_free_132 (by decide) ?_
                    refine lv_istore_n (lv' := [(3, .int (nI 2)), (0, .ref (b + 131)), (1, .int (nI (gm 4))), (2, .int (nI (2 ^ m)))]) hx hb dX11_free_133 rfl hl (by decide) rfl (fun ls hl => ?_)
                    have L134 : ∀ (fuel : Nat) (t1 : Nat) (l1 : Nat) (σ3 : Mem) (tw : Nat → Nat), (t1 ≤ 29) → (l1 ≤ NV) → (Ar σ3 140 64 tw) → (FrI m g h t1 l1) → (Tv m g h t1 l1 tw) → (Vd m tw) → (∀ c, c ≠ 140 → c ≠ 141 → σ3 c = σ c) → (30 - t1) < fuel → ∀ (H : Heap) (locs : List Loc) (ls : Array Slot), St G (Fr b) b σ3 vs H locs → lv_has ls 9 [(0, .ref (b + 131)), (1, .int (nI l1)), (2, .int (nI (2 ^ m))), (3, .int (nI (t1 + 2)))] → W vp l ve (RM 4) vs vm args below meth vc H locs 0 0 Q (F0 vm 134 ls []) := by
                      intro fuel
                      induction fuel with
                      | zero => intro t1 l1 σ3 tw ht1 hl1 e1 e2 e3 e4 e5 hF; exact absurd hF (Nat.not_lt_zero _)
                      | succ fuel ih134 =>
                        intro t1 l1 σ3 tw ht1 hl1 e1 e2 e3 e4 e5 hF H locs ls hM hl
                        refine lv_iload_n hx hb dX11_free_134 rfl (lv_at hl 3 rfl) ?_
                        refine lv_bipush (v := nI 30) hx hb dX11_free_135 (by decide) ?_
                        refine sn_icmp_gt (tgt := 378) hx hb dX11_free_137 (by decide) (by omega) (by omega) (fun hgt => ?_) (fun hgt => ?_)
                        · refine lv_iload_n hx hb dX11_free_378 rfl (lv_at hl 1 rfl) ?_
                          obtain rfl : t1 = 29 := by omega
                          exact hret _ _ _ _ _ _ dX11_free_379 hM (⟨by rw [freeV_eq e2], fun c q => e5 c (by omega) (by omega)⟩)
                        · refine lv_iconst (v := nI 0) hx hb dX11_free_140 (by decide) ?_
                          refine lv_istore (lv' := [(4, .int (nI 0)), (0, .ref (b + 131)), (1, .int (nI l1)), (2, .int (nI (2 ^ m))), (3, .int (nI (t1 + 2)))]) hx hb dX11_free_141 hl (by decide) rfl (fun ls hl => ?_)
                          have L143 : ∀ (fuel : Nat) (k0 : Nat) (σ4 : Mem), (k0 ≤ 64) → (∀ i, i < k0 → σ4 141 i = nI NV) → (∀ c, c ≠ 141 → σ4 c = σ3 c) → (64 - k0) < fuel → ∀ (H : Heap) (locs : List Loc) (ls : Array Slot), St G (Fr b) b σ4 vs H locs → lv_has ls 9 [(0, .ref (b + 131)), (1, .int (nI l1)), (2, .int (nI (2 ^ m))), (3, .int (nI (t1 + 2))), (4, .int (nI k0))] → W vp l ve (RM 4) vs vm args below meth vc H locs 0 0 Q (F0 vm 143 ls []) := by
                            intro fuel
                            induction fuel with
                            | zero => intro k0 σ4 hk0 a1 a2 hF; exact absurd hF (Nat.not_lt_zero _)
                            | succ fuel ih143 =>
                              intro k0 σ4 hk0 a1 a2 hF H locs ls hM hl
                              refine lv_iload hx hb dX11_free_143 (lv_at hl 4 rfl) ?_
                              refine lv_bipush (v := nI 64) hx hb dX11_free_145 (by decide) ?_
                              refine sn_icmp_ge (tgt := 165) hx hb dX11_free_147 (by decide) (by omega) (by omega) (fun c_147 => ?_) (fun c_147 => ?_)
                              · refine lv_iconst (v := nI 0) hx hb dX11_free_165 (by decide) ?_
                                refine lv_istore (lv' := [(4, .int (nI 0)), (0, .ref (b + 131)), (1, .int (nI l1)), (2, .int (nI (2 ^ m))), (3, .int (nI (t1 + 2)))]) hx hb dX11_free_166 hl (by decide) rfl (fun ls hl => ?_)
                                have L168 : ∀ (fuel : Nat) (k1 : Nat) (l2 : Nat) (σ5 : Mem) (lv : Nat → Nat), (k1 ≤ 64) → (l2 ≤ NV) → (Ar σ5 141 64 lv) → (∀ c, c ≠ 141 → σ5 c = σ3 c) → (AVs m g h tw l1 k1 l2 lv) → (64 - k1) < fuel → ∀ (H : Heap) (locs : List Loc) (ls : Array Slot), St G (Fr b) b σ5 vs H locs → lv_has ls 9 [(0, .ref (b + 131)), (1, .int (nI l2)), (2, .int (nI (2 ^ m))), (3, .int (nI (t1 + 2))), (4, .int (nI k1))] → W vp l ve (RM 4) vs vm args below meth vc H locs 0 0 Q (F0 vm 168 ls []) := by
                                  intro fuel
                                  induction fuel with
                                  | zero => intro k1 l2 σ5 lv hk1 hl2 f1a f2 f3 hF; exact absurd hF (Nat.not_lt_zero _)
                                  | succ fuel ih168 =>
                                    intro k1 l2 σ5 lv hk1 hl2 f1a f2 f3 hF H locs ls hM hl
                                    refine lv_iload hx hb dX11_free_168 (lv_at hl 4 rfl) ?_
                                    refine lv_bipush (v := nI 64) hx hb dX11_free_170 (by decide) ?_
                                    refine sn_icmp_ge (tgt := 342) hx hb dX11_free_172 (by decide) (by omega) (by omega) (fun hlk1 => ?_) (fun hlk1 => ?_)
                                    · refine lv_iconst (v := nI 0) hx hb dX11_free_342 (by decide) ?_
                                      refine lv_istore (lv' := [(4, .int (nI 0)), (0, .ref (b + 131)), (1, .int (nI l2)), (2, .int (nI (2 ^ m))), (3, .int (nI (t1 + 2)))]) hx hb dX11_free_343 hl (by decide) rfl (fun ls hl => ?_)
                                      have L345 : ∀ (fuel : Nat) (k2 : Nat) (σ8 : Mem), (k2 ≤ 64) → (∀ i, i < k2 → σ8 140 i = σ5 141 i) → (∀ c, c ≠ 140 → σ8 c = σ5 c) → (64 - k2) < fuel → ∀ (H : Heap) (locs : List Loc) (ls : Array Slot), St G (Fr b) b σ8 vs H locs → lv_has ls 9 [(0, .ref (b + 131)), (1, .int (nI l2)), (2, .int (nI (2 ^ m))), (3, .int (nI (t1 + 2))), (4, .int (nI k2))] → W vp l ve (RM 4) vs vm args below meth vc H locs 0 0 Q (F0 vm 345 ls []) := by
                                        intro fuel
                                        induction fuel with
                                        | zero => intro k2 σ8 hk2 g1 g2 hF; exact absurd hF (Nat.not_lt_zero _)
                                        | succ fuel ih345 =>
                                          intro k2 σ8 hk2 g1 g2 hF H locs ls hM hl
                                          refine lv_iload hx hb dX11_free_345 (lv_at hl 4 rfl) ?_
                                          refine lv_bipush (v := nI 64) hx hb dX11_free_347 (by decide) ?_
                                          refine sn_icmp_ge (tgt := 372) hx hb dX11_free_349 (by decide) (by omega) (by omega) (fun c_349 => ?_) (fun c_349 => ?_)
                                          · refine lv_iinc (v := nI (t1 + 2 + 1)) (lv' := [(3, .int (nI (t1 + 2 + 1))), (0, .ref (b + 131)), (1, .int (nI l2)), (2, .int (nI (2 ^ m))), (4, .int (nI k2))]) hx hb dX11_free_372 hl (k := 3) rfl (q_inc _) (by decide) rfl (fun ls hl => ?_)
                                            refine lv_goto (tgt := 134) hx hb dX11_free_375 (by decide) ?_
                                            exact ih134 (t1 + 1) l2 σ8 lv (by omega) hl2 (fun i hi => by rw [g1 i (by omega)]; exact f1a i hi) ((AVs_end hc.m e3 e2 (by rw [show 64 = k1 by omega]; exact f3)).1) ((AVs_end hc.m e3 e2 (by rw [show 64 = k1 by omega]; exact f3)).2) (Vd_A hc.m f3) (fun c q1 q2 => by rw [g2 c q1, f2 c q2]; exact e5 c q1 q2) (by omega) _ _ _ hM (lv_sub hl [1, 2, 3, 0] rfl)
                                          · refine lv_aload_n hx hb dX11_free_352 rfl (lv_at hl 0 rfl) ?_
                                            refine sg_get (v := .ref (b + 140)) hx hb hts hown hK hM (sh18 kc_131) (kd_lt kc_131 (by decide)) rfl inX11 9 (by decide) wf_X11_35 rfl dX11_free_353 ?_
                                            refine lv_iload hx hb dX11_free_356 (lv_at hl 4 rfl) ?_
                                            refine lv_aload_n hx hb dX11_free_358 rfl (lv_at hl 0 rfl) ?_
                                            refine sg_get (v := .ref (b + 141)) hx hb hts hown hK hM (sh18 kc_131) (kd_lt kc_131 (by decide)) rfl inX11 10 (by decide) wf_X11_38 rfl dX11_free_359 ?_
                                            refine lv_iload hx hb dX11_free_362 (lv_at hl 4 rfl) ?_
                                            refine sg_iald hx hb hK hM (sh15 kc_141) (kd_lt kc_141 (by decide)) (i := k2) (by omega) (by decide) dX11_free_364 ?_
                                            refine sg_iast hx hb hK hM sgA (fun f => sh15 kc_140) (kd_lt kc_140 (by decide)) (i := k2) (by omega) (by decide) dX11_free_365 (fun H locs hM => ?_)
                                            refine lv_iinc (v := nI (k2 + 1)) (lv' := [(4, .int (nI (k2 + 1))), (0, .ref (b + 131)), (1, .int (nI l2)), (2, .int (nI (2 ^ m))), (3, .int (nI (t1 + 2)))]) hx hb dX11_free_366 hl (k := 4) rfl (q_inc _) (by decide) rfl (fun ls hl => ?_)
                                            refine lv_goto (tgt := 345) hx hb dX11_free_369 (by decide) ?_
                                            exact ih345 (k2 + 1) (m2 σ8 140 k2 (σ8 141 k2)) (by omega) (fun i q => if e1 : i = k2 then (by subst e1; rw [m2_ss, g2 141 (by decide)]) else (by rw [m2_sn e1]; exact g1 i (by omega))) (fun c q => by rw [m2_o q]; exact g2 c q) (by omega) _ _ _ hM (lv_sub hl [1, 2, 3, 4, 0] rfl)
                                      exact L345 (_ + 1) 0 σ5 (by omega) (fun i q => absurd q (by omega)) (fun _ _ => rfl) (Nat.lt_succ_self _) _ _ _ hM (lv_sub hl [1, 2, 3, 4, 0] rfl)
                                    · refine lv_iconst (v := nI 0) hx hb dX11_free_175 (by decide) ?_
                                      refine lv_istore (lv' := [(5, .int (nI 0)), (0, .ref (b + 131)), (1, .int (nI l2)), (2, .int (nI (2 ^ m))), (3, .int (nI (t1 + 2))), (4, .int (nI k1))]) hx hb dX11_free_176 hl (by decide) rfl (fun ls hl => ?_)
                                      have L178 : ∀ (fuel : Nat) (q1 : Nat) (l3 : Nat) (σ6 : Mem) (lw : Nat → Nat) (rv : Nat), (q1 ≤ 4) → (l3 ≤ NV) → (Ar σ6 141 64 lw) → (∀ c, c ≠ 141 → σ6 c = σ3 c) → (APs m g h (k1 / 8) (k1 % 8) (tw k1) q1 lv rv lw) → (l3 = min l2 rv) → (tw k1 < NV ∨ (l3 = l2 ∧ lw = lv)) → (4 - q1) < fuel → ∀ (H : Heap) (locs : List Loc) (ls : Array Slot), St G (Fr b) b σ6 vs H locs → lv_has ls 9 [(0, .ref (b + 131)), (1, .int (nI l3)), (2, .int (nI (2 ^ m))), (3, .int (nI (t1 + 2))), (4, .int (nI k1)), (5, .int (nI q1))] → W vp l ve (RM 4) vs vm args below meth vc H locs 0 0 Q (F0 vm 178 ls []) := by
                                        intro fuel
                                        induction fuel with
                                        | zero => intro q1 l3 σ6 lw rv hq1 hl3 i1 i2 i3 i4 i5 hF; exact absurd hF (Nat.not_lt_zero _)
                                        | succ fuel ih178 =>
                                          intro q1 l3 σ6 lw rv hq1 hl3 i1 i2 i3 i4 i5 hF H locs ls hM hl
                                          refine lv_iload hx hb dX11_free_178 (lv_at hl 5 rfl) ?_
                                          refine lv_iconst (v := nI 4) hx hb dX11_free_180 (by decide) ?_
                                          refine sn_icmp_ge (tgt := 336) hx hb dX11_free_181 (by decide) (by omega) (by omega) (fun hlq => ?_) (fun hlq => ?_)
                                          · have hnq : q1 = 4 := by omega
                                            refine lv_iinc (v := nI (k1 + 1)) (lv' := [(4, .int (nI (k1 + 1))), (0, .ref (b + 131)), (1, .int (nI l3)), (2, .int (nI (2 ^ m))), (3, .int (nI (t1 + 2))), (5, .int (nI q1))]) hx hb dX11_free_336 hl (k := 4) rfl (q_inc _) (by decide) rfl (fun ls hl => ?_)
                                            refine lv_goto (tgt := 168) hx hb dX11_free_339 (by decide) ?_
                                            exact ih168 (k1 + 1) l3 σ6 lw (by omega) hl3 i1 i2 (fr_end hc.m (e4 k1) f3 hl2 i3 i4 i5 (by first | exact Or.inl hnq | exact Or.inr hng)) (by omega) _ _ _ hM (lv_sub hl [1, 2, 3, 4, 0] rfl)
                                          · refine lv_aload_n hx hb dX11_free_184 rfl (lv_at hl 0 rfl) ?_
                                            refine sg_get (v := .ref (b + 140)) hx hb hts hown hK hM (sh18 kc_131) (kd_lt kc_131 (by decide)) rfl inX11 9 (by decide) wf_X11_35 rfl dX11_free_185 ?_
                                            refine lv_iload hx hb dX11_free_188 (lv_at hl 4 rfl) ?_
                                            refine sg_iald hx hb hK hM (sh15 kc_140) (kd_lt kc_140 (by decide)) (i := k1) (by omega) (by decide) dX11_free_190 ?_
                                            refine sn_top (y := nI (tw k1)) (by rw [i2 140 (by decide)]; exact (e1 k1 hlk1).1) ?_
                                            refine lv_ldc (v := nI 99999999) hx hb hown (hts (Cond.constant RX11 57 (nI 99999999)) wk_X11_57) dX11_free_191 ?_
                                            refine sn_icmp_ge (tgt := 336) hx hb dX11_free_193 (by decide) (by have := (e1 k1 hlk1).2; omega) (by omega) (fun hgd => ?_) (fun hgd => ?_)
                                            · have hng : NV ≤ tw k1 := hgd
                                              refine lv_iinc (v := nI (k1 + 1)) (lv' := [(4, .int (nI (k1 + 1))), (0, .ref (b + 131)), (1, .int (nI l3)), (2, .int (nI (2 ^ m))), (3, .int (nI (t1 + 2))), (5, .int (nI q1))]) hx hb dX11_free_336 hl (k := 4) rfl (q_inc _) (by decide) rfl (fun ls hl => ?_)
                                              refine lv_goto (tgt := 168) hx hb dX11_free_339 (by decide) ?_
                                              exact ih168 (k1 + 1) l3 σ6 lw (by omega) hl3 i1 i2 (fr_end hc.m (e4 k1) f3 hl2 i3 i4 i5 (by first | exact Or.inl hnq | exact Or.inr hng)) (by omega) _ _ _ hM (lv_sub hl [1, 2, 3, 4, 0] rfl)
                                            · have hvd := e4 k1 hgd
                                              have n0 := nx_lt (m := m) (u := q1 / 2) (by omega) hvd.1
                                              have n1 := nx_lt (m := m) (u := q1 % 2) (by omega) hvd.2
                                              have hap := apv_le m g h (k1 / 8) (q1 / 2) (k1 % 8) (q1 % 2)
                                              refine lv_aload_n hx hb dX11_free_196 rfl (lv_at hl 0 rfl) ?_
                                              refine lv_iload hx hb dX11_free_197 (lv_at hl 4 rfl) ?_
                                              refine lv_bipush (v := nI 8) hx hb dX11_free_199 (by decide) ?_
                                              refine sn_idiv hx hb dX11_free_201 (by omega) (by omega) (by omega) ?_
                                              refine lv_iload hx hb dX11_free_202 (lv_at hl 5 rfl) ?_
                                              refine lv_iconst (v := nI 2) hx hb dX11_free_204 (by decide) ?_
                                              refine sn_idiv hx hb dX11_free_205 (by omega) (by omega) (by omega) ?_
                                              refine sg_ci (sg_runV (d := 0) (As := [.int (nI (k1 / 8)), .int (nI (q1 / 2))]) (rest := []) hx hb hml hts hown hK hM (m_next l G b σ6 m g h (k1 / 8) (q1 / 2) (hc.keep (by rw [i2 132 (by decide), e5 132 (by decide) (by decide)])) (by omega) hvd.1) mi_X11_stateBy wl_X11_88 (sh18 kc_131) (kd_lt kc_131 (by decide)) rfl rfl rfl hl.1 rfl (Nat.le_of_ble_eq_true rfl) dX11_free_206 ⟨by decide, by decide⟩ ⟨Nat.le_refl 0, Nat.le_refl 0⟩) hM sgA (fun r_206 σ_206 H locs hp_206 hM => ?_)
                                              obtain ⟨hr_206, hs_206⟩ := hp_206; subst r_206; subst σ_206
                                              refine lv_istore (lv' := [(6, .int (nI (nx m (k1 / 8) (q1 / 2)))), (0, .ref (b + 131)), (1, .int (nI l3)), (2, .int (nI (2 ^ m))), (3, .int (nI (t1 + 2))), (4, .int (nI k1)), (5, .int (nI q1))]) hx hb dX11_free_209 hl (by decide) rfl (fun ls hl => ?_)
                                              refine lv_aload_n hx hb dX11_free_211 rfl (lv_at hl 1 rfl) ?_
                                              refine lv_iload hx hb dX11_free_212 (lv_at hl 5 rfl) ?_
                                              refine lv_bipush (v := nI 8) hx hb dX11_free_214 (by decide) ?_
                                              refine sn_irem hx hb dX11_free_216 (by omega) (by omega) (by omega) ?_
                                              refine lv_iload hx hb dX11_free_217 (lv_at hl 6 rfl) ?_
                                              refine lv_iconst (v := nI 2) hx hb dX11_free_219 (by decide) ?_
                                              refine sn_irem hx hb dX11_free_220 (by omega) (by omega) (by omega) ?_
                                              refine sg_ci (sg_runV (d := 0) (As := [.int (nI (k1 % 8)), .int (nI (q1 % 2))]) (rest := []) hx hb hml hts hown hK hM (m_next l G b σ6 m g h (k1 % 8) (q1 % 2) (hc.keep (by rw [i2 132 (by decide), e5 132 (by decide) (by decide)])) (by omega) hvd.2) mi_X11_stateBy wl_X11_88 (sh18 kc_131) (kd_lt kc_131 (by decide)) rfl rfl rfl hl.1 rfl (Nat.le_of_ble_eq_true rfl) dX11_free_221 ⟨by decide, by decide⟩ ⟨Nat.le_refl 0, Nat.le_refl 0⟩) hM sgA (fun r_221 σ_221 H locs hp_221 hM => ?_)
                                              obtain ⟨hr_221, hs_221⟩ := hp_221; subst r_221; subst σ_221
                                              refine lv_istore (lv' := [(7, .int (nI (nx m (k1 % 8) (q1 % 2)))), (6, .int (nI (nx m (k1 / 8) (q1 / 2)))), (0, .ref (b + 131)), (1, .int (nI l3)), (2, .int (nI (2 ^ m))), (3, .int (nI (t1 + 2))), (4, .int (nI k1)), (5, .int (nI q1))]) hx hb dX11_free_224 hl (by decide) rfl (fun ls hl => ?_)
                                              refine lv_aload_n hx hb dX11_free_226 rfl (lv_at hl 2 rfl) ?_
                                              refine sg_get (v := .ref (b + 140)) hx hb hts hown hK hM (sh18 kc_131) (kd_lt kc_131 (by decide)) rfl inX11 9 (by decide) wf_X11_35 rfl dX11_free_227 ?_
                                              refine lv_iload hx hb dX11_free_230 (lv_at hl 6 rfl) ?_
                                              refine sg_iald hx hb hK hM (sh15 kc_140) (kd_lt kc_140 (by decide)) (i := k1) (by omega) (by decide) dX11_free_232 ?_
                                              refine sn_top (y := nI (tw k1)) (by rw [i2 140 (by decide)]; exact (e1 k1 hlk1).1) ?_
                                              refine lv_aload_n hx hb dX11_free_233 rfl (lv_at hl 2 rfl) ?_
                                              refine lv_iload hx hb dX11_free_234 (lv_at hl 6 rfl) ?_
                                              refine lv_bipush (v := nI 8) hx hb dX11_free_236 (by decide) ?_
                                              refine sn_idiv hx hb dX11_free_238 (by omega) (by omega) (by omega) ?_
                                              refine lv_iload hx hb dX11_free_239 (lv_at hl 7 rfl) ?_
                                              refine lv_iconst (v := nI 2) hx hb dX11_free_241 (by decide) ?_
                                              refine sn_idiv hx hb dX11_free_242 (by omega) (by omega) (by omega) ?_
                                              refine lv_iload hx hb dX11_free_243 (lv_at hl 6 rfl) ?_
                                              refine lv_bipush (v := nI 8) hx hb dX11_free_245 (by decide) ?_
                                              refine sn_irem hx hb dX11_free_247 (by omega) (by omega) (by omega) ?_
                                              refine lv_iload hx hb dX11_free_248 (lv_at hl 7 rfl) ?_
                                              refine lv_iconst (v := nI 2) hx hb dX11_free_250 (by decide) ?_
                                              refine sn_irem hx hb dX11_free_251 (by omega) (by omega) (by omega) ?_
                                              refine sg_ci (sg_runV (d := 3) (As := [.int (nI (k1 / 8)), .int (nI (q1 / 2)), .int (nI (k1 % 8)), .int (nI (q1 % 2))]) (rest := [.int (nI (tw k1))]) hx hb hml hts hown hK hM (m_apartBy l G b σ6 m g h (k1 / 8) (q1 / 2) (k1 % 8) (q1 % 2) (hc.keep (by rw [i2 132 (by decide), e5 132 (by decide) (by decide)])) hvd.1 (by omega) hvd.2 (by omega)) mi_X11_apartBy wl_X11_145 (sh18 kc_131) (kd_lt kc_131 (by decide)) rfl rfl rfl hl.1 rfl (Nat.le_of_ble_eq_true rfl) dX11_free_252 ⟨by decide, by decide⟩ ⟨Nat.le_refl 0, Nat.le_refl 0⟩) hM sgA (fun r_252 σ_252 H locs hp_252 hM => ?_)
                                              obtain ⟨hr_252, hs_252⟩ := hp_252; subst r_252; subst σ_252
                                              refine sn_iadd hx hb dX11_free_255 ?_
                                              refine lv_istore (lv' := [(8, .int (nI ((tw k1) + (apv m g h (k1 / 8) (q1 / 2) (k1 % 8) (q1 % 2))))), (7, .int (nI (nx m (k1 % 8) (q1 % 2)))), (6, .int (nI (nx m (k1 / 8) (q1 / 2)))), (0, .ref (b + 131)), (1, .int (nI l3)), (2, .int (nI (2 ^ m))), (3, .int (nI (t1 + 2))), (4, .int (nI k1)), (5, .int (nI q1))]) hx hb dX11_free_256 hl (by decide) rfl (fun ls hl => ?_)
                                              refine lv_iload hx hb dX11_free_258 (lv_at hl 2 rfl) ?_
                                              refine lv_iload hx hb dX11_free_260 (lv_at hl 1 rfl) ?_
                                              refine sn_icmp_ne (tgt := 281) hx hb dX11_free_262 (by decide) (by omega) (by omega) (fun d6 => ?_) (fun d6 => ?_)
                                              · refine lv_aload_n hx hb dX11_free_281 rfl (lv_at hl 3 rfl) ?_
                                                refine sg_get (v := .ref (b + 141)) hx hb hts hown hK hM (sh18 kc_131) (kd_lt kc_131 (by decide)) rfl inX11 10 (by decide) wf_X11_38 rfl dX11_free_282 ?_
                                                refine lv_bipush (v := nI 8) hx hb dX11_free_285 (by decide) ?_
                                                refine lv_iload hx hb dX11_free_287 (lv_at hl 2 rfl) ?_
                                                refine sn_imul hx hb dX11_free_289 ?_
                                                refine sn_top (y := nI (nx m (k1 / 8) (q1 / 2) * 8)) (by rw [Nat.mul_comm]) ?_
                                                refine lv_iload hx hb dX11_free_290 (lv_at hl 1 rfl) ?_
                                                refine sn_iadd hx hb dX11_free_292 ?_
                                                refine lv_iload hx hb dX11_free_293 (lv_at hl 0 rfl) ?_
                                                refine lv_aload_n hx hb dX11_free_295 rfl (lv_at hl 3 rfl) ?_
                                                refine sg_get (v := .ref (b + 141)) hx hb hts hown hK hM (sh18 kc_131) (kd_lt kc_131 (by decide)) rfl inX11 10 (by decide) wf_X11_38 rfl dX11_free_296 ?_
                                                refine lv_bipush (v := nI 8) hx hb dX11_free_299 (by decide) ?_
                                                refine lv_iload hx hb dX11_free_301 (lv_at hl 2 rfl) ?_
                                                refine sn_imul hx hb dX11_free_303 ?_
                                                refine sn_top (y := nI (nx m (k1 / 8) (q1 / 2) * 8)) (by rw [Nat.mul_comm]) ?_
                                                refine lv_iload hx hb dX11_free_304 (lv_at hl 1 rfl) ?_
                                                refine sn_iadd hx hb dX11_free_306 ?_
                                                refine sg_iald hx hb hK hM (sh15 kc_141) (kd_lt kc_141 (by decide)) (i := (nx m (k1 / 8) (q1 / 2) * 8) + (nx m (k1 % 8) (q1 % 2))) (by omega) (by decide) dX11_free_307 ?_
                                                refine sn_top (y := nI (lw (nx m (k1 / 8) (q1 / 2) * 8 + nx m (k1 % 8) (q1 % 2)))) ((i1 _ (by omega)).1) ?_
                                                refine sn_icmp_ge (tgt := 316) hx hb dX11_free_308 (by decide) (by omega) (by have := (i1 _ (show nx m (k1 / 8) (q1 / 2) * 8 + nx m (k1 % 8) (q1 % 2) < 64 by omega)).2; omega) (fun c_308 => ?_) (fun c_308 => ?_)
                                                · refine lv_aload_n hx hb dX11_free_316 rfl (lv_at hl 3 rfl) ?_
                                                  refine sg_get (v := .ref (b + 141)) hx hb hts hown hK hM (sh18 kc_131) (kd_lt kc_131 (by decide)) rfl inX11 10 (by decide) wf_X11_38 rfl dX11_free_317 ?_
                                                  refine lv_bipush (v := nI 8) hx hb dX11_free_320 (by decide) ?_
                                                  refine lv_iload hx hb dX11_free_322 (lv_at hl 2 rfl) ?_
                                                  refine sn_imul hx hb dX11_free_324 ?_
                                                  refine sn_top (y := nI (nx m (k1 / 8) (q1 / 2) * 8)) (by rw [Nat.mul_comm]) ?_
                                                  refine lv_iload hx hb dX11_free_325 (lv_at hl 1 rfl) ?_
                                                  refine sn_iadd hx hb dX11_free_327 ?_
                                                  refine sg_iald hx hb hK hM (sh15 kc_141) (kd_lt kc_141 (by decide)) (i := (nx m (k1 / 8) (q1 / 2) * 8) + (nx m (k1 % 8) (q1 % 2))) (by omega) (by decide) dX11_free_328 ?_
                                                  refine sn_top (y := nI (min (lw (nx m (k1 / 8) (q1 / 2) * 8 + nx m (k1 % 8) (q1 % 2))) (tw k1 + apv m g h (k1 / 8) (q1 / 2) (k1 % 8) (q1 % 2)))) (by rw [Nat.min_eq_left c_308]; exact (i1 _ (by omega)).1) ?_
                                                  refine sg_iast hx hb hK hM sgA (fun f => sh15 kc_141) (kd_lt kc_141 (by decide)) (i := (nx m (k1 / 8) (q1 / 2) * 8) + (nx m (k1 % 8) (q1 % 2))) (by omega) (by decide) dX11_free_329 (fun H locs hM => ?_)
                                                  refine lv_iinc (v := nI (q1 + 1)) (lv' := [(5, .int (nI (q1 + 1))), (8, .int (nI ((tw k1) + (apv m g h (k1 / 8) (q1 / 2) (k1 % 8) (q1 % 2))))), (7, .int (nI (nx m (k1 % 8) (q1 % 2)))), (6, .int (nI (nx m (k1 / 8) (q1 / 2)))), (0, .ref (b + 131)), (1, .int (nI l3)), (2, .int (nI (2 ^ m))), (3, .int (nI (t1 + 2))), (4, .int (nI k1))]) hx hb dX11_free_330 hl (k := 8) rfl (q_inc _) (by decide) rfl (fun ls hl => ?_)
                                                  refine lv_goto (tgt := 178) hx hb dX11_free_333 (by decide) ?_
                                                  exact ih178 (q1 + 1) l3 (m2 σ6 141 ((nx m (k1 / 8) (q1 / 2) * 8) + (nx m (k1 % 8) (q1 % 2))) (nI (min (lw (nx m (k1 / 8) (q1 / 2) * 8 + nx m (k1 % 8) (q1 % 2))) (tw k1 + apv m g h (k1 / 8) (q1 / 2) (k1 % 8) (q1 % 2))))) (fu lw (nx m (k1 / 8) (q1 / 2) * 8 + nx m (k1 % 8) (q1 % 2)) (min (lw (nx m (k1 / 8) (q1 / 2) * 8 + nx m (k1 % 8) (q1 % 2))) (tw k1 + apv m g h (k1 / 8) (q1 / 2) (k1 % 8) (q1 % 2)))) rv (by omega) hl3 (Ar_up i1 (Nat.le_trans (Nat.min_le_left _ _) (i1 _ (by omega)).2)) (fun c z => by rw [m2_o z]; exact i2 c z) (APs_n2 i3 hlq d6) i4 (Or.inl hgd) (by omega) _ _ _ hM (lv_sub hl [4, 5, 6, 7, 8, 0] rfl)
                                                · refine lv_iload hx hb dX11_free_311 (lv_at hl 0 rfl) ?_
                                                  refine sn_top (y := nI (min (lw (nx m (k1 / 8) (q1 / 2) * 8 + nx m (k1 % 8) (q1 % 2))) (tw k1 + apv m g h (k1 / 8) (q1 / 2) (k1 % 8) (q1 % 2)))) (congrArg nI (Nat.min_eq_right (Nat.le_of_lt c_308)).symm) ?_
                                                  refine lv_goto (tgt := 329) hx hb dX11_free_313 (by decide) ?_
                                                  refine sg_iast hx hb hK hM sgA (fun f => sh15 kc_141) (kd_lt kc_141 (by decide)) (i := (nx m (k1 / 8) (q1 / 2) * 8) + (nx m (k1 % 8) (q1 % 2))) (by omega) (by decide) dX11_free_329 (fun H locs hM => ?_)
                                                  refine lv_iinc (v := nI (q1 + 1)) (lv' := [(5, .int (nI (q1 + 1))), (8, .int (nI ((tw k1) + (apv m g h (k1 / 8) (q1 / 2) (k1 % 8) (q1 % 2))))), (7, .int (nI (nx m (k1 % 8) (q1 % 2)))), (6, .int (nI (nx m (k1 / 8) (q1 / 2)))), (0, .ref (b + 131)), (1, .int (nI l3)), (2, .int (nI (2 ^ m))), (3, .int (nI (t1 + 2))), (4, .int (nI k1))]) hx hb dX11_free_330 hl (k := 8) rfl (q_inc _) (by decide) rfl (fun ls hl => ?_)
                                                  refine lv_goto (tgt := 178) hx hb dX11_free_333 (by decide) ?_
                                                  exact ih178 (q1 + 1) l3 (m2 σ6 141 ((nx m (k1 / 8) (q1 / 2) * 8) + (nx m (k1 % 8) (q1 % 2))) (nI (min (lw (nx m (k1 / 8) (q1 / 2) * 8 + nx m (k1 % 8) (q1 % 2))) (tw k1 + apv m g h (k1 / 8) (q1 / 2) (k1 % 8) (q1 % 2))))) (fu lw (nx m (k1 / 8) (q1 / 2) * 8 + nx m (k1 % 8) (q1 % 2)) (min (lw (nx m (k1 / 8) (q1 / 2) * 8 + nx m (k1 % 8) (q1 % 2))) (tw k1 + apv m g h (k1 / 8) (q1 / 2) (k1 % 8) (q1 % 2)))) rv (by omega) hl3 (Ar_up i1 (Nat.le_trans (Nat.min_le_left _ _) (i1 _ (by omega)).2)) (fun c z => by rw [m2_o z]; exact i2 c z) (APs_n2 i3 hlq d6) i4 (Or.inl hgd) (by omega) _ _ _ hM (lv_sub hl [4, 5, 6, 7, 8, 0] rfl)
                                              · refine lv_iload hx hb dX11_free_265 (lv_at hl 0 rfl) ?_
                                                refine lv_iload_n hx hb dX11_free_267 rfl (lv_at hl 4 rfl) ?_
                                                refine sn_icmp_ge (tgt := 276) hx hb dX11_free_268 (by decide) (by omega) (by omega) (fun c_268 => ?_) (fun c_268 => ?_)
                                                · refine lv_iload_n hx hb dX11_free_276 rfl (lv_at hl 4 rfl) ?_
                                                  refine sn_top (y := nI (min l3 (tw k1 + apv m g h (k1 / 8) (q1 / 2) (k1 % 8) (q1 % 2)))) (congrArg nI (Nat.min_eq_left c_268).symm) ?_
                                                  refine lv_istore_n (lv' := [(1, .int (nI (min l3 (tw k1 + apv m g h (k1 / 8) (q1 / 2) (k1 % 8) (q1 % 2))))), (8, .int (nI ((tw k1) + (apv m g h (k1 / 8) (q1 / 2) (k1 % 8) (q1 % 2))))), (7, .int (nI (nx m (k1 % 8) (q1 % 2)))), (6, .int (nI (nx m (k1 / 8) (q1 / 2)))), (0, .ref (b + 131)), (2, .int (nI (2 ^ m))), (3, .int (nI (t1 + 2))), (4, .int (nI k1)), (5, .int (nI q1))]) hx hb dX11_free_277 rfl hl (by decide) rfl (fun ls hl => ?_)
                                                  refine lv_goto (tgt := 330) hx hb dX11_free_278 (by decide) ?_
                                                  refine lv_iinc (v := nI (q1 + 1)) (lv' := [(5, .int (nI (q1 + 1))), (1, .int (nI (min l3 (tw k1 + apv m g h (k1 / 8) (q1 / 2) (k1 % 8) (q1 % 2))))), (8, .int (nI ((tw k1) + (apv m g h (k1 / 8) (q1 / 2) (k1 % 8) (q1 % 2))))), (7, .int (nI (nx m (k1 % 8) (q1 % 2)))), (6, .int (nI (nx m (k1 / 8) (q1 / 2)))), (0, .ref (b + 131)), (2, .int (nI (2 ^ m))), (3, .int (nI (t1 + 2))), (4, .int (nI k1))]) hx hb dX11_free_330 hl (k := 8) rfl (q_inc _) (by decide) rfl (fun ls hl => ?_)
                                                  refine lv_goto (tgt := 178) hx hb dX11_free_333 (by decide) ?_
                                                  exact ih178 (q1 + 1) (min l3 (tw k1 + apv m g h (k1 / 8) (q1 / 2) (k1 % 8) (q1 % 2))) σ6 lw (min rv (tw k1 + apv m g h (k1 / 8) (q1 / 2) (k1 % 8) (q1 % 2))) (by omega) (Nat.le_trans (Nat.min_le_left _ _) hl3) i1 i2 (APs_c2 i3 hlq d6) (by rw [i4, Nat.min_assoc]) (Or.inl hgd) (by omega) _ _ _ hM (lv_sub hl [5, 1, 6, 7, 8, 0] rfl)
                                                · refine lv_iload hx hb dX11_free_271 (lv_at hl 0 rfl) ?_
                                                  refine sn_top (y := nI (min l3 (tw k1 + apv m g h (k1 / 8) (q1 / 2) (k1 % 8) (q1 % 2)))) (congrArg nI (Nat.min_eq_right (Nat.le_of_lt c_268)).symm) ?_
                                                  refine lv_goto (tgt := 277) hx hb dX11_free_273 (by decide) ?_
                                                  refine lv_istore_n (lv' := [(1, .int (nI (min l3 (tw k1 + apv m g h (k1 / 8) (q1 / 2) (k1 % 8) (q1 % 2))))), (8, .int (nI ((tw k1) + (apv m g h (k1 / 8) (q1 / 2) (k1 % 8) (q1 % 2))))), (7, .int (nI (nx m (k1 % 8) (q1 % 2)))), (6, .int (nI (nx m (k1 / 8) (q1 / 2)))), (0, .ref (b + 131)), (2, .int (nI (2 ^ m))), (3, .int (nI (t1 + 2))), (4, .int (nI k1)), (5, .int (nI q1))]) hx hb dX11_free_277 rfl hl (by decide) rfl (fun ls hl => ?_)
                                                  refine lv_goto (tgt := 330) hx hb dX11_free_278 (by decide) ?_
                                                  refine lv_iinc (v := nI (q1 + 1)) (lv' := [(5, .int (nI (q1 + 1))), (1, .int (nI (min l3 (tw k1 + apv m g h (k1 / 8) (q1 / 2) (k1 % 8) (q1 % 2))))), (8, .int (nI ((tw k1) + (apv m g h (k1 / 8) (q1 / 2) (k1 % 8) (q1 % 2))))), (7, .int (nI (nx m (k1 % 8) (q1 % 2)))), (6, .int (nI (nx m (k1 / 8) (q1 / 2)))), (0, .ref (b + 131)), (2, .int (nI (2 ^ m))), (3, .int (nI (t1 + 2))), (4, .int (nI k1))]) hx hb dX11_free_330 hl (k := 8) rfl (q_inc _) (by decide) rfl (fun ls hl => ?_)
                                                  refine lv_goto (tgt := 178) hx hb dX11_free_333 (by decide) ?_
                                                  exact ih178 (q1 + 1) (min l3 (tw k1 + apv m g h (k1 / 8) (q1 / 2) (k1 % 8) (q1 % 2))) σ6 lw (min rv (tw k1 + apv m g h (k1 / 8) (q1 / 2) (k1 % 8) (q1 % 2))) (by omega) (Nat.le_trans (Nat.min_le_left _ _) hl3) i1 i2 (APs_c2 i3 hlq d6) (by rw [i4, Nat.min_assoc]) (Or.inl hgd) (by omega) _ _ _ hM (lv_sub hl [5, 1, 6, 7, 8, 0] rfl)
                                      exact L178 (_ + 1) 0 l2 σ5 lv NV (by omega) hl2 f1a f2 (APs_0 _ _ _ _ _ _ _) ((Nat.min_eq_left hl2).symm) (Or.inr ⟨rfl, rfl⟩) (Nat.lt_succ_self _) _ _ _ hM (lv_sub hl [1, 2, 3, 4, 5, 0] rfl)
                                exact L168 (_ + 1) 0 l1 σ4 (fun _ => NV) (by omega) hl1 (fun i q => ⟨a1 i (by omega), Nat.le_refl _⟩) a2 (AVs_0 _ _ _ _ _) (Nat.lt_succ_self _) _ _ _ hM (lv_sub hl [1, 2, 3, 4, 0] rfl)
                              · refine lv_aload_n hx hb dX11_free_150 rfl (lv_at hl 0 rfl) ?_
                                refine sg_get (v := .ref (b + 141)) hx hb hts hown hK hM (sh18 kc_131) (kd_lt kc_131 (by decide)) rfl inX11 10 (by decide) wf_X11_38 rfl dX11_free_151 ?_
                                refine lv_iload hx hb dX11_free_154 (lv_at hl 4 rfl) ?_
                                refine lv_ldc (v := nI 99999999) hx hb hown (hts (Cond.constant RX11 57 (nI 99999999)) wk_X11_57) dX11_free_156 ?_
                                refine sg_iast hx hb hK hM sgA (fun f => sh15 kc_141) (kd_lt kc_141 (by decide)) (i := k0) (by omega) (by decide) dX11_free_158 (fun H locs hM => ?_)
                                refine lv_iinc (v := nI (k0 + 1)) (lv' := [(4, .int (nI (k0 + 1))), (0, .ref (b + 131)), (1, .int (nI l1)), (2, .int (nI (2 ^ m))), (3, .int (nI (t1 + 2)))]) hx hb dX11_free_159 hl (k := 4) rfl (q_inc _) (by decide) rfl (fun ls hl => ?_)
                                refine lv_goto (tgt := 143) hx hb dX11_free_162 (by decide) ?_
                                exact ih143 (k0 + 1) (m2 σ4 141 k0 (nI 99999999)) (by omega) (fun i q => if e1 : i = k0 then (by subst e1; exact m2_ss) else (by rw [m2_sn e1]; exact a1 i (by omega))) (fun c q => by rw [m2_o q]; exact a2 c q) (by omega) _ _ _ hM (lv_sub hl [1, 2, 3, 4, 0] rfl)
                          exact L143 (_ + 1) 0 σ3 (by omega) (fun i q => absurd q (by omega)) (fun _ _ => rfl) (Nat.lt_succ_self _) _ _ _ hM (lv_sub hl [1, 2, 3, 4, 0] rfl)
                    exact L134 (_ + 1) 0 (gm 4) σ2 tv (by omega) (gm_le 4) b1 (gm_F m g h) (P0s_T hc.m (by rw [show 2 ^ m = s1 by omega]; exact b2)) (Vd_P hc.m hs1 b2) (fun c q _ => b3 c q) (Nat.lt_succ_self _) _ _ _ hM (lv_sub hl [1, 2, 3, 0] rfl)
                  · have n0 := nx_lt (m := m) (u := 0) (by decide) hls
                    have n1 := nx_lt (m := m) (u := 1) (by decide) hls
                    refine lv_bipush (v := nI 8) hx hb dX11_free_67 (by decide) ?_
                    refine lv_aload_n hx hb dX11_free_69 rfl (lv_at hl 0 rfl) ?_
                    refine lv_iload_n hx hb dX11_free_70 rfl (lv_at hl 3 rfl) ?_
                    refine lv_iconst (v := nI 0) hx hb dX11_free_71 (by decide) ?_
                    refine sg_ci (sg_runV (d := 0) (As := [.int (nI s1), .int (nI 0)]) (rest := [.int (nI 8)]) hx hb hml hts hown hK hM (m_next l G b σ2 m g h s1 0 (hc.keep (b3 132 (by decide))) (by decide) hls) mi_X11_stateBy wl_X11_88 (sh18 kc_131) (kd_lt kc_131 (by decide)) rfl rfl rfl hl.1 rfl (Nat.le_of_ble_eq_true rfl) dX11_free_72 ⟨by decide, by decide⟩ ⟨Nat.le_refl 0, Nat.le_refl 0⟩) hM sgA (fun r_72 σ_72 H locs hp_72 hM => ?_)
                    obtain ⟨hr_72, hs_72⟩ := hp_72; subst r_72; subst σ_72
                    refine sn_imul hx hb dX11_free_75 ?_
                    refine sn_top (y := nI (nx m s1 0 * 8)) (by rw [Nat.mul_comm]) ?_
                    refine lv_aload_n hx hb dX11_free_76 rfl (lv_at hl 0 rfl) ?_
                    refine lv_iload_n hx hb dX11_free_77 rfl (lv_at hl 3 rfl) ?_
                    refine lv_iconst (v := nI 1) hx hb dX11_free_78 (by decide) ?_
                    refine sg_ci (sg_runV (d := 0) (As := [.int (nI s1), .int (nI 1)]) (rest := [.int (nI (nx m s1 0 * 8))]) hx hb hml hts hown hK hM (m_next l G b σ2 m g h s1 1 (hc.keep (b3 132 (by decide))) (by decide) hls) mi_X11_stateBy wl_X11_88 (sh18 kc_131) (kd_lt kc_131 (by decide)) rfl rfl rfl hl.1 rfl (Nat.le_of_ble_eq_true rfl) dX11_free_79 ⟨by decide, by decide⟩ ⟨Nat.le_refl 0, Nat.le_refl 0⟩) hM sgA (fun r_79 σ_79 H locs hp_79 hM => ?_)
                    obtain ⟨hr_79, hs_79⟩ := hp_79; subst r_79; subst σ_79
                    refine sn_iadd hx hb dX11_free_82 ?_
                    refine lv_istore (lv' := [(4, .int (nI ((nx m s1 0 * 8) + (nx m s1 1)))), (0, .ref (b + 131)), (1, .int (nI (gm 4))), (2, .int (nI (2 ^ m))), (3, .int (nI s1))]) hx hb dX11_free_83 hl (by decide) rfl (fun ls hl => ?_)
                    refine lv_aload_n hx hb dX11_free_85 rfl (lv_at hl 1 rfl) ?_
                    refine lv_iload_n hx hb dX11_free_86 rfl (lv_at hl 4 rfl) ?_
                    refine lv_iconst (v := nI 0) hx hb dX11_free_87 (by decide) ?_
                    refine lv_iload_n hx hb dX11_free_88 rfl (lv_at hl 4 rfl) ?_
                    refine lv_iconst (v := nI 1) hx hb dX11_free_89 (by decide) ?_
                    refine sg_ci (sg_runV (d := 3) (As := [.int (nI s1), .int (nI 0), .int (nI s1), .int (nI 1)]) (rest := []) hx hb hml hts hown hK hM (m_apartBy l G b σ2 m g h s1 0 s1 1 (hc.keep (b3 132 (by decide))) hls (by decide) hls (by decide)) mi_X11_apartBy wl_X11_145 (sh18 kc_131) (kd_lt kc_131 (by decide)) rfl rfl rfl hl.1 rfl (Nat.le_of_ble_eq_true rfl) dX11_free_90 ⟨by decide, by decide⟩ ⟨Nat.le_refl 0, Nat.le_refl 0⟩) hM sgA (fun r_90 σ_90 H locs hp_90 hM => ?_)
                    obtain ⟨hr_90, hs_90⟩ := hp_90; subst r_90; subst σ_90
                    refine lv_istore (lv' := [(5, .int (nI (apv m g h s1 0 s1 1))), (4, .int (nI ((nx m s1 0 * 8) + (nx m s1 1)))), (0, .ref (b + 131)), (1, .int (nI (gm 4))), (2, .int (nI (2 ^ m))), (3, .int (nI s1))]) hx hb dX11_free_93 hl (by decide) rfl (fun ls hl => ?_)
                    refine lv_aload_n hx hb dX11_free_95 rfl (lv_at hl 2 rfl) ?_
                    refine sg_get (v := .ref (b + 140)) hx hb hts hown hK hM (sh18 kc_131) (kd_lt kc_131 (by decide)) rfl inX11 9 (by decide) wf_X11_35 rfl dX11_free_96 ?_
                    refine lv_iload hx hb dX11_free_99 (lv_at hl 1 rfl) ?_
                    refine lv_iload hx hb dX11_free_101 (lv_at hl 0 rfl) ?_
                    refine lv_aload_n hx hb dX11_free_103 rfl (lv_at hl 2 rfl) ?_
                    refine sg_get (v := .ref (b + 140)) hx hb hts hown hK hM (sh18 kc_131) (kd_lt kc_131 (by decide)) rfl inX11 9 (by decide) wf_X11_35 rfl dX11_free_104 ?_
                    refine lv_iload hx hb dX11_free_107 (lv_at hl 1 rfl) ?_
                    refine sg_iald hx hb hK hM (sh15 kc_140) (kd_lt kc_140 (by decide)) (i := (nx m s1 0 * 8) + (nx m s1 1)) (by omega) (by decide) dX11_free_109 ?_
                    refine sn_top (y := nI (tv (nx m s1 0 * 8 + nx m s1 1))) ((b1 _ (by omega)).1) ?_
                    refine sn_icmp_ge (tgt := 118) hx hb dX11_free_110 (by decide) (by have := apv_le m g h s1 0 s1 1; omega) (by have := (b1 _ (show nx m s1 0 * 8 + nx m s1 1 < 64 by omega)).2; omega) (fun c_110 => ?_) (fun c_110 => ?_)
                    · refine lv_aload_n hx hb dX11_free_118 rfl (lv_at hl 2 rfl) ?_
                      refine sg_get (v := .ref (b + 140)) hx hb hts hown hK hM (sh18 kc_131) (kd_lt kc_131 (by decide)) rfl inX11 9 (by decide) wf_X11_35 rfl dX11_free_119 ?_
                      refine lv_iload hx hb dX11_free_122 (lv_at hl 1 rfl) ?_
                      refine sg_iald hx hb hK hM (sh15 kc_140) (kd_lt kc_140 (by decide)) (i := (nx m s1 0 * 8) + (nx m s1 1)) (by omega) (by decide) dX11_free_124 ?_
                      refine sn_top (y := nI (min (tv (nx m s1 0 * 8 + nx m s1 1)) (apv m g h s1 0 s1 1))) (by rw [Nat.min_eq_left c_110]; exact (b1 _ (by omega)).1) ?_
                      refine sg_iast hx hb hK hM sgA (fun f => sh15 kc_140) (kd_lt kc_140 (by decide)) (i := (nx m s1 0 * 8) + (nx m s1 1)) (by omega) (by decide) dX11_free_125 (fun H locs hM => ?_)
                      refine lv_iinc (v := nI (s1 + 1)) (lv' := [(3, .int (nI (s1 + 1))), (5, .int (nI (apv m g h s1 0 s1 1))), (4, .int (nI ((nx m s1 0 * 8) + (nx m s1 1)))), (0, .ref (b + 131)), (1, .int (nI (gm 4))), (2, .int (nI (2 ^ m)))]) hx hb dX11_free_126 hl (k := 5) rfl (q_inc _) (by decide) rfl (fun ls hl => ?_)
                      refine lv_goto (tgt := 62) hx hb dX11_free_129 (by decide) ?_
                      exact ih62 (s1 + 1) (m2 σ2 140 ((nx m s1 0 * 8) + (nx m s1 1)) (nI (min (tv (nx m s1 0 * 8 + nx m s1 1)) (apv m g h s1 0 s1 1)))) (fu tv (nx m s1 0 * 8 + nx m s1 1) (min (tv (nx m s1 0 * 8 + nx m s1 1)) (apv m g h s1 0 s1 1))) (by omega) (Ar_up b1 (Nat.le_trans (Nat.min_le_left _ _) (b1 _ (by omega)).2)) (P0s_s b2) (fun c q => by rw [m2_o q]; exact b3 c q) (by omega) _ _ _ hM (lv_sub hl [3, 4, 5, 0] rfl)
                    · refine lv_iload hx hb dX11_free_113 (lv_at hl 0 rfl) ?_
                      refine sn_top (y := nI (min (tv (nx m s1 0 * 8 + nx m s1 1)) (apv m g h s1 0 s1 1))) (congrArg nI (Nat.min_eq_right (Nat.le_of_lt c_110)).symm) ?_
                      refine lv_goto (tgt := 125) hx hb dX11_free_115 (by decide) ?_
                      refine sg_iast hx hb hK hM sgA (fun f => sh15 kc_140) (kd_lt kc_140 (by decide)) (i := (nx m s1 0 * 8) + (nx m s1 1)) (by omega) (by decide) dX11_free_125 (fun H locs hM => ?_)
                      refine lv_iinc (v := nI (s1 + 1)) (lv' := [(3, .int (nI (s1 + 1))), (5, .int (nI (apv m g h s1 0 s1 1))), (4, .int (nI ((nx m s1 0 * 8) + (nx m s1 1)))), (0, .ref (b + 131)), (1, .int (nI (gm 4))), (2, .int (nI (2 ^ m)))]) hx hb dX11_free_126 hl (k := 5) rfl (q_inc _) (by decide) rfl (fun ls hl => ?_)
                      refine lv_goto (tgt := 62) hx hb dX11_free_129 (by decide) ?_
                      exact ih62 (s1 + 1) (m2 σ2 140 ((nx m s1 0 * 8) + (nx m s1 1)) (nI (min (tv (nx m s1 0 * 8 + nx m s1 1)) (apv m g h s1 0 s1 1)))) (fu tv (nx m s1 0 * 8 + nx m s1 1) (min (tv (nx m s1 0 * 8 + nx m s1 1)) (apv m g h s1 0 s1 1))) (by omega) (Ar_up b1 (Nat.le_trans (Nat.min_le_left _ _) (b1 _ (by omega)).2)) (P0s_s b2) (fun c q => by rw [m2_o q]; exact b3 c q) (by omega) _ _ _ hM (lv_sub hl [3, 4, 5, 0] rfl)
              exact L62 (_ + 1) 0 σ1 (fun _ => NV) (Nat.zero_le _) (fun i q => ⟨a1 i (by omega), Nat.le_refl _⟩) (P0s_0 m g h) a2 (Nat.lt_succ_self _) _ _ _ hM (lv_sub hl [1, 2, 3, 0] rfl)
            · refine lv_aload_n hx hb dX11_free_46 rfl (lv_at hl 0 rfl) ?_
              refine sg_get (v := .ref (b + 140)) hx hb hts hown hK hM (sh18 kc_131) (kd_lt kc_131 (by decide)) rfl inX11 9 (by decide) wf_X11_35 rfl dX11_free_47 ?_
              refine lv_iload_n hx hb dX11_free_50 rfl (lv_at hl 3 rfl) ?_
              refine lv_ldc (v := nI 99999999) hx hb hown (hts (Cond.constant RX11 57 (nI 99999999)) wk_X11_57) dX11_free_51 ?_
              refine sg_iast hx hb hK hM sgA (fun f => sh15 kc_140) (kd_lt kc_140 (by decide)) (i := k0) (by omega) (by decide) dX11_free_53 (fun H locs hM => ?_)
              refine lv_iinc (v := nI (k0 + 1)) (lv' := [(3, .int (nI (k0 + 1))), (0, .ref (b + 131)), (1, .int (nI (gm 4))), (2, .int (nI (2 ^ m)))]) hx hb dX11_free_54 hl (k := 3) rfl (q_inc _) (by decide) rfl (fun ls hl => ?_)
              refine lv_goto (tgt := 40) hx hb dX11_free_57 (by decide) ?_
              exact ih40 (k0 + 1) (m2 σ1 140 k0 (nI 99999999)) (by omega) (fun i q => if e1 : i = k0 then (by subst e1; exact m2_ss) else (by rw [m2_sn e1]; exact a1 i (by omega))) (fun c q => by rw [m2_o q]; exact a2 c q) (by omega) _ _ _ hM (lv_sub hl [1, 2, 3, 0] rfl)
        exact L40 (_ + 1) 0 σ (by omega) (fun i q => absurd q (by omega)) (fun _ _ => rfl) (Nat.lt_succ_self _) _ _ _ hM (lv_sub hl [2, 3, 1, 0] rfl)
      · refine lv_iload_n hx hb dX11_free_10 rfl (lv_at hl 2 rfl) ?_
        refine lv_iload_n hx hb dX11_free_11 rfl (lv_at hl 2 rfl) ?_
        refine sg_ci (sg_runS (d := 2) (As := [.int (nI f1), .int (nI f1)]) (rest := []) hx hb hml hts hown hK hM (m_apartOf l G b σ f1 f1 (by first | omega | exact fam_lt _ _ _ _ _ | exact gf_lt _ | exact tf_lt _ | exact pt_lt (by first | omega | exact fam_lt _ _ _ _ _) (by omega) | exact tn_lt (by first | omega | exact pt_lt (by omega) (by omega))) (by first | omega | exact fam_lt _ _ _ _ _ | exact gf_lt _ | exact tf_lt _ | exact pt_lt (by first | omega | exact fam_lt _ _ _ _ _) (by omega) | exact tn_lt (by first | omega | exact pt_lt (by omega) (by omega)))) mi_X11_apartOf wl_X11_142 rfl hl.1 rfl (Nat.le_of_ble_eq_true rfl) dX11_free_12 ⟨by decide, by decide⟩ ⟨Nat.le_refl 0, Nat.le_refl 0⟩) hM sgA (fun r_12 σ_12 H locs hp_12 hM => ?_)
        obtain ⟨hr_12, hs_12⟩ := hp_12; subst r_12; subst σ_12
        refine lv_istore_n (lv' := [(3, .int (nI (gap f1 f1))), (0, .ref (b + 131)), (1, .int (nI (gm f1))), (2, .int (nI f1))]) hx hb dX11_free_15 rfl hl (by decide) rfl (fun ls hl => ?_)
        refine lv_iload_n hx hb dX11_free_16 rfl (lv_at hl 0 rfl) ?_
        refine lv_iload_n hx hb dX11_free_17 rfl (lv_at hl 2 rfl) ?_
        refine sn_icmp_ge (tgt := 25) hx hb dX11_free_18 (by decide) (by have := (gap_ok f1 (by omega) f1 (by omega)).2; omega) (by have := gm_le f1; omega) (fun c_18 => ?_) (fun c_18 => ?_)
        · refine lv_iload_n hx hb dX11_free_25 rfl (lv_at hl 2 rfl) ?_
          refine sn_top (y := nI (gm (f1 + 1))) (congrArg nI (Nat.min_eq_left c_18).symm) ?_
          refine lv_istore_n (lv' := [(1, .int (nI (gm (f1 + 1)))), (3, .int (nI (gap f1 f1))), (0, .ref (b + 131)), (2, .int (nI f1))]) hx hb dX11_free_26 rfl hl (by decide) rfl (fun ls hl => ?_)
          refine lv_iinc (v := nI (f1 + 1)) (lv' := [(2, .int (nI (f1 + 1))), (1, .int (nI (gm (f1 + 1)))), (3, .int (nI (gap f1 f1))), (0, .ref (b + 131))]) hx hb dX11_free_27 hl (k := 3) rfl (q_inc _) (by decide) rfl (fun ls hl => ?_)
          refine lv_goto (tgt := 5) hx hb dX11_free_30 (by decide) ?_
          exact ih5 (f1 + 1) (by omega) (by omega) _ _ _ hM (lv_sub hl [3, 1, 0] rfl)
        · refine lv_iload_n hx hb dX11_free_21 rfl (lv_at hl 0 rfl) ?_
          refine sn_top (y := nI (gm (f1 + 1))) (congrArg nI (Nat.min_eq_right (Nat.le_of_lt c_18)).symm) ?_
          refine lv_goto (tgt := 26) hx hb dX11_free_22 (by decide) ?_
          refine lv_istore_n (lv' := [(1, .int (nI (gm (f1 + 1)))), (3, .int (nI (gap f1 f1))), (0, .ref (b + 131)), (2, .int (nI f1))]) hx hb dX11_free_26 rfl hl (by decide) rfl (fun ls hl => ?_)
          refine lv_iinc (v := nI (f1 + 1)) (lv' := [(2, .int (nI (f1 + 1))), (1, .int (nI (gm (f1 + 1)))), (3, .int (nI (gap f1 f1))), (0, .ref (b + 131))]) hx hb dX11_free_27 hl (k := 3) rfl (q_inc _) (by decide) rfl (fun ls hl => ?_)
          refine lv_goto (tgt := 5) hx hb dX11_free_30 (by decide) ?_
          exact ih5 (f1 + 1) (by omega) (by omega) _ _ _ hM (lv_sub hl [3, 1, 0] rfl)
  exact L5 (_ + 1) 0 (by omega) (Nat.lt_succ_self _) _ _ _ hM (lv_sub hl [2, 1, 0] rfl)

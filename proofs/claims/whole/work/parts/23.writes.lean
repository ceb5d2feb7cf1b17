theorem coded_o {σ : Mem} {m g h : Nat} {k : Nat} (hk : 11 ≤ k) : m2 (moClear (codeSet σ 2 (nI m) (nI g) (nI h)) 1) 1 3 (-1) k = σ k := by
  unfold moClear codeSet
  rw [m2_o (by omega), m2_o (by omega), m2_o (by omega), m2_o (by omega), m2_o (by omega), m2_o (by omega)]
theorem rowApp_o {σ : Mem} {r n u w q s k : Nat} (hk : r + 5 ≤ k ∨ k < r) : rowApp σ r n u w q s k = σ k := by
  unfold rowApp
  rw [m2_o (by omega), m2_o (by omega), m2_o (by omega), m2_o (by omega), m2_o (by omega)]
theorem plApp_o {σ : Mem} {r n : Nat} {x y : Int32} {k : Nat} (hk : r + 3 ≤ k ∨ k < r) : plApp σ r n x y k = σ k := by
  unfold plApp
  rw [m2_o (by omega), m2_o (by omega), m2_o (by omega)]
theorem moClear_o {σ : Mem} {k : Nat} (hk : 11 ≤ k) : moClear σ 1 k = σ k := by
  unfold moClear
  rw [m2_o (by omega), m2_o (by omega)]
set_option maxHeartbeats 4000000 in
set_option maxRecDepth 100000 in
theorem x_code (l : Launch) (G : GT) (b : Nat) (σ : Mem) (w : World) (hI : ICw σ w) (x y z : Int32) : KI l G b yX10_code cX10_code 5 4 σ [.ref (b + 0), .int x, .int y, .int z] (fun r σ' => r = (S_code w x y z).1 ∧ ICw σ' (S_code w x y z).2 ∧ ∀ k, 131 ≤ k → σ' k = σ k) := by
  refine sg_metI [.ref (b + 0), .int x, .int y, .int z] (by decide) (Nat.le_of_ble_eq_true rfl) ?_
  intro vp ve vs vm args below meth vc ls Q hx hb hml hown hts hK hM hl hret
  have hl : lv_has ls 5 [(0, .ref (b + 0)), (1, .int x), (2, .int y), (3, .int z)] := hl
  obtain ⟨hR, hA, ⟨o, hPI⟩, hJ⟩ := id hI
  have hc : CodeAt σ 2 (rM w.1) (rG w.1) (rH w.1) := hA.1
  have h3 : σ 3 0 = nI (rS w.1) := hA.2.2.1
  have h8 : σ 8 0 = nI (rN w.1) := hA.2.2.2.2.1
  have hE : σ 1 3 = rE w.1 := hA.2.1
  have hS24 := hR.2.1.1
  have hN24 := hR.2.1.2
  have hm8 := p2_le hR.1.1.2
  refine lv_iload_n hx hb dX10_code_0 rfl (lv_at hl 1 rfl) ?_
  refine lv_iconst (v := nI 1) hx hb dX10_code_1 (by decide) ?_
  refine lv_icmp_lt (tgt := 10) hx hb dX10_code_2 (by decide) (fun d1 => ?_) (fun d1 => ?_)
  · refine lv_ldc (v := (-1000000002)) hx hb hown (hts (Cond.constant RX10 59 ((-1000000002))) wk_X10_59) dX10_code_10 ?_
    exact hret _ _ _ _ _ _ dX10_code_12 hM (by first | exact ⟨by rw [S_code_o (cokB_o1 (inR_f1 d1))], by rw [S_code_o (cokB_o1 (inR_f1 d1))]; exact hI, fun _ _ => rfl⟩ | exact ⟨by rw [S_code_o (cokB_o1 (inR_f2 d2))], by rw [S_code_o (cokB_o1 (inR_f2 d2))]; exact hI, fun _ _ => rfl⟩)
  · refine lv_iload_n hx hb dX10_code_5 rfl (lv_at hl 1 rfl) ?_
    refine lv_iconst (v := nI 3) hx hb dX10_code_6 (by decide) ?_
    refine lv_icmp_le (tgt := 13) hx hb dX10_code_7 (by decide) (fun d2 => ?_) (fun d2 => ?_)
    · have dm := inR_t d1 d2
      obtain ⟨m, hm1, hm2, rfl⟩ := inR_nat1 (by decide) dm
      have hm8 := p2_le hm2
      have hl : lv_has ls 5 [(0, .ref (b + 0)), (1, .int (nI m)), (2, .int y), (3, .int z)] := hl
      refine lv_iconst (v := nI 1) hx hb dX10_code_13 (by decide) ?_
      refine lv_iload_n hx hb dX10_code_14 rfl (lv_at hl 1 rfl) ?_
      refine lv_iconst (v := nI 1) hx hb dX10_code_15 (by decide) ?_
      refine sn_iadd hx hb dX10_code_16 ?_
      refine sn_ishl hx hb dX10_code_17 (by omega) (by rw [Nat.one_mul, Nat.pow_succ]; omega) ?_
      refine sn_top (y := nI (2 * 2 ^ m)) (by rw [Nat.one_mul, Nat.pow_succ, Nat.mul_comm]) ?_
      refine lv_iconst (v := nI 1) hx hb dX10_code_18 (by decide) ?_
      refine sn_isub hx hb dX10_code_19 (by have := p2_pos m; omega) ?_
      refine lv_istore (lv' := [(4, .int (nI ((2 * 2 ^ m) - 1))), (0, .ref (b + 0)), (1, .int (nI m)), (2, .int y), (3, .int z)]) hx hb dX10_code_20 hl (by decide) rfl (fun ls hl => ?_)
      refine lv_iload_n hx hb dX10_code_22 rfl (lv_at hl 3 rfl) ?_
      refine lv_iconst (v := nI 1) hx hb dX10_code_23 (by decide) ?_
      refine lv_iload hx hb dX10_code_24 (lv_at hl 0 rfl) ?_
      refine sg_ci (sg_runS (d := 0) (As := [.int y, .int (nI 1), .int (nI ((2 * 2 ^ m) - 1))]) (rest := []) hx hb hml hts hown hK hM (c_isOutside l G b σ y (nI 1) (nI ((2 * 2 ^ m) - 1))) mi_X10_isOutside wl_X10_60 rfl hl.1 rfl (Nat.le_of_ble_eq_true rfl) dX10_code_26 ⟨by decide, by decide⟩ ⟨Nat.le_refl 0, Nat.le_refl 0⟩) hM sgA (fun r_26 σ_26 H locs hp_26 hM => ?_)
      obtain ⟨hr_26, hs_26⟩ := hp_26; subst r_26; subst σ_26
      refine sn_ifz_ne (tgt := 42) hx hb dX10_code_29 (by decide) (fun d3 => ?_) (fun d3 => ?_)
      · refine lv_ldc (v := (-1000000002)) hx hb hown (hts (Cond.constant RX10 59 ((-1000000002))) wk_X10_59) dX10_code_42 ?_
        exact hret _ _ _ _ _ _ dX10_code_44 hM (⟨by rw [S_code_o (cokB_o2 ⟨hm1, hm2⟩ (not_t d3))], by rw [S_code_o (cokB_o2 ⟨hm1, hm2⟩ (not_t d3))]; exact hI, fun _ _ => rfl⟩)
      · obtain ⟨g, hg1, hg2, rfl⟩ := inR_nat1 (by omega) (not_f d3)
        have hl : lv_has ls 5 [(4, .int (nI ((2 * 2 ^ m) - 1))), (0, .ref (b + 0)), (1, .int (nI m)), (2, .int (nI g)), (3, .int z)] := hl
        refine lv_iload_n hx hb dX10_code_32 rfl (lv_at hl 4 rfl) ?_
        refine lv_iconst (v := nI 1) hx hb dX10_code_33 (by decide) ?_
        refine lv_iload hx hb dX10_code_34 (lv_at hl 0 rfl) ?_
        refine sg_ci (sg_runS (d := 0) (As := [.int z, .int (nI 1), .int (nI ((2 * 2 ^ m) - 1))]) (rest := []) hx hb hml hts hown hK hM (c_isOutside l G b σ z (nI 1) (nI ((2 * 2 ^ m) - 1))) mi_X10_isOutside wl_X10_60 rfl hl.1 rfl (Nat.le_of_ble_eq_true rfl) dX10_code_36 ⟨by decide, by decide⟩ ⟨Nat.le_refl 0, Nat.le_refl 0⟩) hM sgA (fun r_36 σ_36 H locs hp_36 hM => ?_)
        obtain ⟨hr_36, hs_36⟩ := hp_36; subst r_36; subst σ_36
        refine sn_ifz_eq (tgt := 45) hx hb dX10_code_39 (by decide) (fun d4 => ?_) (fun d4 => ?_)
        · obtain ⟨h, hh1, hh2, rfl⟩ := inR_nat1 (by omega) (not_f d4)
          have hck : cOK m g h := ⟨⟨hm1, hm2⟩, ⟨hg1, by omega⟩, hh1, by omega⟩
          have hl : lv_has ls 5 [(4, .int (nI ((2 * 2 ^ m) - 1))), (0, .ref (b + 0)), (1, .int (nI m)), (2, .int (nI g)), (3, .int (nI h))] := hl
          refine lv_aload_n hx hb dX10_code_45 rfl (lv_at hl 1 rfl) ?_
          refine sg_get (v := .ref (b + 11)) hx hb hts hown hK hM (sh0 kc_0) (kd_lt kc_0 (by decide)) rfl inX10 1 (by decide) wf_X10_19 rfl dX10_code_46 ?_
          refine lv_aload_n hx hb dX10_code_49 rfl (lv_at hl 1 rfl) ?_
          refine sg_get (v := .ref (b + 1)) hx hb hts hown hK hM (sh0 kc_0) (kd_lt kc_0 (by decide)) rfl inX10 0 (by decide) wf_X10_10 rfl dX10_code_50 ?_
          refine sg_cv (sg_runV (d := 3) (As := [.ref (b + 1)]) (rest := []) hx hb hml hts hown hK hM (c_Past_push l G b σ w.1 w.2.1 o w.2.2.1 hPI hA hR) mi_X5_push wl_X10_64 (sh6 kc_11) (kd_lt kc_11 (by decide)) rfl rfl rfl hl.1 rfl (Nat.le_of_ble_eq_true rfl) dX10_code_53 ⟨by decide, by decide⟩ ⟨Nat.le_refl 0, Nat.le_refl 0⟩) hM sgA (fun σ1 H locs hp1 hM => ?_)
          obtain ⟨⟨o', hPI1⟩, hq1⟩ := hp1
          have hI1 : IC σ1 w.1 (phN w.2.1) (phP w.2.1 w.2.2.1 w.1) w.2.2.2.1 w.2.2.2.2 := IC.pushed hI hPI1 hq1
          have hA1 : CM σ1 1 w.1 := hI1.2.1
          refine lv_aload_n hx hb dX10_code_56 rfl (lv_at hl 1 rfl) ?_
          refine sg_get (v := .ref (b + 1)) hx hb hts hown hK hM (sh0 kc_0) (kd_lt kc_0 (by decide)) rfl inX10 0 (by decide) wf_X10_10 rfl dX10_code_57 ?_
          refine sg_get (v := .ref (b + 2)) hx hb hts hown hK hM (sh1 kc_1) (kd_lt kc_1 (by decide)) rfl inX3 0 (by decide) wf_X10_68 rfl dX10_code_60 ?_
          refine lv_iload_n hx hb dX10_code_63 rfl (lv_at hl 2 rfl) ?_
          refine lv_iload_n hx hb dX10_code_64 rfl (lv_at hl 3 rfl) ?_
          refine lv_iload_n hx hb dX10_code_65 rfl (lv_at hl 4 rfl) ?_
          refine sg_cv (sg_runV (d := 0) (As := [.int (nI m), .int (nI g), .int (nI h)]) (rest := []) hx hb hml hts hown hK hM (c_Code_set l G b σ1 2 (nI m) (nI g) (nI h) kc_2) mi_X0_set wl_X10_72 (sh2 kc_2) (kd_lt kc_2 (by decide)) rfl rfl rfl hl.1 rfl (Nat.le_of_ble_eq_true rfl) dX10_code_66 ⟨by decide, by decide⟩ ⟨Nat.le_refl 0, Nat.le_refl 0⟩) hM sgA (fun σ_66 H locs hp_66 hM => ?_)
          subst σ_66
          refine lv_aload_n hx hb dX10_code_69 rfl (lv_at hl 1 rfl) ?_
          refine sg_get (v := .ref (b + 1)) hx hb hts hown hK hM (sh0 kc_0) (kd_lt kc_0 (by decide)) rfl inX10 0 (by decide) wf_X10_10 rfl dX10_code_70 ?_
          refine sg_cv (sg_runV (d := 0) (As := []) (rest := []) hx hb hml hts hown hK hM (c_Mo_clear l G b (codeSet σ1 2 (nI m) (nI g) (nI h)) 1 kc_1) mi_X3_clear wl_X10_78 (sh1 kc_1) (kd_lt kc_1 (by decide)) rfl rfl rfl hl.1 rfl (Nat.le_of_ble_eq_true rfl) dX10_code_73 ⟨by decide, by decide⟩ ⟨Nat.le_refl 0, Nat.le_refl 0⟩) hM sgA (fun σ_73 H locs hp_73 hM => ?_)
          subst σ_73
          refine lv_aload_n hx hb dX10_code_76 rfl (lv_at hl 1 rfl) ?_
          refine sg_get (v := .ref (b + 1)) hx hb hts hown hK hM (sh0 kc_0) (kd_lt kc_0 (by decide)) rfl inX10 0 (by decide) wf_X10_10 rfl dX10_code_77 ?_
          refine lv_iconst (v := (-1)) hx hb dX10_code_80 (by decide) ?_
          refine sg_put (v := (-1)) (ty := .int) hx hb hts hown hK hM sgA (sh1 kc_1) (kd_lt kc_1 (by decide)) rfl inX3 tyX3 tyX3_ok nmX3 3 (by decide) wf_X10_81 rfl (by decide +kernel) rfl rfl (Nat.le_of_ble_eq_true rfl) (by rw [sh1 kc_1]; rfl) dX10_code_81 (fun H locs hM => ?_)
          refine lv_aload_n hx hb dX10_code_84 rfl (lv_at hl 1 rfl) ?_
          refine sg_get (v := .ref (b + 1)) hx hb hts hown hK hM (sh0 kc_0) (kd_lt kc_0 (by decide)) rfl inX10 0 (by decide) wf_X10_10 rfl dX10_code_85 ?_
          refine sg_get (v := .ref (b + 2)) hx hb hts hown hK hM (sh1 kc_1) (kd_lt kc_1 (by decide)) rfl inX3 0 (by decide) wf_X10_68 rfl dX10_code_88 ?_
          refine sg_ci (sg_runV (d := 0) (As := []) (rest := []) hx hb hml hts hown hK hM (c_Code_states l G b (m2 (moClear (codeSet σ1 2 (nI m) (nI g) (nI h)) 1) 1 3 (-1)) 2 m g h kc_2 (coded_CM (mo := 1) (A := w.1) hck).1) mi_X0_states wl_X10_85 (sh2 kc_2) (kd_lt kc_2 (by decide)) rfl rfl rfl hl.1 rfl (Nat.le_of_ble_eq_true rfl) dX10_code_91 ⟨by decide, by decide⟩ ⟨Nat.le_refl 0, Nat.le_refl 0⟩) hM sgA (fun r_91 σ_91 H locs hp_91 hM => ?_)
          obtain ⟨hr_91, hs_91⟩ := hp_91; subst r_91; subst σ_91
          exact hret _ _ _ _ _ _ dX10_code_94 hM (⟨by rw [S_code_ok hck], by rw [S_code_ok hck]; exact IC.nowed hI1 (coded_ok hck) (coded_CM (mo := 1) hck) (fun k hk1 hk2 => by rw [coded_o (by omega)]), fun k hk => by rw [coded_o (by omega), hq1 k (by omega)]⟩)
        · refine lv_ldc (v := (-1000000002)) hx hb hown (hts (Cond.constant RX10 59 ((-1000000002))) wk_X10_59) dX10_code_42 ?_
          exact hret _ _ _ _ _ _ dX10_code_44 hM (⟨by rw [S_code_o (cokB_o3 ⟨hm1, hm2⟩ (not_t d4))], by rw [S_code_o (cokB_o3 ⟨hm1, hm2⟩ (not_t d4))]; exact hI, fun _ _ => rfl⟩)
    · refine lv_ldc (v := (-1000000002)) hx hb hown (hts (Cond.constant RX10 59 ((-1000000002))) wk_X10_59) dX10_code_10 ?_
      exact hret _ _ _ _ _ _ dX10_code_12 hM (by first | exact ⟨by rw [S_code_o (cokB_o1 (inR_f1 d1))], by rw [S_code_o (cokB_o1 (inR_f1 d1))]; exact hI, fun _ _ => rfl⟩ | exact ⟨by rw [S_code_o (cokB_o1 (inR_f2 d2))], by rw [S_code_o (cokB_o1 (inR_f2 d2))]; exact hI, fun _ _ => rfl⟩)
set_option maxHeartbeats 4000000 in
set_option maxRecDepth 100000 in
theorem x_send (l : Launch) (G : GT) (b : Nat) (σ : Mem) (w : World) (hI : ICw σ w) (x y : Int32) : KI l G b yX10_send cX10_send 3 4 σ [.ref (b + 0), .int x, .int y] (fun r σ' => r = (S_send w x y).1 ∧ ICw σ' (S_send w x y).2 ∧ ∀ k, 131 ≤ k → σ' k = σ k) := by
  refine sg_metI [.ref (b + 0), .int x, .int y] (by decide) (Nat.le_of_ble_eq_true rfl) ?_
  intro vp ve vs vm args below meth vc ls Q hx hb hml hown hts hK hM hl hret
  have hl : lv_has ls 3 [(0, .ref (b + 0)), (1, .int x), (2, .int y)] := hl
  obtain ⟨hR, hA, ⟨o, hPI⟩, hJ⟩ := id hI
  have hc : CodeAt σ 2 (rM w.1) (rG w.1) (rH w.1) := hA.1
  have h3 : σ 3 0 = nI (rS w.1) := hA.2.2.1
  have h8 : σ 8 0 = nI (rN w.1) := hA.2.2.2.2.1
  have hE : σ 1 3 = rE w.1 := hA.2.1
  have hS24 := hR.2.1.1
  have hN24 := hR.2.1.2
  have hm8 := p2_le hR.1.1.2
  refine lv_iload_n hx hb dX10_send_0 rfl (lv_at hl 1 rfl) ?_
  refine lv_iconst (v := nI 0) hx hb dX10_send_1 (by decide) ?_
  refine lv_iconst (v := nI 1) hx hb dX10_send_2 (by decide) ?_
  refine sg_ci (sg_runS (d := 0) (As := [.int x, .int (nI 0), .int (nI 1)]) (rest := []) hx hb hml hts hown hK hM (c_isOutside l G b σ x (nI 0) (nI 1)) mi_X10_isOutside wl_X10_60 rfl hl.1 rfl (Nat.le_of_ble_eq_true rfl) dX10_send_3 ⟨by decide, by decide⟩ ⟨Nat.le_refl 0, Nat.le_refl 0⟩) hM sgA (fun r_3 σ_3 H locs hp_3 hM => ?_)
  obtain ⟨hr_3, hs_3⟩ := hp_3; subst r_3; subst σ_3
  refine sn_ifz_ne (tgt := 18) hx hb dX10_send_6 (by decide) (fun d1 => ?_) (fun d1 => ?_)
  · refine lv_ldc (v := (-1000000002)) hx hb hown (hts (Cond.constant RX10 59 ((-1000000002))) wk_X10_59) dX10_send_18 ?_
    exact hret _ _ _ _ _ _ dX10_send_20 hM (⟨by rw [S_send_o1 (not_t d1)], by rw [S_send_o1 (not_t d1)]; exact hI, fun _ _ => rfl⟩)
  · obtain ⟨u, hu, rfl⟩ := inR_nat (by decide) (not_f d1)
    have hl : lv_has ls 3 [(0, .ref (b + 0)), (1, .int (nI u)), (2, .int y)] := hl
    refine lv_iload_n hx hb dX10_send_9 rfl (lv_at hl 2 rfl) ?_
    refine lv_iconst (v := nI 0) hx hb dX10_send_10 (by decide) ?_
    refine lv_iconst (v := nI 3) hx hb dX10_send_11 (by decide) ?_
    refine sg_ci (sg_runS (d := 0) (As := [.int y, .int (nI 0), .int (nI 3)]) (rest := []) hx hb hml hts hown hK hM (c_isOutside l G b σ y (nI 0) (nI 3)) mi_X10_isOutside wl_X10_60 rfl hl.1 rfl (Nat.le_of_ble_eq_true rfl) dX10_send_12 ⟨by decide, by decide⟩ ⟨Nat.le_refl 0, Nat.le_refl 0⟩) hM sgA (fun r_12 σ_12 H locs hp_12 hM => ?_)
    obtain ⟨hr_12, hs_12⟩ := hp_12; subst r_12; subst σ_12
    refine sn_ifz_eq (tgt := 21) hx hb dX10_send_15 (by decide) (fun d2 => ?_) (fun d2 => ?_)
    · obtain ⟨v, hv, rfl⟩ := inR_nat (by decide) (not_f d2)
      have hl : lv_has ls 3 [(0, .ref (b + 0)), (1, .int (nI u)), (2, .int (nI v))] := hl
      refine lv_aload_n hx hb dX10_send_21 rfl (lv_at hl 0 rfl) ?_
      refine sg_get (v := .ref (b + 1)) hx hb hts hown hK hM (sh0 kc_0) (kd_lt kc_0 (by decide)) rfl inX10 0 (by decide) wf_X10_10 rfl dX10_send_22 ?_
      refine sg_get (v := .ref (b + 3)) hx hb hts hown hK hM (sh1 kc_1) (kd_lt kc_1 (by decide)) rfl inX3 1 (by decide) wf_X10_89 rfl dX10_send_25 ?_
      refine sg_ci (sg_runV (d := 0) (As := []) (rest := []) hx hb hml hts hown hK hM (c_Row_isFull l G b σ 3 (rS w.1) kc_3 h3 hS24) mi_X7_isFull wl_X10_93 (sh3 kc_3) (kd_lt kc_3 (by decide)) rfl rfl rfl hl.1 rfl (Nat.le_of_ble_eq_true rfl) dX10_send_28 ⟨by decide, by decide⟩ ⟨Nat.le_refl 0, Nat.le_refl 0⟩) hM sgA (fun r_28 σ_28 H locs hp_28 hM => ?_)
      obtain ⟨hr_28, hs_28⟩ := hp_28; subst r_28; subst σ_28
      refine sn_ifz_eq (tgt := 37) hx hb dX10_send_31 (by decide) (fun d3 => ?_) (fun d3 => ?_)
      · have d3 := of_decide_eq_false d3
        refine lv_aload_n hx hb dX10_send_37 rfl (lv_at hl 0 rfl) ?_
        refine sg_get (v := .ref (b + 11)) hx hb hts hown hK hM (sh0 kc_0) (kd_lt kc_0 (by decide)) rfl inX10 1 (by decide) wf_X10_19 rfl dX10_send_38 ?_
        refine lv_aload_n hx hb dX10_send_41 rfl (lv_at hl 0 rfl) ?_
        refine sg_get (v := .ref (b + 1)) hx hb hts hown hK hM (sh0 kc_0) (kd_lt kc_0 (by decide)) rfl inX10 0 (by decide) wf_X10_10 rfl dX10_send_42 ?_
        refine sg_cv (sg_runV (d := 3) (As := [.ref (b + 1)]) (rest := []) hx hb hml hts hown hK hM (c_Past_push l G b σ w.1 w.2.1 o w.2.2.1 hPI hA hR) mi_X5_push wl_X10_64 (sh6 kc_11) (kd_lt kc_11 (by decide)) rfl rfl rfl hl.1 rfl (Nat.le_of_ble_eq_true rfl) dX10_send_45 ⟨by decide, by decide⟩ ⟨Nat.le_refl 0, Nat.le_refl 0⟩) hM sgA (fun σ1 H locs hp1 hM => ?_)
        obtain ⟨⟨o', hPI1⟩, hq1⟩ := hp1
        have hI1 : IC σ1 w.1 (phN w.2.1) (phP w.2.1 w.2.2.1 w.1) w.2.2.2.1 w.2.2.2.2 := IC.pushed hI hPI1 hq1
        have hA1 : CM σ1 1 w.1 := hI1.2.1
        refine lv_aload_n hx hb dX10_send_48 rfl (lv_at hl 0 rfl) ?_
        refine sg_get (v := .ref (b + 1)) hx hb hts hown hK hM (sh0 kc_0) (kd_lt kc_0 (by decide)) rfl inX10 0 (by decide) wf_X10_10 rfl dX10_send_49 ?_
        refine sg_get (v := .ref (b + 3)) hx hb hts hown hK hM (sh1 kc_1) (kd_lt kc_1 (by decide)) rfl inX3 1 (by decide) wf_X10_89 rfl dX10_send_52 ?_
        refine lv_aload_n hx hb dX10_send_55 rfl (lv_at hl 0 rfl) ?_
        refine sg_get (v := .ref (b + 1)) hx hb hts hown hK hM (sh0 kc_0) (kd_lt kc_0 (by decide)) rfl inX10 0 (by decide) wf_X10_10 rfl dX10_send_56 ?_
        refine sg_get (v := .ref (b + 2)) hx hb hts hown hK hM (sh1 kc_1) (kd_lt kc_1 (by decide)) rfl inX3 0 (by decide) wf_X10_68 rfl dX10_send_59 ?_
        refine lv_iload_n hx hb dX10_send_62 rfl (lv_at hl 1 rfl) ?_
        refine lv_iload_n hx hb dX10_send_63 rfl (lv_at hl 2 rfl) ?_
        refine sg_ci (sg_runV (d := 2) (As := [.ref (b + 2), .int (nI u), .int (nI v)]) (rest := []) hx hb hml hts hown hK hM (c_Row_append l G b σ1 3 (rS w.1) 2 (rM w.1) (rG w.1) (rH w.1) (stS w.1 (rS w.1)) u v kc_3 kc_2 hA1.1 hA1.2.2.1 (by omega) hA1.last (stS_lt hR _ (Nat.le_refl _)) (by omega) (by omega)) mi_X7_append wl_X10_100 (sh3 kc_3) (kd_lt kc_3 (by decide)) rfl rfl rfl hl.1 rfl (Nat.le_of_ble_eq_true rfl) dX10_send_64 ⟨by decide, by decide⟩ ⟨Nat.le_refl 0, Nat.le_refl 0⟩) hM sgA (fun r_64 σ2 H locs hs2 hM => ?_)
        obtain ⟨hr_64, hs2⟩ := hs2; subst r_64
        subst hs2
        exact hret _ _ _ _ _ _ dX10_send_67 hM (⟨by rw [S_send_ok (by omega) (by omega) (by omega), ptS_sent'], by rw [S_send_ok (by omega) (by omega) (by omega)]; exact IC.nowed hI1 (sent_ok hR (by omega) (by omega) (by omega)) (sent_CM (mo := 1) hA1 u v) (fun k hk1 hk2 => rowApp_o (by omega)), fun k hk => by rw [rowApp_o (by omega), hq1 k (by omega)]⟩)
      · have d3 := of_decide_eq_true d3
        refine lv_ldc (v := (-1000000004)) hx hb hown (hts (Cond.constant RX10 99 ((-1000000004))) wk_X10_99) dX10_send_34 ?_
        exact hret _ _ _ _ _ _ dX10_send_36 hM (⟨by rw [S_send_full (by omega) (by omega) (by omega)], by rw [S_send_full (by omega) (by omega) (by omega)]; exact hI, fun _ _ => rfl⟩)
    · refine lv_ldc (v := (-1000000002)) hx hb hown (hts (Cond.constant RX10 59 ((-1000000002))) wk_X10_59) dX10_send_18 ?_
      exact hret _ _ _ _ _ _ dX10_send_20 hM (⟨by rw [S_send_o2 (not_t d2)], by rw [S_send_o2 (not_t d2)]; exact hI, fun _ _ => rfl⟩)
set_option maxHeartbeats 4000000 in
set_option maxRecDepth 100000 in
theorem x_hear (l : Launch) (G : GT) (b : Nat) (σ : Mem) (w : World) (hI : ICw σ w) (x y : Int32) : KI l G b yX10_hear cX10_hear 3 4 σ [.ref (b + 0), .int x, .int y] (fun r σ' => r = (S_hear w x y).1 ∧ ICw σ' (S_hear w x y).2 ∧ ∀ k, 131 ≤ k → σ' k = σ k) := by
  refine sg_metI [.ref (b + 0), .int x, .int y] (by decide) (Nat.le_of_ble_eq_true rfl) ?_
  intro vp ve vs vm args below meth vc ls Q hx hb hml hown hts hK hM hl hret
  have hl : lv_has ls 3 [(0, .ref (b + 0)), (1, .int x), (2, .int y)] := hl
  obtain ⟨hR, hA, ⟨o, hPI⟩, hJ⟩ := id hI
  have hc : CodeAt σ 2 (rM w.1) (rG w.1) (rH w.1) := hA.1
  have h3 : σ 3 0 = nI (rS w.1) := hA.2.2.1
  have h8 : σ 8 0 = nI (rN w.1) := hA.2.2.2.2.1
  have hE : σ 1 3 = rE w.1 := hA.2.1
  have hS24 := hR.2.1.1
  have hN24 := hR.2.1.2
  have hm8 := p2_le hR.1.1.2
  refine lv_iload_n hx hb dX10_hear_0 rfl (lv_at hl 1 rfl) ?_
  refine lv_bipush (v := (-99)) hx hb dX10_hear_1 (by decide) ?_
  refine lv_bipush (v := nI 99) hx hb dX10_hear_3 (by decide) ?_
  refine sg_ci (sg_runS (d := 0) (As := [.int x, .int (-99), .int (nI 99)]) (rest := []) hx hb hml hts hown hK hM (c_isOutside l G b σ x (-99) (nI 99)) mi_X10_isOutside wl_X10_60 rfl hl.1 rfl (Nat.le_of_ble_eq_true rfl) dX10_hear_5 ⟨by decide, by decide⟩ ⟨Nat.le_refl 0, Nat.le_refl 0⟩) hM sgA (fun r_5 σ_5 H locs hp_5 hM => ?_)
  obtain ⟨hr_5, hs_5⟩ := hp_5; subst r_5; subst σ_5
  refine sn_ifz_ne (tgt := 22) hx hb dX10_hear_8 (by decide) (fun d1 => ?_) (fun d1 => ?_)
  · refine lv_ldc (v := (-1000000002)) hx hb hown (hts (Cond.constant RX10 59 ((-1000000002))) wk_X10_59) dX10_hear_22 ?_
    exact hret _ _ _ _ _ _ dX10_hear_24 hM (by first | exact ⟨by rw [S_hear_o1 (not_t d1)], by rw [S_hear_o1 (not_t d1)]; exact hI, fun _ _ => rfl⟩ | exact ⟨by rw [S_hear_o2 (not_t d2)], by rw [S_hear_o2 (not_t d2)]; exact hI, fun _ _ => rfl⟩)
  · refine lv_iload_n hx hb dX10_hear_11 rfl (lv_at hl 2 rfl) ?_
    refine lv_bipush (v := (-99)) hx hb dX10_hear_12 (by decide) ?_
    refine lv_bipush (v := nI 99) hx hb dX10_hear_14 (by decide) ?_
    refine sg_ci (sg_runS (d := 0) (As := [.int y, .int (-99), .int (nI 99)]) (rest := []) hx hb hml hts hown hK hM (c_isOutside l G b σ y (-99) (nI 99)) mi_X10_isOutside wl_X10_60 rfl hl.1 rfl (Nat.le_of_ble_eq_true rfl) dX10_hear_16 ⟨by decide, by decide⟩ ⟨Nat.le_refl 0, Nat.le_refl 0⟩) hM sgA (fun r_16 σ_16 H locs hp_16 hM => ?_)
    obtain ⟨hr_16, hs_16⟩ := hp_16; subst r_16; subst σ_16
    refine sn_ifz_eq (tgt := 25) hx hb dX10_hear_19 (by decide) (fun d2 => ?_) (fun d2 => ?_)
    · refine lv_aload_n hx hb dX10_hear_25 rfl (lv_at hl 0 rfl) ?_
      refine sg_get (v := .ref (b + 1)) hx hb hts hown hK hM (sh0 kc_0) (kd_lt kc_0 (by decide)) rfl inX10 0 (by decide) wf_X10_10 rfl dX10_hear_26 ?_
      refine sg_get (v := .ref (b + 8)) hx hb hts hown hK hM (sh1 kc_1) (kd_lt kc_1 (by decide)) rfl inX3 2 (by decide) wf_X10_104 rfl dX10_hear_29 ?_
      refine sg_ci (sg_runV (d := 0) (As := []) (rest := []) hx hb hml hts hown hK hM (c_Pl_isFull l G b σ 8 (rN w.1) kc_8 h8 hN24) mi_X6_isFull wl_X10_108 (sh5 kc_8) (kd_lt kc_8 (by decide)) rfl rfl rfl hl.1 rfl (Nat.le_of_ble_eq_true rfl) dX10_hear_32 ⟨by decide, by decide⟩ ⟨Nat.le_refl 0, Nat.le_refl 0⟩) hM sgA (fun r_32 σ_32 H locs hp_32 hM => ?_)
      obtain ⟨hr_32, hs_32⟩ := hp_32; subst r_32; subst σ_32
      refine sn_ifz_eq (tgt := 41) hx hb dX10_hear_35 (by decide) (fun d3 => ?_) (fun d3 => ?_)
      · have d3 := of_decide_eq_false d3
        refine lv_aload_n hx hb dX10_hear_41 rfl (lv_at hl 0 rfl) ?_
        refine sg_get (v := .ref (b + 11)) hx hb hts hown hK hM (sh0 kc_0) (kd_lt kc_0 (by decide)) rfl inX10 1 (by decide) wf_X10_19 rfl dX10_hear_42 ?_
        refine lv_aload_n hx hb dX10_hear_45 rfl (lv_at hl 0 rfl) ?_
        refine sg_get (v := .ref (b + 1)) hx hb hts hown hK hM (sh0 kc_0) (kd_lt kc_0 (by decide)) rfl inX10 0 (by decide) wf_X10_10 rfl dX10_hear_46 ?_
        refine sg_cv (sg_runV (d := 3) (As := [.ref (b + 1)]) (rest := []) hx hb hml hts hown hK hM (c_Past_push l G b σ w.1 w.2.1 o w.2.2.1 hPI hA hR) mi_X5_push wl_X10_64 (sh6 kc_11) (kd_lt kc_11 (by decide)) rfl rfl rfl hl.1 rfl (Nat.le_of_ble_eq_true rfl) dX10_hear_49 ⟨by decide, by decide⟩ ⟨Nat.le_refl 0, Nat.le_refl 0⟩) hM sgA (fun σ1 H locs hp1 hM => ?_)
        obtain ⟨⟨o', hPI1⟩, hq1⟩ := hp1
        have hI1 : IC σ1 w.1 (phN w.2.1) (phP w.2.1 w.2.2.1 w.1) w.2.2.2.1 w.2.2.2.2 := IC.pushed hI hPI1 hq1
        have hA1 : CM σ1 1 w.1 := hI1.2.1
        refine lv_aload_n hx hb dX10_hear_52 rfl (lv_at hl 0 rfl) ?_
        refine sg_get (v := .ref (b + 1)) hx hb hts hown hK hM (sh0 kc_0) (kd_lt kc_0 (by decide)) rfl inX10 0 (by decide) wf_X10_10 rfl dX10_hear_53 ?_
        refine sg_get (v := .ref (b + 8)) hx hb hts hown hK hM (sh1 kc_1) (kd_lt kc_1 (by decide)) rfl inX3 2 (by decide) wf_X10_104 rfl dX10_hear_56 ?_
        refine lv_iload_n hx hb dX10_hear_59 rfl (lv_at hl 1 rfl) ?_
        refine lv_iload_n hx hb dX10_hear_60 rfl (lv_at hl 2 rfl) ?_
        refine sg_cv (sg_runV (d := 1) (As := [.int x, .int y]) (rest := []) hx hb hml hts hown hK hM (c_Pl_append l G b σ1 8 (rN w.1) x y kc_8 hA1.2.2.2.2.1 (by omega)) mi_X6_append wl_X10_111 (sh5 kc_8) (kd_lt kc_8 (by decide)) rfl rfl rfl hl.1 rfl (Nat.le_of_ble_eq_true rfl) dX10_hear_61 ⟨by decide, by decide⟩ ⟨Nat.le_refl 0, Nat.le_refl 0⟩) hM sgA (fun σ2 H locs hp_61 hM => ?_)
        subst σ2
        refine lv_aload_n hx hb dX10_hear_64 rfl (lv_at hl 0 rfl) ?_
        refine sg_get (v := .ref (b + 1)) hx hb hts hown hK hM (sh0 kc_0) (kd_lt kc_0 (by decide)) rfl inX10 0 (by decide) wf_X10_10 rfl dX10_hear_65 ?_
        refine sg_get (v := .ref (b + 8)) hx hb hts hown hK hM (sh1 kc_1) (kd_lt kc_1 (by decide)) rfl inX3 2 (by decide) wf_X10_104 rfl dX10_hear_68 ?_
        refine sg_get (v := .int ((plApp σ1 8 (rN w.1) x y) 8 0)) hx hb hts hown hK hM (sh5 kc_8) (kd_lt kc_8 (by decide)) rfl inX6 0 (by decide) wf_X10_114 rfl dX10_hear_71 ?_
        refine sn_top (y := nI (rN w.1 + 1)) ((heard_CM (mo := 1) hA1 x y).2.2.2.2.1) ?_
        exact hret _ _ _ _ _ _ dX10_hear_74 hM (⟨by rw [S_hear_ok (not_f d1) (not_f d2) (by omega)], by rw [S_hear_ok (not_f d1) (not_f d2) (by omega)]; exact IC.nowed hI1 (heard_ok hR ⟨inR_99 (not_f d1), inR_99 (not_f d2)⟩ (by omega)) (heard_CM (mo := 1) hA1 x y) (fun k hk1 hk2 => plApp_o (by omega)), fun k hk => by rw [plApp_o (by omega), hq1 k (by omega)]⟩)
      · have d3 := of_decide_eq_true d3
        refine lv_ldc (v := (-1000000004)) hx hb hown (hts (Cond.constant RX10 99 ((-1000000004))) wk_X10_99) dX10_hear_38 ?_
        exact hret _ _ _ _ _ _ dX10_hear_40 hM (⟨by rw [S_hear_full (not_f d1) (not_f d2) (by omega)], by rw [S_hear_full (not_f d1) (not_f d2) (by omega)]; exact hI, fun _ _ => rfl⟩)
    · refine lv_ldc (v := (-1000000002)) hx hb hown (hts (Cond.constant RX10 59 ((-1000000002))) wk_X10_59) dX10_hear_22 ?_
      exact hret _ _ _ _ _ _ dX10_hear_24 hM (by first | exact ⟨by rw [S_hear_o1 (not_t d1)], by rw [S_hear_o1 (not_t d1)]; exact hI, fun _ _ => rfl⟩ | exact ⟨by rw [S_hear_o2 (not_t d2)], by rw [S_hear_o2 (not_t d2)]; exact hI, fun _ _ => rfl⟩)
set_option maxHeartbeats 4000000 in
set_option maxRecDepth 100000 in
theorem x_wipe (l : Launch) (G : GT) (b : Nat) (σ : Mem) (w : World) (hI : ICw σ w)  : KI l G b yX10_wipe cX10_wipe 2 4 σ [.ref (b + 0)] (fun r σ' => r = (S_wipe w).1 ∧ ICw σ' (S_wipe w).2 ∧ ∀ k, 131 ≤ k → σ' k = σ k) := by
  refine sg_metI [.ref (b + 0)] (by decide) (Nat.le_of_ble_eq_true rfl) ?_
  intro vp ve vs vm args below meth vc ls Q hx hb hml hown hts hK hM hl hret
  have hl : lv_has ls 2 [(0, .ref (b + 0))] := hl
  obtain ⟨hR, hA, ⟨o, hPI⟩, hJ⟩ := id hI
  have hc : CodeAt σ 2 (rM w.1) (rG w.1) (rH w.1) := hA.1
  have h3 : σ 3 0 = nI (rS w.1) := hA.2.2.1
  have h8 : σ 8 0 = nI (rN w.1) := hA.2.2.2.2.1
  have hE : σ 1 3 = rE w.1 := hA.2.1
  have hS24 := hR.2.1.1
  have hN24 := hR.2.1.2
  have hm8 := p2_le hR.1.1.2
  refine lv_aload_n hx hb dX10_wipe_0 rfl (lv_at hl 0 rfl) ?_
  refine sg_get (v := .ref (b + 11)) hx hb hts hown hK hM (sh0 kc_0) (kd_lt kc_0 (by decide)) rfl inX10 1 (by decide) wf_X10_19 rfl dX10_wipe_1 ?_
  refine lv_aload_n hx hb dX10_wipe_4 rfl (lv_at hl 0 rfl) ?_
  refine sg_get (v := .ref (b + 1)) hx hb hts hown hK hM (sh0 kc_0) (kd_lt kc_0 (by decide)) rfl inX10 0 (by decide) wf_X10_10 rfl dX10_wipe_5 ?_
  refine sg_cv (sg_runV (d := 3) (As := [.ref (b + 1)]) (rest := []) hx hb hml hts hown hK hM (c_Past_push l G b σ w.1 w.2.1 o w.2.2.1 hPI hA hR) mi_X5_push wl_X10_64 (sh6 kc_11) (kd_lt kc_11 (by decide)) rfl rfl rfl hl.1 rfl (Nat.le_of_ble_eq_true rfl) dX10_wipe_8 ⟨by decide, by decide⟩ ⟨Nat.le_refl 0, Nat.le_refl 0⟩) hM sgA (fun σ1 H locs hp1 hM => ?_)
  obtain ⟨⟨o', hPI1⟩, hq1⟩ := hp1
  have hI1 : IC σ1 w.1 (phN w.2.1) (phP w.2.1 w.2.2.1 w.1) w.2.2.2.1 w.2.2.2.2 := IC.pushed hI hPI1 hq1
  have hA1 : CM σ1 1 w.1 := hI1.2.1
  refine lv_aload_n hx hb dX10_wipe_11 rfl (lv_at hl 0 rfl) ?_
  refine sg_get (v := .ref (b + 1)) hx hb hts hown hK hM (sh0 kc_0) (kd_lt kc_0 (by decide)) rfl inX10 0 (by decide) wf_X10_10 rfl dX10_wipe_12 ?_
  refine sg_get (v := .ref (b + 3)) hx hb hts hown hK hM (sh1 kc_1) (kd_lt kc_1 (by decide)) rfl inX3 1 (by decide) wf_X10_89 rfl dX10_wipe_15 ?_
  refine sg_get (v := .int (σ1 3 0)) hx hb hts hown hK hM (sh3 kc_3) (kd_lt kc_3 (by decide)) rfl inX7 0 (by decide) wf_X10_134 rfl dX10_wipe_18 ?_
  refine sn_top (y := nI (rS w.1)) (hA1.2.2.1) ?_
  refine lv_aload_n hx hb dX10_wipe_21 rfl (lv_at hl 0 rfl) ?_
  refine sg_get (v := .ref (b + 1)) hx hb hts hown hK hM (sh0 kc_0) (kd_lt kc_0 (by decide)) rfl inX10 0 (by decide) wf_X10_10 rfl dX10_wipe_22 ?_
  refine sg_get (v := .ref (b + 8)) hx hb hts hown hK hM (sh1 kc_1) (kd_lt kc_1 (by decide)) rfl inX3 2 (by decide) wf_X10_104 rfl dX10_wipe_25 ?_
  refine sg_get (v := .int (σ1 8 0)) hx hb hts hown hK hM (sh5 kc_8) (kd_lt kc_8 (by decide)) rfl inX6 0 (by decide) wf_X10_114 rfl dX10_wipe_28 ?_
  refine sn_top (y := nI (rN w.1)) (hA1.2.2.2.2.1) ?_
  refine sn_iadd hx hb dX10_wipe_31 ?_
  refine lv_istore_n (lv' := [(1, .int (nI ((rS w.1) + (rN w.1)))), (0, .ref (b + 0))]) hx hb dX10_wipe_32 rfl hl (by decide) rfl (fun ls hl => ?_)
  refine lv_aload_n hx hb dX10_wipe_33 rfl (lv_at hl 1 rfl) ?_
  refine sg_get (v := .ref (b + 1)) hx hb hts hown hK hM (sh0 kc_0) (kd_lt kc_0 (by decide)) rfl inX10 0 (by decide) wf_X10_10 rfl dX10_wipe_34 ?_
  refine sg_cv (sg_runV (d := 0) (As := []) (rest := []) hx hb hml hts hown hK hM (c_Mo_clear l G b σ1 1 kc_1) mi_X3_clear wl_X10_78 (sh1 kc_1) (kd_lt kc_1 (by decide)) rfl rfl rfl hl.1 rfl (Nat.le_of_ble_eq_true rfl) dX10_wipe_37 ⟨by decide, by decide⟩ ⟨Nat.le_refl 0, Nat.le_refl 0⟩) hM sgA (fun σ_37 H locs hp_37 hM => ?_)
  subst σ_37
  refine lv_iload_n hx hb dX10_wipe_40 rfl (lv_at hl 0 rfl) ?_
  exact hret _ _ _ _ _ _ dX10_wipe_41 hM (⟨rfl, IC.nowed hI1 (cleared_ok hR) (cleared_CM (mo := 1) hA1) (fun k hk1 hk2 => moClear_o (by omega)), fun k hk => by rw [moClear_o (by omega), hq1 k (by omega)]⟩)
theorem S_end_o {w : World} {x : Int32} (h1 : ¬ x = (-1)) (h2 : stB x (rM w.1) = false) : S_end w x = ((-1000000001), w) := by
  unfold S_end
  rw [if_neg (fun q => q.elim h1 (fun z => by rw [h2] at z; exact absurd z (by decide)))]
theorem S_end_ok {w : World} {x : Int32} (h : x = (-1) ∨ stB x (rM w.1) = true) : S_end w x = (rE w.1, psh w (endedR w.1 x)) := by
  unfold S_end
  rw [if_pos h]
theorem end_e {A : Rec} (hR : ROk A) {x : Int32} (h : x = (-1) ∨ stB x (rM A) = true) : eOK (rM A) x := h.elim Or.inl (fun q => Or.inr (stB_t hR.1.1.2 q))
set_option maxHeartbeats 4000000 in
set_option maxRecDepth 100000 in
theorem x_end (l : Launch) (G : GT) (b : Nat) (σ : Mem) (w : World) (hI : ICw σ w) (x : Int32) : KI l G b yX10_end cX10_end 3 4 σ [.ref (b + 0), .int x] (fun r σ' => r = (S_end w x).1 ∧ ICw σ' (S_end w x).2 ∧ ∀ k, 131 ≤ k → σ' k = σ k) := by
  refine sg_metI [.ref (b + 0), .int x] (by decide) (Nat.le_of_ble_eq_true rfl) ?_
  intro vp ve vs vm args below meth vc ls Q hx hb hml hown hts hK hM hl hret
  have hl : lv_has ls 3 [(0, .ref (b + 0)), (1, .int x)] := hl
  obtain ⟨hR, hA, ⟨o, hPI⟩, hJ⟩ := id hI
  have hc : CodeAt σ 2 (rM w.1) (rG w.1) (rH w.1) := hA.1
  have h3 : σ 3 0 = nI (rS w.1) := hA.2.2.1
  have h8 : σ 8 0 = nI (rN w.1) := hA.2.2.2.2.1
  have hE : σ 1 3 = rE w.1 := hA.2.1
  have hS24 := hR.2.1.1
  have hN24 := hR.2.1.2
  have hm8 := p2_le hR.1.1.2
  refine lv_iload_n hx hb dX10_end_0 rfl (lv_at hl 1 rfl) ?_
  refine lv_iconst (v := (-1)) hx hb dX10_end_1 (by decide) ?_
  refine lv_icmp_eq (tgt := 16) hx hb dX10_end_2 (by decide) (fun d1 => ?_) (fun d1 => ?_)
  · refine lv_aload_n hx hb dX10_end_16 rfl (lv_at hl 0 rfl) ?_
    refine sg_get (v := .ref (b + 11)) hx hb hts hown hK hM (sh0 kc_0) (kd_lt kc_0 (by decide)) rfl inX10 1 (by decide) wf_X10_19 rfl dX10_end_17 ?_
    refine lv_aload_n hx hb dX10_end_20 rfl (lv_at hl 0 rfl) ?_
    refine sg_get (v := .ref (b + 1)) hx hb hts hown hK hM (sh0 kc_0) (kd_lt kc_0 (by decide)) rfl inX10 0 (by decide) wf_X10_10 rfl dX10_end_21 ?_
    refine sg_cv (sg_runV (d := 3) (As := [.ref (b + 1)]) (rest := []) hx hb hml hts hown hK hM (c_Past_push l G b σ w.1 w.2.1 o w.2.2.1 hPI hA hR) mi_X5_push wl_X10_64 (sh6 kc_11) (kd_lt kc_11 (by decide)) rfl rfl rfl hl.1 rfl (Nat.le_of_ble_eq_true rfl) dX10_end_24 ⟨by decide, by decide⟩ ⟨Nat.le_refl 0, Nat.le_refl 0⟩) hM sgA (fun σ1 H locs hp1 hM => ?_)
    obtain ⟨⟨o', hPI1⟩, hq1⟩ := hp1
    have hI1 : IC σ1 w.1 (phN w.2.1) (phP w.2.1 w.2.2.1 w.1) w.2.2.2.1 w.2.2.2.2 := IC.pushed hI hPI1 hq1
    have hA1 : CM σ1 1 w.1 := hI1.2.1
    refine lv_aload_n hx hb dX10_end_27 rfl (lv_at hl 0 rfl) ?_
    refine sg_get (v := .ref (b + 1)) hx hb hts hown hK hM (sh0 kc_0) (kd_lt kc_0 (by decide)) rfl inX10 0 (by decide) wf_X10_10 rfl dX10_end_28 ?_
    refine sg_get (v := .int (σ1 1 3)) hx hb hts hown hK hM (sh1 kc_1) (kd_lt kc_1 (by decide)) rfl inX3 3 (by decide) wf_X10_81 rfl dX10_end_31 ?_
    refine sn_top (y := rE w.1) (hA1.2.1) ?_
    refine lv_istore_n (lv' := [(2, .int (rE w.1)), (0, .ref (b + 0)), (1, .int x)]) hx hb dX10_end_34 rfl hl (by decide) rfl (fun ls hl => ?_)
    refine lv_aload_n hx hb dX10_end_35 rfl (lv_at hl 1 rfl) ?_
    refine sg_get (v := .ref (b + 1)) hx hb hts hown hK hM (sh0 kc_0) (kd_lt kc_0 (by decide)) rfl inX10 0 (by decide) wf_X10_10 rfl dX10_end_36 ?_
    refine lv_iload_n hx hb dX10_end_39 rfl (lv_at hl 2 rfl) ?_
    refine sg_put (v := x) (ty := .int) hx hb hts hown hK hM sgA (sh1 kc_1) (kd_lt kc_1 (by decide)) rfl inX3 tyX3 tyX3_ok nmX3 3 (by decide) wf_X10_81 rfl (by decide +kernel) rfl rfl (Nat.le_of_ble_eq_true rfl) (by rw [sh1 kc_1]; rfl) dX10_end_40 (fun H locs hM => ?_)
    refine lv_iload_n hx hb dX10_end_43 rfl (lv_at hl 0 rfl) ?_
    exact hret _ _ _ _ _ _ dX10_end_44 hM (by first | exact ⟨by rw [S_end_ok (Or.inl d1)], by rw [S_end_ok (Or.inl d1)]; exact IC.nowed hI1 (ended_ok hR (end_e hR (Or.inl d1))) (ended_CM (mo := 1) hA1 x) (fun k hk1 hk2 => m2_o (by omega)), fun k hk => by rw [m2_o (by omega), hq1 k (by omega)]⟩ | exact ⟨by rw [S_end_ok (Or.inr d2)], by rw [S_end_ok (Or.inr d2)]; exact IC.nowed hI1 (ended_ok hR (end_e hR (Or.inr d2))) (ended_CM (mo := 1) hA1 x) (fun k hk1 hk2 => m2_o (by omega)), fun k hk => by rw [m2_o (by omega), hq1 k (by omega)]⟩)
  · refine lv_aload_n hx hb dX10_end_5 rfl (lv_at hl 0 rfl) ?_
    refine lv_iload_n hx hb dX10_end_6 rfl (lv_at hl 1 rfl) ?_
    refine sg_ci (sg_runV (d := 1) (As := [.int x]) (rest := []) hx hb hml hts hown hK hM (c_isState l G b σ (rM w.1) (rG w.1) (rH w.1) x hc) mi_X10_isState wl_X10_135 (sh0 kc_0) (kd_lt kc_0 (by decide)) rfl rfl rfl hl.1 rfl (Nat.le_of_ble_eq_true rfl) dX10_end_7 ⟨by decide, by decide⟩ ⟨Nat.le_refl 0, Nat.le_refl 0⟩) hM sgA (fun r_7 σ_7 H locs hp_7 hM => ?_)
    obtain ⟨hr_7, hs_7⟩ := hp_7; subst r_7; subst σ_7
    refine sn_ifz_ne (tgt := 16) hx hb dX10_end_10 (by decide) (fun d2 => ?_) (fun d2 => ?_)
    · refine lv_aload_n hx hb dX10_end_16 rfl (lv_at hl 0 rfl) ?_
      refine sg_get (v := .ref (b + 11)) hx hb hts hown hK hM (sh0 kc_0) (kd_lt kc_0 (by decide)) rfl inX10 1 (by decide) wf_X10_19 rfl dX10_end_17 ?_
      refine lv_aload_n hx hb dX10_end_20 rfl (lv_at hl 0 rfl) ?_
      refine sg_get (v := .ref (b + 1)) hx hb hts hown hK hM (sh0 kc_0) (kd_lt kc_0 (by decide)) rfl inX10 0 (by decide) wf_X10_10 rfl dX10_end_21 ?_
      refine sg_cv (sg_runV (d := 3) (As := [.ref (b + 1)]) (rest := []) hx hb hml hts hown hK hM (c_Past_push l G b σ w.1 w.2.1 o w.2.2.1 hPI hA hR) mi_X5_push wl_X10_64 (sh6 kc_11) (kd_lt kc_11 (by decide)) rfl rfl rfl hl.1 rfl (Nat.le_of_ble_eq_true rfl) dX10_end_24 ⟨by decide, by decide⟩ ⟨Nat.le_refl 0, Nat.le_refl 0⟩) hM sgA (fun σ1 H locs hp1 hM => ?_)
      obtain ⟨⟨o', hPI1⟩, hq1⟩ := hp1
      have hI1 : IC σ1 w.1 (phN w.2.1) (phP w.2.1 w.2.2.1 w.1) w.2.2.2.1 w.2.2.2.2 := IC.pushed hI hPI1 hq1
      have hA1 : CM σ1 1 w.1 := hI1.2.1
      refine lv_aload_n hx hb dX10_end_27 rfl (lv_at hl 0 rfl) ?_
      refine sg_get (v := .ref (b + 1)) hx hb hts hown hK hM (sh0 kc_0) (kd_lt kc_0 (by decide)) rfl inX10 0 (by decide) wf_X10_10 rfl dX10_end_28 ?_
      refine sg_get (v := .int (σ1 1 3)) hx hb hts hown hK hM (sh1 kc_1) (kd_lt kc_1 (by decide)) rfl inX3 3 (by decide) wf_X10_81 rfl dX10_end_31 ?_
      refine sn_top (y := rE w.1) (hA1.2.1) ?_
      refine lv_istore_n (lv' := [(2, .int (rE w.1)), (0, .ref (b + 0)), (1, .int x)]) hx hb dX10_end_34 rfl hl (by decide) rfl (fun ls hl => ?_)
      refine lv_aload_n hx hb dX10_end_35 rfl (lv_at hl 1 rfl) ?_
      refine sg_get (v := .ref (b + 1)) hx hb hts hown hK hM (sh0 kc_0) (kd_lt kc_0 (by decide)) rfl inX10 0 (by decide) wf_X10_10 rfl dX10_end_36 ?_
      refine lv_iload_n hx hb dX10_end_39 rfl (lv_at hl 2 rfl) ?_
      refine sg_put (v := x) (ty := .int) hx hb hts hown hK hM sgA (sh1 kc_1) (kd_lt kc_1 (by decide)) rfl inX3 tyX3 tyX3_ok nmX3 3 (by decide) wf_X10_81 rfl (by decide +kernel) rfl rfl (Nat.le_of_ble_eq_true rfl) (by rw [sh1 kc_1]; rfl) dX10_end_40 (fun H locs hM => ?_)
      refine lv_iload_n hx hb dX10_end_43 rfl (lv_at hl 0 rfl) ?_
      exact hret _ _ _ _ _ _ dX10_end_44 hM (by first | exact ⟨by rw [S_end_ok (Or.inl d1)], by rw [S_end_ok (Or.inl d1)]; exact IC.nowed hI1 (ended_ok hR (end_e hR (Or.inl d1))) (ended_CM (mo := 1) hA1 x) (fun k hk1 hk2 => m2_o (by omega)), fun k hk => by rw [m2_o (by omega), hq1 k (by omega)]⟩ | exact ⟨by rw [S_end_ok (Or.inr d2)], by rw [S_end_ok (Or.inr d2)]; exact IC.nowed hI1 (ended_ok hR (end_e hR (Or.inr d2))) (ended_CM (mo := 1) hA1 x) (fun k hk1 hk2 => m2_o (by omega)), fun k hk => by rw [m2_o (by omega), hq1 k (by omega)]⟩)
    · refine lv_ldc (v := (-1000000001)) hx hb hown (hts (Cond.constant RX10 139 ((-1000000001))) wk_X10_139) dX10_end_13 ?_
      exact hret _ _ _ _ _ _ dX10_end_15 hM (⟨by rw [S_end_o d1 d2], by rw [S_end_o d1 d2]; exact hI, fun _ _ => rfl⟩)
theorem S_undo_o {w : World} (h : w.2.1 = 0) : S_undo w = ((-1000000003), w) := by unfold S_undo; rw [if_pos h]
theorem S_undo_ok {w : World} (h : w.2.1 ≠ 0) : S_undo w = (nI (w.2.1 - 1), (w.2.2.1 (w.2.1 - 1), w.2.1 - 1, w.2.2)) := by unfold S_undo; rw [if_neg h]
set_option maxHeartbeats 4000000 in
set_option maxRecDepth 100000 in
theorem x_undo (l : Launch) (G : GT) (b : Nat) (σ : Mem) (w : World) (hI : ICw σ w)  : KI l G b yX10_undo cX10_undo 1 4 σ [.ref (b + 0)] (fun r σ' => r = (S_undo w).1 ∧ ICw σ' (S_undo w).2 ∧ ∀ k, 131 ≤ k → σ' k = σ k) := by
  refine sg_metI [.ref (b + 0)] (by decide) (Nat.le_of_ble_eq_true rfl) ?_
  intro vp ve vs vm args below meth vc ls Q hx hb hml hown hts hK hM hl hret
  have hl : lv_has ls 1 [(0, .ref (b + 0))] := hl
  obtain ⟨hR, hA, ⟨o, hPI⟩, hJ⟩ := id hI
  have hc : CodeAt σ 2 (rM w.1) (rG w.1) (rH w.1) := hA.1
  have h3 : σ 3 0 = nI (rS w.1) := hA.2.2.1
  have h8 : σ 8 0 = nI (rN w.1) := hA.2.2.2.2.1
  have hE : σ 1 3 = rE w.1 := hA.2.1
  have hS24 := hR.2.1.1
  have hN24 := hR.2.1.2
  have hm8 := p2_le hR.1.1.2
  refine lv_aload_n hx hb dX10_undo_0 rfl (lv_at hl 0 rfl) ?_
  refine sg_get (v := .ref (b + 11)) hx hb hts hown hK hM (sh0 kc_0) (kd_lt kc_0 (by decide)) rfl inX10 1 (by decide) wf_X10_19 rfl dX10_undo_1 ?_
  refine sg_get (v := .int (σ 11 0)) hx hb hts hown hK hM (sh6 kc_11) (kd_lt kc_11 (by decide)) rfl inX5 0 (by decide) wf_X10_140 rfl dX10_undo_4 ?_
  refine sn_top (y := nI w.2.1) (hPI.1.1) ?_
  refine sn_if_ne (tgt := 13) hx hb dX10_undo_7 (by decide) (by have := hPI.1.2; omega) (fun d1 => ?_) (fun d1 => ?_)
  · refine lv_aload_n hx hb dX10_undo_13 rfl (lv_at hl 0 rfl) ?_
    refine sg_get (v := .ref (b + 11)) hx hb hts hown hK hM (sh0 kc_0) (kd_lt kc_0 (by decide)) rfl inX10 1 (by decide) wf_X10_19 rfl dX10_undo_14 ?_
    refine lv_aload_n hx hb dX10_undo_17 rfl (lv_at hl 0 rfl) ?_
    refine sg_get (v := .ref (b + 1)) hx hb hts hown hK hM (sh0 kc_0) (kd_lt kc_0 (by decide)) rfl inX10 0 (by decide) wf_X10_10 rfl dX10_undo_18 ?_
    refine sg_cv (sg_runV (d := 3) (As := [.ref (b + 1)]) (rest := []) hx hb hml hts hown hK hM (c_Past_pop l G b σ w.2.1 o w.2.2.1 hPI d1) mi_X5_popInto wl_X10_142 (sh6 kc_11) (kd_lt kc_11 (by decide)) rfl rfl rfl hl.1 rfl (Nat.le_of_ble_eq_true rfl) dX10_undo_21 ⟨by decide, by decide⟩ ⟨Nat.le_refl 0, Nat.le_refl 0⟩) hM sgA (fun σ1 H locs hp1 hM => ?_)
    obtain ⟨⟨hPI1, hA1⟩, hq1⟩ := hp1
    refine lv_aload_n hx hb dX10_undo_24 rfl (lv_at hl 0 rfl) ?_
    refine sg_get (v := .ref (b + 11)) hx hb hts hown hK hM (sh0 kc_0) (kd_lt kc_0 (by decide)) rfl inX10 1 (by decide) wf_X10_19 rfl dX10_undo_25 ?_
    refine sg_get (v := .int (σ1 11 0)) hx hb hts hown hK hM (sh6 kc_11) (kd_lt kc_11 (by decide)) rfl inX5 0 (by decide) wf_X10_140 rfl dX10_undo_28 ?_
    refine sn_top (y := nI (w.2.1 - 1)) (hPI1.1.1) ?_
    exact hret _ _ _ _ _ _ dX10_undo_31 hM (⟨by rw [S_undo_ok d1], by rw [S_undo_ok d1]; exact ⟨(hPI.2.2 (w.2.1 - 1) (by omega)).1, hA1, ⟨o, hPI1⟩, fun i hi => ⟨by rw [hq1 114 (by omega)]; exact (hJ i hi).1, fun q => ⟨((hJ i hi).2 q).1, ((hJ i hi).2 q).2.keep (fun k _ _ => hq1 k (by omega))⟩⟩⟩, fun k hk => hq1 k (by omega)⟩)
  · refine lv_ldc (v := (-1000000003)) hx hb hown (hts (Cond.constant RX10 141 ((-1000000003))) wk_X10_141) dX10_undo_10 ?_
    exact hret _ _ _ _ _ _ dX10_undo_12 hM (⟨by rw [S_undo_o d1], by rw [S_undo_o d1]; exact hI, fun _ _ => rfl⟩)
theorem kept_IC {σ : Mem} {w : World} (hI : ICw σ w) {i : Nat} (hi : i < 2) : ICw (m2 (m2 (moC σ (94 + 10 * i) 1 w.1) 114 i (nI 1)) 11 0 (nI 0)) (w.1, 0, w.2.2.1, uR w.2.2.2.1 i w.1, uR w.2.2.2.2 i true) := by
  obtain ⟨hR, hA, ⟨o, hPI⟩, hJ⟩ := hI
  refine ⟨hR, hA.keep (fun k _ _ => by rw [m2_o (by omega), m2_o (by omega), moC_o (by omega)]), ⟨o, ⟨m2_ss, Nat.zero_le _⟩, ⟨by rw [m2_sn (by decide), m2_o (by decide), moC_o (by omega)]; exact hPI.2.1.1, hPI.2.1.2⟩, fun j q => absurd q (Nat.not_lt_zero _)⟩, fun j hj => ?_⟩
  by_cases e : j = i
  · subst e
    refine ⟨?_, fun _ => ?_⟩
    · rw [m2_o (by decide), m2_ss]
      show nI 1 = bz (uR w.2.2.2.2 j true j)
      rw [uR_s]
      rfl
    · show ROk (uR w.2.2.2.1 j w.1 j) ∧ CM _ _ (uR w.2.2.2.1 j w.1 j)
      rw [uR_s]
      exact ⟨hR, (moC_CM hA (by omega)).keep (fun k _ _ => by rw [m2_o (by omega), m2_o (by omega)])⟩
  · refine ⟨?_, fun q => ?_⟩
    · rw [m2_o (by decide), m2_sn e, moC_o (by omega)]
      show _ = bz (uR w.2.2.2.2 i true j)
      rw [uR_n _ _ e]
      exact (hJ j hj).1
    · have q : uR w.2.2.2.2 i true j = true := q
      rw [uR_n _ _ e] at q
      show ROk (uR w.2.2.2.1 i w.1 j) ∧ CM _ _ (uR w.2.2.2.1 i w.1 j)
      rw [uR_n _ _ e]
      exact ⟨((hJ j hj).2 q).1, ((hJ j hj).2 q).2.keep (fun k _ _ => by rw [m2_o (by omega), m2_o (by omega), moC_o (by omega)])⟩
theorem went_IC {σ : Mem} {w : World} (hI : ICw σ w) {i : Nat} (hi : i < 2) (hk : w.2.2.2.2 i = true) : ICw (m2 (moC σ 1 (94 + 10 * i) (w.2.2.2.1 i)) 11 0 (nI 0)) (w.2.2.2.1 i, 0, w.2.2) := by
  obtain ⟨hR, hA, ⟨o, hPI⟩, hJ⟩ := hI
  have q := (hJ i hi).2 hk
  refine ⟨q.1, (moC_CM q.2 (by omega)).keep (fun k _ _ => by rw [m2_o (by omega)]), ⟨o, ⟨m2_ss, Nat.zero_le _⟩, ⟨by rw [m2_sn (by decide), moC_o (by omega)]; exact hPI.2.1.1, hPI.2.1.2⟩, fun j q => absurd q (Nat.not_lt_zero _)⟩, fun j hj => ⟨by rw [m2_o (by decide), moC_o (by omega)]; exact (hJ j hj).1, fun z => ⟨((hJ j hj).2 z).1, ((hJ j hj).2 z).2.keep (fun k _ _ => by rw [m2_o (by omega), moC_o (by omega)])⟩⟩⟩
set_option maxHeartbeats 4000000 in
set_option maxRecDepth 100000 in
theorem x_keep (l : Launch) (G : GT) (b : Nat) (σ : Mem) (w : World) (hI : ICw σ w) (x : Int32) : KI l G b yX10_keep cX10_keep 2 3 σ [.ref (b + 0), .int x] (fun r σ' => r = (S_keep w x).1 ∧ ICw σ' (S_keep w x).2 ∧ ∀ k, 131 ≤ k → σ' k = σ k) := by
  refine sg_metI [.ref (b + 0), .int x] (by decide) (Nat.le_of_ble_eq_true rfl) ?_
  intro vp ve vs vm args below meth vc ls Q hx hb hml hown hts hK hM hl hret
  have hl : lv_has ls 2 [(0, .ref (b + 0)), (1, .int x)] := hl
  obtain ⟨hR, hA, ⟨o, hPI⟩, hJ⟩ := id hI
  have hc : CodeAt σ 2 (rM w.1) (rG w.1) (rH w.1) := hA.1
  have h3 : σ 3 0 = nI (rS w.1) := hA.2.2.1
  have h8 : σ 8 0 = nI (rN w.1) := hA.2.2.2.2.1
  have hE : σ 1 3 = rE w.1 := hA.2.1
  have hS24 := hR.2.1.1
  have hN24 := hR.2.1.2
  have hm8 := p2_le hR.1.1.2
  refine lv_iload_n hx hb dX10_keep_0 rfl (lv_at hl 1 rfl) ?_
  refine lv_iconst (v := nI 0) hx hb dX10_keep_1 (by decide) ?_
  refine lv_iconst (v := nI 1) hx hb dX10_keep_2 (by decide) ?_
  refine sg_ci (sg_runS (d := 0) (As := [.int x, .int (nI 0), .int (nI 1)]) (rest := []) hx hb hml hts hown hK hM (c_isOutside l G b σ x (nI 0) (nI 1)) mi_X10_isOutside wl_X10_60 rfl hl.1 rfl (Nat.le_of_ble_eq_true rfl) dX10_keep_3 ⟨by decide, by decide⟩ ⟨Nat.le_refl 0, Nat.le_refl 0⟩) hM sgA (fun r_3 σ_3 H locs hp_3 hM => ?_)
  obtain ⟨hr_3, hs_3⟩ := hp_3; subst r_3; subst σ_3
  refine sn_ifz_eq (tgt := 12) hx hb dX10_keep_6 (by decide) (fun d1 => ?_) (fun d1 => ?_)
  · obtain ⟨i, hi, rfl⟩ := inR_nat (by decide) (not_f d1)
    have hl : lv_has ls 2 [(0, .ref (b + 0)), (1, .int (nI i))] := hl
    refine lv_aload_n hx hb dX10_keep_12 rfl (lv_at hl 0 rfl) ?_
    refine sg_get (v := .ref (b + 93)) hx hb hts hown hK hM (sh0 kc_0) (kd_lt kc_0 (by decide)) rfl inX10 2 (by decide) wf_X10_23 rfl dX10_keep_13 ?_
    refine lv_iload_n hx hb dX10_keep_16 rfl (lv_at hl 1 rfl) ?_
    refine sg_aald (g := fun j => 94 + 10 * j) hx hb hK hM (sh8 kc_93) (kd_lt kc_93 (by decide)) (i := i) (by omega) (by decide) dX10_keep_17 ?_
    refine lv_aload_n hx hb dX10_keep_18 rfl (lv_at hl 0 rfl) ?_
    refine sg_get (v := .ref (b + 1)) hx hb hts hown hK hM (sh0 kc_0) (kd_lt kc_0 (by decide)) rfl inX10 0 (by decide) wf_X10_10 rfl dX10_keep_19 ?_
    refine sg_cv (sg_runV (d := 2) (As := [.ref (b + 1)]) (rest := []) hx hb hml hts hown hK hM (c_Mo_become l G b σ (94 + 10 * i) 1 (rS w.1) (rN w.1) (kdIma _ (by omega)) kc_1 (by omega) hA.2.2.1 hR.2.1.1 hA.2.2.2.2.1 hR.2.1.2) mi_X3_become wl_X10_239 (sh1 (kdIma _ (by omega))) (kd_lt (kdIma _ (by omega)) (by decide)) rfl rfl rfl hl.1 rfl (Nat.le_of_ble_eq_true rfl) dX10_keep_22 ⟨by decide, by decide⟩ ⟨Nat.le_refl 0, Nat.le_refl 0⟩) hM sgA (fun σ1 H locs hp_22 hM => ?_)
    subst σ1
    refine lv_aload_n hx hb dX10_keep_25 rfl (lv_at hl 0 rfl) ?_
    refine sg_get (v := .ref (b + 114)) hx hb hts hown hK hM (sh0 kc_0) (kd_lt kc_0 (by decide)) rfl inX10 3 (by decide) wf_X10_27 rfl dX10_keep_26 ?_
    refine lv_iload_n hx hb dX10_keep_29 rfl (lv_at hl 1 rfl) ?_
    refine lv_iconst (v := nI 1) hx hb dX10_keep_30 (by decide) ?_
    refine sg_zast hx hb hK hM sgA (fun f => sh9 kc_114) (kd_lt kc_114 (by decide)) (i := i) (rfl) (by omega) (by decide) dX10_keep_31 (fun H locs hM => ?_)
    refine lv_aload_n hx hb dX10_keep_32 rfl (lv_at hl 0 rfl) ?_
    refine sg_get (v := .ref (b + 11)) hx hb hts hown hK hM (sh0 kc_0) (kd_lt kc_0 (by decide)) rfl inX10 1 (by decide) wf_X10_19 rfl dX10_keep_33 ?_
    refine sg_cv (sg_runV (d := 0) (As := []) (rest := []) hx hb hml hts hown hK hM (c_Past_forget l G b (m2 (moC σ (94 + 10 * i) 1 w.1) 114 i (nI 1))) mi_X5_forget wl_X10_242 (sh6 kc_11) (kd_lt kc_11 (by decide)) rfl rfl rfl hl.1 rfl (Nat.le_of_ble_eq_true rfl) dX10_keep_36 ⟨by decide, by decide⟩ ⟨Nat.le_refl 0, Nat.le_refl 0⟩) hM sgA (fun σ_36 H locs hp_36 hM => ?_)
    subst σ_36
    refine lv_aload_n hx hb dX10_keep_39 rfl (lv_at hl 0 rfl) ?_
    refine sg_get (v := .ref (b + 1)) hx hb hts hown hK hM (sh0 kc_0) (kd_lt kc_0 (by decide)) rfl inX10 0 (by decide) wf_X10_10 rfl dX10_keep_40 ?_
    refine sg_get (v := .ref (b + 8)) hx hb hts hown hK hM (sh1 kc_1) (kd_lt kc_1 (by decide)) rfl inX3 2 (by decide) wf_X10_104 rfl dX10_keep_43 ?_
    refine sg_get (v := .int ((m2 (m2 (moC σ (94 + 10 * i) 1 w.1) 114 i (nI 1)) 11 0 (nI 0)) 8 0)) hx hb hts hown hK hM (sh5 kc_8) (kd_lt kc_8 (by decide)) rfl inX6 0 (by decide) wf_X10_114 rfl dX10_keep_46 ?_
    refine sn_top (y := nI (rN w.1)) (by rw [m2_o (by decide), m2_o (by decide)]; exact (by rw [moC_o (by omega)]; exact h8)) ?_
    exact hret _ _ _ _ _ _ dX10_keep_49 hM (⟨by rw [S_keep_ok (by omega)], by rw [S_keep_ok (by omega)]; exact kept_IC hI (by omega), fun k hk => by rw [m2_o (by omega), m2_o (by omega)]; exact moC_o (by omega)⟩)
  · refine lv_ldc (v := (-1000000001)) hx hb hown (hts (Cond.constant RX10 139 ((-1000000001))) wk_X10_139) dX10_keep_9 ?_
    exact hret _ _ _ _ _ _ dX10_keep_11 hM (⟨by rw [S_keep_o (not_t d1)], by rw [S_keep_o (not_t d1)]; exact hI, fun _ _ => rfl⟩)
set_option maxHeartbeats 4000000 in
set_option maxRecDepth 100000 in
theorem x_goBack (l : Launch) (G : GT) (b : Nat) (σ : Mem) (w : World) (hI : ICw σ w) (x : Int32) : KI l G b yX10_goBack cX10_goBack 2 3 σ [.ref (b + 0), .int x] (fun r σ' => r = (S_goBack w x).1 ∧ ICw σ' (S_goBack w x).2 ∧ ∀ k, 131 ≤ k → σ' k = σ k) := by
  refine sg_metI [.ref (b + 0), .int x] (by decide) (Nat.le_of_ble_eq_true rfl) ?_
  intro vp ve vs vm args below meth vc ls Q hx hb hml hown hts hK hM hl hret
  have hl : lv_has ls 2 [(0, .ref (b + 0)), (1, .int x)] := hl
  obtain ⟨hR, hA, ⟨o, hPI⟩, hJ⟩ := id hI
  have hc : CodeAt σ 2 (rM w.1) (rG w.1) (rH w.1) := hA.1
  have h3 : σ 3 0 = nI (rS w.1) := hA.2.2.1
  have h8 : σ 8 0 = nI (rN w.1) := hA.2.2.2.2.1
  have hE : σ 1 3 = rE w.1 := hA.2.1
  have hS24 := hR.2.1.1
  have hN24 := hR.2.1.2
  have hm8 := p2_le hR.1.1.2
  refine lv_iload_n hx hb dX10_goBack_0 rfl (lv_at hl 1 rfl) ?_
  refine lv_iconst (v := nI 0) hx hb dX10_goBack_1 (by decide) ?_
  refine lv_iconst (v := nI 1) hx hb dX10_goBack_2 (by decide) ?_
  refine sg_ci (sg_runS (d := 0) (As := [.int x, .int (nI 0), .int (nI 1)]) (rest := []) hx hb hml hts hown hK hM (c_isOutside l G b σ x (nI 0) (nI 1)) mi_X10_isOutside wl_X10_60 rfl hl.1 rfl (Nat.le_of_ble_eq_true rfl) dX10_goBack_3 ⟨by decide, by decide⟩ ⟨Nat.le_refl 0, Nat.le_refl 0⟩) hM sgA (fun r_3 σ_3 H locs hp_3 hM => ?_)
  obtain ⟨hr_3, hs_3⟩ := hp_3; subst r_3; subst σ_3
  refine sn_ifz_eq (tgt := 12) hx hb dX10_goBack_6 (by decide) (fun d1 => ?_) (fun d1 => ?_)
  · obtain ⟨i, hi, rfl⟩ := inR_nat (by decide) (not_f d1)
    have hl : lv_has ls 2 [(0, .ref (b + 0)), (1, .int (nI i))] := hl
    refine lv_aload_n hx hb dX10_goBack_12 rfl (lv_at hl 0 rfl) ?_
    refine sg_get (v := .ref (b + 114)) hx hb hts hown hK hM (sh0 kc_0) (kd_lt kc_0 (by decide)) rfl inX10 3 (by decide) wf_X10_27 rfl dX10_goBack_13 ?_
    refine lv_iload_n hx hb dX10_goBack_16 rfl (lv_at hl 1 rfl) ?_
    refine sg_zald hx hb hK hM (sh9 kc_114) (kd_lt kc_114 (by decide)) (i := i) (by omega) (by decide) dX10_goBack_17 ?_
    refine sn_top (y := bz (w.2.2.2.2 i)) ((hJ i (by omega)).1) ?_
    refine sn_ifz_ne (tgt := 24) hx hb dX10_goBack_18 (by decide) (fun d2 => ?_) (fun d2 => ?_)
    · have hq := (hJ i (by omega)).2 d2
      refine lv_aload_n hx hb dX10_goBack_24 rfl (lv_at hl 0 rfl) ?_
      refine sg_get (v := .ref (b + 1)) hx hb hts hown hK hM (sh0 kc_0) (kd_lt kc_0 (by decide)) rfl inX10 0 (by decide) wf_X10_10 rfl dX10_goBack_25 ?_
      refine lv_aload_n hx hb dX10_goBack_28 rfl (lv_at hl 0 rfl) ?_
      refine sg_get (v := .ref (b + 93)) hx hb hts hown hK hM (sh0 kc_0) (kd_lt kc_0 (by decide)) rfl inX10 2 (by decide) wf_X10_23 rfl dX10_goBack_29 ?_
      refine lv_iload_n hx hb dX10_goBack_32 rfl (lv_at hl 1 rfl) ?_
      refine sg_aald (g := fun j => 94 + 10 * j) hx hb hK hM (sh8 kc_93) (kd_lt kc_93 (by decide)) (i := i) (by omega) (by decide) dX10_goBack_33 ?_
      refine sg_cv (sg_runV (d := 2) (As := [.ref (b + (94 + 10 * i))]) (rest := []) hx hb hml hts hown hK hM (c_Mo_become l G b σ 1 (94 + 10 * i) (rS (w.2.2.2.1 i)) (rN (w.2.2.2.1 i)) kc_1 (kdIma _ (by omega)) (by omega) hq.2.2.2.1 hq.1.2.1.1 hq.2.2.2.2.2.1 hq.1.2.1.2) mi_X3_become wl_X10_239 (sh1 kc_1) (kd_lt kc_1 (by decide)) rfl rfl rfl hl.1 rfl (Nat.le_of_ble_eq_true rfl) dX10_goBack_34 ⟨by decide, by decide⟩ ⟨Nat.le_refl 0, Nat.le_refl 0⟩) hM sgA (fun σ1 H locs hp_34 hM => ?_)
      subst σ1
      refine lv_aload_n hx hb dX10_goBack_37 rfl (lv_at hl 0 rfl) ?_
      refine sg_get (v := .ref (b + 11)) hx hb hts hown hK hM (sh0 kc_0) (kd_lt kc_0 (by decide)) rfl inX10 1 (by decide) wf_X10_19 rfl dX10_goBack_38 ?_
      refine sg_cv (sg_runV (d := 0) (As := []) (rest := []) hx hb hml hts hown hK hM (c_Past_forget l G b (moC σ 1 (94 + 10 * i) (w.2.2.2.1 i))) mi_X5_forget wl_X10_242 (sh6 kc_11) (kd_lt kc_11 (by decide)) rfl rfl rfl hl.1 rfl (Nat.le_of_ble_eq_true rfl) dX10_goBack_41 ⟨by decide, by decide⟩ ⟨Nat.le_refl 0, Nat.le_refl 0⟩) hM sgA (fun σ_41 H locs hp_41 hM => ?_)
      subst σ_41
      refine lv_aload_n hx hb dX10_goBack_44 rfl (lv_at hl 0 rfl) ?_
      refine sg_get (v := .ref (b + 1)) hx hb hts hown hK hM (sh0 kc_0) (kd_lt kc_0 (by decide)) rfl inX10 0 (by decide) wf_X10_10 rfl dX10_goBack_45 ?_
      refine sg_get (v := .ref (b + 8)) hx hb hts hown hK hM (sh1 kc_1) (kd_lt kc_1 (by decide)) rfl inX3 2 (by decide) wf_X10_104 rfl dX10_goBack_48 ?_
      refine sg_get (v := .int ((m2 (moC σ 1 (94 + 10 * i) (w.2.2.2.1 i)) 11 0 (nI 0)) 8 0)) hx hb hts hown hK hM (sh5 kc_8) (kd_lt kc_8 (by decide)) rfl inX6 0 (by decide) wf_X10_114 rfl dX10_goBack_51 ?_
      refine sn_top (y := nI (rN (w.2.2.2.1 i))) (by rw [m2_o (by decide)]; exact (moC_CM hq.2 (by omega)).2.2.2.2.1) ?_
      exact hret _ _ _ _ _ _ dX10_goBack_54 hM (⟨by rw [S_goBack_ok (by omega) d2], by rw [S_goBack_ok (by omega) d2]; exact went_IC hI (by omega) d2, fun k hk => by rw [m2_o (by omega)]; exact moC_o (by omega)⟩)
    · refine lv_ldc (v := (-1000000003)) hx hb hown (hts (Cond.constant RX10 141 ((-1000000003))) wk_X10_141) dX10_goBack_21 ?_
      exact hret _ _ _ _ _ _ dX10_goBack_23 hM (⟨by rw [S_goBack_n (by omega) d2], by rw [S_goBack_n (by omega) d2]; exact hI, fun _ _ => rfl⟩)
  · refine lv_ldc (v := (-1000000001)) hx hb hown (hts (Cond.constant RX10 139 ((-1000000001))) wk_X10_139) dX10_goBack_9 ?_
    exact hret _ _ _ _ _ _ dX10_goBack_11 hM (⟨by rw [S_goBack_o (not_t d1)], by rw [S_goBack_o (not_t d1)]; exact hI, fun _ _ => rfl⟩)

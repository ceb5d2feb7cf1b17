set_option maxHeartbeats 4000000 in
set_option maxRecDepth 100000 in
theorem c_Past_push (l : Launch) (G : GT) (b : Nat) (σ : Mem) (A : Rec) (n o : Nat) (P : Nat → Rec) (hp : PI σ n o P) (hA : CM σ 1 A) (hR : ROk A) : KV l G b yX5_push cX5_push 2 3 σ [.ref (b + 11), .ref (b + 1)] (fun σ' => (∃ o', PI σ' (phN n) o' (phP n P A)) ∧ ∀ k, k < 11 ∨ 93 ≤ k → σ' k = σ k) := by
  refine sg_metV [.ref (b + 11), .ref (b + 1)] (by decide) (Nat.le_of_ble_eq_true rfl) ?_
  intro vp ve vs vm args below meth vc ls Q hx hb hml hown hts hK hM hl hret
  have hl : lv_has ls 2 [(0, .ref (b + 11)), (1, .ref (b + 1))] := hl
  have hn8 := hp.1.2
  have ho8 := hp.2.1.2
  refine lv_aload_n hx hb dX5_push_0 rfl (lv_at hl 0 rfl) ?_
  refine sg_get (v := .ref (b + 12)) hx hb hts hown hK hM (sh6 kc_11) (kd_lt kc_11 (by decide)) rfl inX5 2 (by decide) wf_X5_11 rfl dX5_push_1 ?_
  refine lv_aload_n hx hb dX5_push_4 rfl (lv_at hl 0 rfl) ?_
  refine sg_get (v := .int (σ 11 1)) hx hb hts hown hK hM (sh6 kc_11) (kd_lt kc_11 (by decide)) rfl inX5 1 (by decide) wf_X5_18 rfl dX5_push_5 ?_
  refine sn_top (y := nI o) (hp.2.1.1) ?_
  refine lv_aload_n hx hb dX5_push_8 rfl (lv_at hl 0 rfl) ?_
  refine sg_get (v := .int (σ 11 0)) hx hb hts hown hK hM (sh6 kc_11) (kd_lt kc_11 (by decide)) rfl inX5 0 (by decide) wf_X5_22 rfl dX5_push_9 ?_
  refine sn_top (y := nI n) (hp.1.1) ?_
  refine sn_iadd hx hb dX5_push_12 ?_
  refine lv_bipush (v := nI 8) hx hb dX5_push_13 (by decide) ?_
  refine sn_irem hx hb dX5_push_15 (by omega) (by omega) (by omega) ?_
  refine sg_aald (g := fun j => 13 + 10 * j) hx hb hK hM (sh7 kc_12) (kd_lt kc_12 (by decide)) (i := (o + n) % 8) (by omega) (by decide) dX5_push_16 ?_
  refine lv_aload_n hx hb dX5_push_17 rfl (lv_at hl 1 rfl) ?_
  refine sg_cv (sg_runV (d := 2) (As := [.ref (b + 1)]) (rest := []) hx hb hml hts hown hK hM (c_Mo_become l G b σ (13 + 10 * ((o + n) % 8)) 1 (rS A) (rN A) (kdRing _ (by omega)) kc_1 (by omega) hA.2.2.1 hR.2.1.1 hA.2.2.2.2.1 hR.2.1.2) mi_X3_become wl_X5_25 (sh1 (kdRing _ (by omega))) (kd_lt (kdRing _ (by omega)) (by decide)) rfl rfl rfl hl.1 rfl (Nat.le_of_ble_eq_true rfl) dX5_push_18 ⟨by decide, by decide⟩ ⟨Nat.le_refl 0, Nat.le_refl 0⟩) hM sgA (fun σ_18 H locs hp_18 hM => ?_)
  subst σ_18
  refine lv_aload_n hx hb dX5_push_21 rfl (lv_at hl 0 rfl) ?_
  refine sg_get (v := .int ((moC σ (13 + 10 * ((o + n) % 8)) 1 A) 11 0)) hx hb hts hown hK hM (sh6 kc_11) (kd_lt kc_11 (by decide)) rfl inX5 0 (by decide) wf_X5_22 rfl dX5_push_22 ?_
  refine sn_top (y := nI n) (by rw [moC_o (by omega)]; exact hp.1.1) ?_
  refine lv_bipush (v := nI 8) hx hb dX5_push_25 (by decide) ?_
  refine sn_icmp_ge (tgt := 43) hx hb dX5_push_27 (by decide) (by omega) (by omega) (fun c_27 => ?_) (fun c_27 => ?_)
  · refine lv_aload_n hx hb dX5_push_43 rfl (lv_at hl 0 rfl) ?_
    refine lv_aload_n hx hb dX5_push_44 rfl (lv_at hl 0 rfl) ?_
    refine sg_get (v := .int ((moC σ (13 + 10 * ((o + n) % 8)) 1 A) 11 1)) hx hb hts hown hK hM (sh6 kc_11) (kd_lt kc_11 (by decide)) rfl inX5 1 (by decide) wf_X5_18 rfl dX5_push_45 ?_
    refine sn_top (y := nI o) (by rw [moC_o (by omega)]; exact hp.2.1.1) ?_
    refine lv_iconst (v := nI 1) hx hb dX5_push_48 (by decide) ?_
    refine sn_iadd hx hb dX5_push_49 ?_
    refine lv_bipush (v := nI 8) hx hb dX5_push_50 (by decide) ?_
    refine sn_irem hx hb dX5_push_52 (by omega) (by omega) (by omega) ?_
    refine sg_put (v := nI ((o + 1) % 8)) (ty := .int) hx hb hts hown hK hM sgA (sh6 kc_11) (kd_lt kc_11 (by decide)) rfl inX5 tyX5 tyX5_ok nmX5 1 (by decide) wf_X5_18 rfl (by decide +kernel) rfl rfl (Nat.le_of_ble_eq_true rfl) (by rw [sh6 kc_11]; rfl) dX5_push_53 (fun H locs hM => ?_)
    exact hret _ _ _ _ _ dX5_push_56 hM (by first | exact ⟨⟨o, push1 hp hA hR (by omega)⟩, fun k hk => by rw [m2_o (by omega), moCp_o (by omega)]⟩ | exact ⟨⟨_, push2 hp hA hR (by omega)⟩, fun k hk => by rw [m2_o (by omega), moCp_o (by omega)]⟩)
  · refine lv_aload_n hx hb dX5_push_30 rfl (lv_at hl 0 rfl) ?_
    refine lv_dup hx hb dX5_push_31 rfl ?_
    refine sg_get (v := .int ((moC σ (13 + 10 * ((o + n) % 8)) 1 A) 11 0)) hx hb hts hown hK hM (sh6 kc_11) (kd_lt kc_11 (by decide)) rfl inX5 0 (by decide) wf_X5_22 rfl dX5_push_32 ?_
    refine sn_top (y := nI n) (by rw [moC_o (by omega)]; exact hp.1.1) ?_
    refine lv_iconst (v := nI 1) hx hb dX5_push_35 (by decide) ?_
    refine sn_iadd hx hb dX5_push_36 ?_
    refine sg_put (v := nI (n + 1)) (ty := .int) hx hb hts hown hK hM sgA (sh6 kc_11) (kd_lt kc_11 (by decide)) rfl inX5 tyX5 tyX5_ok nmX5 0 (by decide) wf_X5_22 rfl (by decide +kernel) rfl rfl (Nat.le_of_ble_eq_true rfl) (by rw [sh6 kc_11]; rfl) dX5_push_37 (fun H locs hM => ?_)
    refine lv_goto (tgt := 56) hx hb dX5_push_40 (by decide) ?_
    exact hret _ _ _ _ _ dX5_push_56 hM (by first | exact ⟨⟨o, push1 hp hA hR (by omega)⟩, fun k hk => by rw [m2_o (by omega), moCp_o (by omega)]⟩ | exact ⟨⟨_, push2 hp hA hR (by omega)⟩, fun k hk => by rw [m2_o (by omega), moCp_o (by omega)]⟩)
theorem pop_ok {σ : Mem} {n o : Nat} {P : Nat → Rec} (h : PI σ n o P) (hn : 0 < n) : PI (moC (m2 σ 11 0 (nI (n - 1))) 1 (13 + 10 * ((o + (n - 1)) % 8)) (P (n - 1))) (n - 1) o P ∧ CM (moC (m2 σ 11 0 (nI (n - 1))) 1 (13 + 10 * ((o + (n - 1)) % 8)) (P (n - 1))) 1 (P (n - 1)) := by
  obtain ⟨h1, h2, h3⟩ := h
  refine ⟨⟨⟨by rw [moC_o (by omega), m2_ss], by omega⟩, ⟨by rw [moC_o (by omega), m2_sn (by omega)]; exact h2.1, h2.2⟩, fun j hj => ⟨(h3 j (by omega)).1, (h3 j (by omega)).2.keep (fun k _ _ => by rw [moC_o (by omega), m2_o (by omega)])⟩⟩, ?_⟩
  exact moC_CM ((h3 (n - 1) (by omega)).2.keep (fun k _ _ => m2_o (by omega))) (by omega)
set_option maxHeartbeats 4000000 in
set_option maxRecDepth 100000 in
theorem c_Past_pop (l : Launch) (G : GT) (b : Nat) (σ : Mem) (n o : Nat) (P : Nat → Rec) (hp : PI σ n o P) (hn0 : n ≠ 0) : KV l G b yX5_popInto cX5_popInto 2 3 σ [.ref (b + 11), .ref (b + 1)] (fun σ' => (PI σ' (n - 1) o P ∧ CM σ' 1 (P (n - 1))) ∧ ∀ k, k = 0 ∨ 12 ≤ k → σ' k = σ k) := by
  refine sg_metV [.ref (b + 11), .ref (b + 1)] (by decide) (Nat.le_of_ble_eq_true rfl) ?_
  intro vp ve vs vm args below meth vc ls Q hx hb hml hown hts hK hM hl hret
  have hl : lv_has ls 2 [(0, .ref (b + 11)), (1, .ref (b + 1))] := hl
  have hn8 := hp.1.2
  have ho8 := hp.2.1.2
  have hR := (hp.2.2 (n - 1) (by omega)).1
  have hC : CM (m2 σ 11 0 (nI (n - 1))) (13 + 10 * ((o + (n - 1)) % 8)) (P (n - 1)) := (hp.2.2 (n - 1) (by omega)).2.keep (fun k _ _ => m2_o (by omega))
  refine lv_aload_n hx hb dX5_popInto_0 rfl (lv_at hl 0 rfl) ?_
  refine sg_get (v := .int (σ 11 0)) hx hb hts hown hK hM (sh6 kc_11) (kd_lt kc_11 (by decide)) rfl inX5 0 (by decide) wf_X5_22 rfl dX5_popInto_1 ?_
  refine sn_top (y := nI n) (hp.1.1) ?_
  refine sn_if_ne (tgt := 8) hx hb dX5_popInto_4 (by decide) (by omega) (fun c_4 => ?_) (fun c_4 => ?_)
  · refine lv_aload_n hx hb dX5_popInto_8 rfl (lv_at hl 0 rfl) ?_
    refine lv_dup hx hb dX5_popInto_9 rfl ?_
    refine sg_get (v := .int (σ 11 0)) hx hb hts hown hK hM (sh6 kc_11) (kd_lt kc_11 (by decide)) rfl inX5 0 (by decide) wf_X5_22 rfl dX5_popInto_10 ?_
    refine sn_top (y := nI n) (hp.1.1) ?_
    refine lv_iconst (v := nI 1) hx hb dX5_popInto_13 (by decide) ?_
    refine sn_isub hx hb dX5_popInto_14 (by omega) ?_
    refine sg_put (v := nI (n - 1)) (ty := .int) hx hb hts hown hK hM sgA (sh6 kc_11) (kd_lt kc_11 (by decide)) rfl inX5 tyX5 tyX5_ok nmX5 0 (by decide) wf_X5_22 rfl (by decide +kernel) rfl rfl (Nat.le_of_ble_eq_true rfl) (by rw [sh6 kc_11]; rfl) dX5_popInto_15 (fun H locs hM => ?_)
    refine lv_aload_n hx hb dX5_popInto_18 rfl (lv_at hl 1 rfl) ?_
    refine lv_aload_n hx hb dX5_popInto_19 rfl (lv_at hl 0 rfl) ?_
    refine sg_get (v := .ref (b + 12)) hx hb hts hown hK hM (sh6 kc_11) (kd_lt kc_11 (by decide)) rfl inX5 2 (by decide) wf_X5_11 rfl dX5_popInto_20 ?_
    refine lv_aload_n hx hb dX5_popInto_23 rfl (lv_at hl 0 rfl) ?_
    refine sg_get (v := .int ((m2 σ 11 0 (nI (n - 1))) 11 1)) hx hb hts hown hK hM (sh6 kc_11) (kd_lt kc_11 (by decide)) rfl inX5 1 (by decide) wf_X5_18 rfl dX5_popInto_24 ?_
    refine sn_top (y := nI o) (by rw [m2_sn (by omega)]; exact hp.2.1.1) ?_
    refine lv_aload_n hx hb dX5_popInto_27 rfl (lv_at hl 0 rfl) ?_
    refine sg_get (v := .int ((m2 σ 11 0 (nI (n - 1))) 11 0)) hx hb hts hown hK hM (sh6 kc_11) (kd_lt kc_11 (by decide)) rfl inX5 0 (by decide) wf_X5_22 rfl dX5_popInto_28 ?_
    refine sn_top (y := nI (n - 1)) (m2_ss) ?_
    refine sn_iadd hx hb dX5_popInto_31 ?_
    refine lv_bipush (v := nI 8) hx hb dX5_popInto_32 (by decide) ?_
    refine sn_irem hx hb dX5_popInto_34 (by omega) (by omega) (by omega) ?_
    refine sg_aald (g := fun j => 13 + 10 * j) hx hb hK hM (sh7 kc_12) (kd_lt kc_12 (by decide)) (i := (o + (n - 1)) % 8) (by omega) (by decide) dX5_popInto_35 ?_
    refine sg_cv (sg_runV (d := 2) (As := [.ref (b + (13 + 10 * ((o + (n - 1)) % 8)))]) (rest := []) hx hb hml hts hown hK hM (c_Mo_become l G b (m2 σ 11 0 (nI (n - 1))) 1 (13 + 10 * ((o + (n - 1)) % 8)) (rS (P (n - 1))) (rN (P (n - 1))) kc_1 (kdRing _ (by omega)) (by omega) hC.2.2.1 hR.2.1.1 hC.2.2.2.2.1 hR.2.1.2) mi_X3_become wl_X5_25 (sh1 kc_1) (kd_lt kc_1 (by decide)) rfl rfl rfl hl.1 rfl (Nat.le_of_ble_eq_true rfl) dX5_popInto_36 ⟨by decide, by decide⟩ ⟨Nat.le_refl 0, Nat.le_refl 0⟩) hM sgA (fun σ_36 H locs hp_36 hM => ?_)
    subst σ_36
    exact hret _ _ _ _ _ dX5_popInto_39 hM (by exact ⟨pop_ok hp (by omega), fun k hk => by rw [moCp_o (by omega), m2_o (by omega)]⟩)
  · exact absurd c_4 (by omega)
set_option maxHeartbeats 4000000 in
set_option maxRecDepth 100000 in
theorem c_Past_forget (l : Launch) (G : GT) (b : Nat) (σ : Mem)  : KV l G b yX5_forget cX5_forget 1 0 σ [.ref (b + 11)] (fun σ' => σ' = m2 σ 11 0 (nI 0)) := by
  refine sg_metV [.ref (b + 11)] (by decide) (Nat.le_of_ble_eq_true rfl) ?_
  intro vp ve vs vm args below meth vc ls Q hx hb hml hown hts hK hM hl hret
  have hl : lv_has ls 1 [(0, .ref (b + 11))] := hl
  refine lv_aload_n hx hb dX5_forget_0 rfl (lv_at hl 0 rfl) ?_
  refine lv_iconst (v := nI 0) hx hb dX5_forget_1 (by decide) ?_
  refine sg_put (v := nI 0) (ty := .int) hx hb hts hown hK hM sgA (sh6 kc_11) (kd_lt kc_11 (by decide)) rfl inX5 tyX5 tyX5_ok nmX5 0 (by decide) wf_X5_22 rfl (by decide +kernel) rfl rfl (Nat.le_of_ble_eq_true rfl) (by rw [sh6 kc_11]; rfl) dX5_forget_2 (fun H locs hM => ?_)
  exact hret _ _ _ _ _ dX5_forget_5 hM (rfl)

set_option maxHeartbeats 4000000 in
set_option maxRecDepth 100000 in
theorem c_fill64 (l : Launch) (G : GT) (b : Nat) (σ : Mem) (k : Nat) (x : Int32) (hk : kd k = 15) : KV l G b yJ7_fill_53178 cJ7_fill_53178 4 0 σ [.ref (b + k), .int x] (fun σ' => (∀ j, j < 64 → σ' k j = x) ∧ ∀ c, c ≠ k → σ' c = σ c) := by
  refine sg_metV [.ref (b + k), .int x] (by decide) (Nat.le_of_ble_eq_true rfl) ?_
  intro vp ve vs vm args below meth vc ls Q hx hb hml hown hts hK hM hl hret
  have hl : lv_has ls 4 [(0, .ref (b + k)), (1, .int x)] := hl
  refine lv_iconst (v := nI 0) hx hb dJ7_fill_53178_0 (by decide) ?_
  refine lv_istore_n (lv' := [(2, .int (nI 0)), (0, .ref (b + k)), (1, .int x)]) hx hb dJ7_fill_53178_1 rfl hl (by decide) rfl (fun ls hl => ?_)
  refine lv_aload_n hx hb dJ7_fill_53178_2 rfl (lv_at hl 1 rfl) ?_
  refine sg_alen hx hb hK hM (sh15 hk) (kd_lt hk (by decide)) dJ7_fill_53178_3 ?_
  refine lv_istore_n (lv' := [(3, .int (nI 64)), (2, .int (nI 0)), (0, .ref (b + k)), (1, .int x)]) hx hb dJ7_fill_53178_4 rfl hl (by decide) rfl (fun ls hl => ?_)
  have L5 : ∀ (fuel : Nat) (i : Nat) (σ1 : Mem), (i ≤ 64) → (∀ j, j < i → σ1 k j = x) → (∀ c, c ≠ k → σ1 c = σ c) → (64 - i) < fuel → ∀ (H : Heap) (locs : List Loc) (ls : Array Slot), St G (Fr b) b σ1 vs H locs → lv_has ls 4 [(0, .ref (b + k)), (1, .int x), (2, .int (nI i)), (3, .int (nI 64))] → W vp l ve (RM 0) vs vm args below meth vc H locs 0 0 Q (F0 vm 5 ls []) := by
    intro fuel
    induction fuel with
    | zero => intro i σ1 hi h1 h2 hF; exact absurd hF (Nat.not_lt_zero _)
    | succ fuel ih5 =>
      intro i σ1 hi h1 h2 hF H locs ls hM hl
      refine lv_iload_n hx hb dJ7_fill_53178_5 rfl (lv_at hl 2 rfl) ?_
      refine lv_iload_n hx hb dJ7_fill_53178_6 rfl (lv_at hl 3 rfl) ?_
      refine sn_icmp_ge (tgt := 20) hx hb dJ7_fill_53178_7 (by decide) (by omega) (by omega) (fun c_7 => ?_) (fun c_7 => ?_)
      · obtain rfl : i = 64 := by omega
        exact hret _ _ _ _ _ dJ7_fill_53178_20 hM (⟨h1, h2⟩)
      · refine lv_aload_n hx hb dJ7_fill_53178_10 rfl (lv_at hl 0 rfl) ?_
        refine lv_iload_n hx hb dJ7_fill_53178_11 rfl (lv_at hl 2 rfl) ?_
        refine lv_iload_n hx hb dJ7_fill_53178_12 rfl (lv_at hl 1 rfl) ?_
        refine sg_iast hx hb hK hM sgA (fun f => sh15 hk) (kd_lt hk (by decide)) (i := i) (by omega) (by decide) dJ7_fill_53178_13 (fun H locs hM => ?_)
        refine lv_iinc (v := nI (i + 1)) (lv' := [(2, .int (nI (i + 1))), (0, .ref (b + k)), (1, .int x), (3, .int (nI 64))]) hx hb dJ7_fill_53178_14 hl (k := 2) rfl (q_inc _) (by decide) rfl (fun ls hl => ?_)
        refine lv_goto (tgt := 5) hx hb dJ7_fill_53178_17 (by decide) ?_
        exact ih5 (i + 1) (m2 σ1 k i x) (by omega) (fun j q => if e1 : j = i then (by subst e1; rw [m2_ss]) else (by rw [m2_sn e1]; exact h1 j (by omega))) (fun c a => by rw [m2_o a]; exact h2 c a) (by omega) _ _ _ hM (lv_sub hl [1, 2, 0, 3] rfl)
  exact L5 (_ + 1) 0 σ (by omega) (fun j q => absurd q (by omega)) (fun _ _ => rfl) (Nat.lt_succ_self _) _ _ _ hM (lv_sub hl [2, 3, 1, 0] rfl)
set_option maxHeartbeats 4000000 in
set_option maxRecDepth 100000 in
theorem c_fill256 (l : Launch) (G : GT) (b : Nat) (σ : Mem) (k : Nat) (x : Int32) (hk : kd k = 17) : KV l G b yJ7_fill_53178 cJ7_fill_53178 4 0 σ [.ref (b + k), .int x] (fun σ' => (∀ j, j < 256 → σ' k j = x) ∧ ∀ c, c ≠ k → σ' c = σ c) := by
  refine sg_metV [.ref (b + k), .int x] (by decide) (Nat.le_of_ble_eq_true rfl) ?_
  intro vp ve vs vm args below meth vc ls Q hx hb hml hown hts hK hM hl hret
  have hl : lv_has ls 4 [(0, .ref (b + k)), (1, .int x)] := hl
  refine lv_iconst (v := nI 0) hx hb dJ7_fill_53178_0 (by decide) ?_
  refine lv_istore_n (lv' := [(2, .int (nI 0)), (0, .ref (b + k)), (1, .int x)]) hx hb dJ7_fill_53178_1 rfl hl (by decide) rfl (fun ls hl => ?_)
  refine lv_aload_n hx hb dJ7_fill_53178_2 rfl (lv_at hl 1 rfl) ?_
  refine sg_alen hx hb hK hM (sh17 hk) (kd_lt hk (by decide)) dJ7_fill_53178_3 ?_
  refine lv_istore_n (lv' := [(3, .int (nI 256)), (2, .int (nI 0)), (0, .ref (b + k)), (1, .int x)]) hx hb dJ7_fill_53178_4 rfl hl (by decide) rfl (fun ls hl => ?_)
  have L5 : ∀ (fuel : Nat) (i : Nat) (σ1 : Mem), (i ≤ 256) → (∀ j, j < i → σ1 k j = x) → (∀ c, c ≠ k → σ1 c = σ c) → (256 - i) < fuel → ∀ (H : Heap) (locs : List Loc) (ls : Array Slot), St G (Fr b) b σ1 vs H locs → lv_has ls 4 [(0, .ref (b + k)), (1, .int x), (2, .int (nI i)), (3, .int (nI 256))] → W vp l ve (RM 0) vs vm args below meth vc H locs 0 0 Q (F0 vm 5 ls []) := by
    intro fuel
    induction fuel with
    | zero => intro i σ1 hi h1 h2 hF; exact absurd hF (Nat.not_lt_zero _)
    | succ fuel ih5 =>
      intro i σ1 hi h1 h2 hF H locs ls hM hl
      refine lv_iload_n hx hb dJ7_fill_53178_5 rfl (lv_at hl 2 rfl) ?_
      refine lv_iload_n hx hb dJ7_fill_53178_6 rfl (lv_at hl 3 rfl) ?_
      refine sn_icmp_ge (tgt := 20) hx hb dJ7_fill_53178_7 (by decide) (by omega) (by omega) (fun c_7 => ?_) (fun c_7 => ?_)
      · obtain rfl : i = 256 := by omega
        exact hret _ _ _ _ _ dJ7_fill_53178_20 hM (⟨h1, h2⟩)
      · refine lv_aload_n hx hb dJ7_fill_53178_10 rfl (lv_at hl 0 rfl) ?_
        refine lv_iload_n hx hb dJ7_fill_53178_11 rfl (lv_at hl 2 rfl) ?_
        refine lv_iload_n hx hb dJ7_fill_53178_12 rfl (lv_at hl 1 rfl) ?_
        refine sg_iast hx hb hK hM sgA (fun f => sh17 hk) (kd_lt hk (by decide)) (i := i) (by omega) (by decide) dJ7_fill_53178_13 (fun H locs hM => ?_)
        refine lv_iinc (v := nI (i + 1)) (lv' := [(2, .int (nI (i + 1))), (0, .ref (b + k)), (1, .int x), (3, .int (nI 256))]) hx hb dJ7_fill_53178_14 hl (k := 2) rfl (q_inc _) (by decide) rfl (fun ls hl => ?_)
        refine lv_goto (tgt := 5) hx hb dJ7_fill_53178_17 (by decide) ?_
        exact ih5 (i + 1) (m2 σ1 k i x) (by omega) (fun j q => if e1 : j = i then (by subst e1; rw [m2_ss]) else (by rw [m2_sn e1]; exact h1 j (by omega))) (fun c a => by rw [m2_o a]; exact h2 c a) (by omega) _ _ _ hM (lv_sub hl [1, 2, 0, 3] rfl)
  exact L5 (_ + 1) 0 σ (by omega) (fun j q => absurd q (by omega)) (fun _ _ => rfl) (Nat.lt_succ_self _) _ _ _ hM (lv_sub hl [2, 3, 1, 0] rfl)
set_option maxHeartbeats 4000000 in
set_option maxRecDepth 100000 in
theorem c_Pa_fillGaps (l : Launch) (G : GT) (b : Nat) (σ : Mem)  : KV l G b yX4_fillGaps cX4_fillGaps 3 3 σ [.ref (b + 125)] (fun σ' => (∀ f, f < 4 → ∀ o, o < 4 → σ' 126 (f * 4 + o) = nI (g0 f o)) ∧ ∀ c, c ≠ 126 → σ' c = σ c) := by
  refine sg_metV [.ref (b + 125)] (by decide) (Nat.le_of_ble_eq_true rfl) ?_
  intro vp ve vs vm args below meth vc ls Q hx hb hml hown hts hK hM hl hret
  have hl : lv_has ls 3 [(0, .ref (b + 125))] := hl
  refine lv_iconst (v := nI 0) hx hb dX4_fillGaps_0 (by decide) ?_
  refine lv_istore_n (lv' := [(1, .int (nI 0)), (0, .ref (b + 125))]) hx hb dX4_fillGaps_1 rfl hl (by decide) rfl (fun ls hl => ?_)
  have L2 : ∀ (fuel : Nat) (f : Nat) (σ1 : Mem), (f ≤ 4) → (∀ f1, f1 < f → ∀ o, o < 4 → σ1 126 (f1 * 4 + o) = nI (g0 f1 o)) → (∀ c, c ≠ 126 → σ1 c = σ c) → (4 - f) < fuel → ∀ (H : Heap) (locs : List Loc) (ls : Array Slot), St G (Fr b) b σ1 vs H locs → lv_has ls 3 [(0, .ref (b + 125)), (1, .int (nI f))] → W vp l ve (RM 3) vs vm args below meth vc H locs 0 0 Q (F0 vm 2 ls []) := by
    intro fuel
    induction fuel with
    | zero => intro f σ1 hf h1 h2 hF; exact absurd hF (Nat.not_lt_zero _)
    | succ fuel ih2 =>
      intro f σ1 hf h1 h2 hF H locs ls hM hl
      refine lv_iload_n hx hb dX4_fillGaps_2 rfl (lv_at hl 1 rfl) ?_
      refine lv_iconst (v := nI 4) hx hb dX4_fillGaps_3 (by decide) ?_
      refine sn_icmp_ge (tgt := 50) hx hb dX4_fillGaps_4 (by decide) (by omega) (by omega) (fun c_4 => ?_) (fun c_4 => ?_)
      · obtain rfl : f = 4 := by omega
        exact hret _ _ _ _ _ dX4_fillGaps_50 hM (⟨h1, h2⟩)
      · refine lv_iconst (v := nI 0) hx hb dX4_fillGaps_7 (by decide) ?_
        refine lv_istore_n (lv' := [(2, .int (nI 0)), (0, .ref (b + 125)), (1, .int (nI f))]) hx hb dX4_fillGaps_8 rfl hl (by decide) rfl (fun ls hl => ?_)
        have L9 : ∀ (fuel : Nat) (o : Nat) (σ2 : Mem), (o ≤ 4) → (∀ f1, f1 < f → ∀ o, o < 4 → σ2 126 (f1 * 4 + o) = nI (g0 f1 o)) → (∀ o1, o1 < o → σ2 126 (f * 4 + o1) = nI (g0 f o1)) → (∀ c, c ≠ 126 → σ2 c = σ c) → (4 - o) < fuel → ∀ (H : Heap) (locs : List Loc) (ls : Array Slot), St G (Fr b) b σ2 vs H locs → lv_has ls 3 [(0, .ref (b + 125)), (1, .int (nI f)), (2, .int (nI o))] → W vp l ve (RM 3) vs vm args below meth vc H locs 0 0 Q (F0 vm 9 ls []) := by
          intro fuel
          induction fuel with
          | zero => intro o σ2 ho h3 h4 h5 hF; exact absurd hF (Nat.not_lt_zero _)
          | succ fuel ih9 =>
            intro o σ2 ho h3 h4 h5 hF H locs ls hM hl
            refine lv_iload_n hx hb dX4_fillGaps_9 rfl (lv_at hl 2 rfl) ?_
            refine lv_iconst (v := nI 4) hx hb dX4_fillGaps_10 (by decide) ?_
            refine sn_icmp_ge (tgt := 44) hx hb dX4_fillGaps_11 (by decide) (by omega) (by omega) (fun c_11 => ?_) (fun c_11 => ?_)
            · refine lv_iinc (v := nI (f + 1)) (lv' := [(1, .int (nI (f + 1))), (0, .ref (b + 125)), (2, .int (nI o))]) hx hb dX4_fillGaps_44 hl (k := 1) rfl (q_inc _) (by decide) rfl (fun ls hl => ?_)
              refine lv_goto (tgt := 2) hx hb dX4_fillGaps_47 (by decide) ?_
              exact ih2 (f + 1) σ2 (by omega) (fun f1 q o ho => if e1 : f1 = f then (by subst e1; exact h4 o (by omega)) else h3 f1 (by omega) o ho) h5 (by omega) _ _ _ hM (lv_sub hl [1, 0] rfl)
            · refine lv_aload_n hx hb dX4_fillGaps_14 rfl (lv_at hl 0 rfl) ?_
              refine sg_get (v := .ref (b + 126)) hx hb hts hown hK hM (sh13 kc_125) (kd_lt kc_125 (by decide)) rfl inX4 0 (by decide) wf_X4_9 rfl dX4_fillGaps_15 ?_
              refine lv_iload_n hx hb dX4_fillGaps_18 rfl (lv_at hl 1 rfl) ?_
              refine lv_iconst (v := nI 4) hx hb dX4_fillGaps_19 (by decide) ?_
              refine sn_imul hx hb dX4_fillGaps_20 ?_
              refine lv_iload_n hx hb dX4_fillGaps_21 rfl (lv_at hl 2 rfl) ?_
              refine sn_iadd hx hb dX4_fillGaps_22 ?_
              refine lv_iload_n hx hb dX4_fillGaps_23 rfl (lv_at hl 1 rfl) ?_
              refine lv_iload_n hx hb dX4_fillGaps_24 rfl (lv_at hl 2 rfl) ?_
              refine sn_icmp_ne (tgt := 32) hx hb dX4_fillGaps_25 (by decide) (by omega) (by omega) (fun c_25 => ?_) (fun c_25 => ?_)
              · refine lv_iload_n hx hb dX4_fillGaps_32 rfl (lv_at hl 1 rfl) ?_
                refine lv_iload_n hx hb dX4_fillGaps_33 rfl (lv_at hl 2 rfl) ?_
                refine sg_ci (sg_runS (d := 2) (As := [.int (nI f), .int (nI o)]) (rest := [.int (nI ((f * 4) + o)), .ref (b + 126)]) hx hb hml hts hown hK hM (c_g_gapOf l G b σ2 f o (by first | omega | exact fam_lt _ _ _ _ _ | exact gf_lt _ | exact tf_lt _ | exact pt_lt (by first | omega | exact fam_lt _ _ _ _ _) (by omega) | exact tn_lt (by first | omega | exact pt_lt (by omega) (by omega))) (by first | omega | exact fam_lt _ _ _ _ _ | exact gf_lt _ | exact tf_lt _ | exact pt_lt (by first | omega | exact fam_lt _ _ _ _ _) (by omega) | exact tn_lt (by first | omega | exact pt_lt (by omega) (by omega)))) mi_X1_gapOf wl_X4_22 rfl hl.1 rfl (Nat.le_of_ble_eq_true rfl) dX4_fillGaps_34 ⟨by decide, by decide⟩ ⟨Nat.le_refl 0, Nat.le_refl 0⟩) hM sgA (fun r_34 σ_34 H locs hp_34 hM => ?_)
                obtain ⟨hr_34, hs_34⟩ := hp_34; subst r_34; subst σ_34
                refine sg_iast hx hb hK hM sgA (fun f => sh14 kc_126) (kd_lt kc_126 (by decide)) (i := (f * 4) + o) (by omega) (by decide) dX4_fillGaps_37 (fun H locs hM => ?_)
                refine lv_iinc (v := nI (o + 1)) (lv' := [(2, .int (nI (o + 1))), (0, .ref (b + 125)), (1, .int (nI f))]) hx hb dX4_fillGaps_38 hl (k := 2) rfl (q_inc _) (by decide) rfl (fun ls hl => ?_)
                refine lv_goto (tgt := 9) hx hb dX4_fillGaps_41 (by decide) ?_
                exact ih9 (o + 1) (m2 σ2 126 ((f * 4) + o) (nI (gap f o))) (by omega) (fun f1 q o1 ho => by rw [m2_sn (by omega)]; exact h3 f1 q o1 ho) (fun o1 q => if e1 : o1 = o then (by subst e1; rw [m2_ss]; unfold g0; first | rw [if_pos c_25] | rw [if_neg c_25]) else (by rw [m2_sn (by omega)]; exact h4 o1 (by omega))) (fun c a => by rw [m2_o a]; exact h5 c a) (by omega) _ _ _ hM (lv_sub hl [1, 2, 0] rfl)
              · refine lv_iconst (v := nI 0) hx hb dX4_fillGaps_28 (by decide) ?_
                refine lv_goto (tgt := 37) hx hb dX4_fillGaps_29 (by decide) ?_
                refine sg_iast hx hb hK hM sgA (fun f => sh14 kc_126) (kd_lt kc_126 (by decide)) (i := (f * 4) + o) (by omega) (by decide) dX4_fillGaps_37 (fun H locs hM => ?_)
                refine lv_iinc (v := nI (o + 1)) (lv' := [(2, .int (nI (o + 1))), (0, .ref (b + 125)), (1, .int (nI f))]) hx hb dX4_fillGaps_38 hl (k := 2) rfl (q_inc _) (by decide) rfl (fun ls hl => ?_)
                refine lv_goto (tgt := 9) hx hb dX4_fillGaps_41 (by decide) ?_
                exact ih9 (o + 1) (m2 σ2 126 ((f * 4) + o) (nI 0)) (by omega) (fun f1 q o1 ho => by rw [m2_sn (by omega)]; exact h3 f1 q o1 ho) (fun o1 q => if e1 : o1 = o then (by subst e1; rw [m2_ss]; unfold g0; first | rw [if_pos c_25] | rw [if_neg c_25]) else (by rw [m2_sn (by omega)]; exact h4 o1 (by omega))) (fun c a => by rw [m2_o a]; exact h5 c a) (by omega) _ _ _ hM (lv_sub hl [1, 2, 0] rfl)
        exact L9 (_ + 1) 0 σ1 (by omega) h1 (fun j q => absurd q (by omega)) h2 (Nat.lt_succ_self _) _ _ _ hM (lv_sub hl [1, 2, 0] rfl)
  exact L2 (_ + 1) 0 σ (by omega) (fun j q => absurd q (by omega)) (fun _ _ => rfl) (Nat.lt_succ_self _) _ _ _ hM (lv_sub hl [1, 0] rfl)
set_option maxHeartbeats 4000000 in
set_option maxRecDepth 100000 in
theorem c_Pa_gap (l : Launch) (G : GT) (b : Nat) (σ : Mem) (m g h a u b1 v : Nat) (hc : CodeAt σ 2 m g h) (ha : a < 2 ^ m) (hu : u < 2) (hb1 : b1 < 2 ^ m) (hv : v < 2) (hG : ∀ f, f < 4 → ∀ o, o < 4 → σ 126 (f * 4 + o) = nI (g0 f o)) : KI l G b yX4_gapOfSteps cX4_gapOfSteps 6 2 σ [.ref (b + 125), .ref (b + 2), .int (nI a), .int (nI u), .int (nI b1), .int (nI v)] (fun r σ' => r = nI (apv m g h a u b1 v) ∧ σ' = σ) := by
  refine sg_metI [.ref (b + 125), .ref (b + 2), .int (nI a), .int (nI u), .int (nI b1), .int (nI v)] (by decide) (Nat.le_of_ble_eq_true rfl) ?_
  intro vp ve vs vm args below meth vc ls Q hx hb hml hown hts hK hM hl hret
  have hl : lv_has ls 6 [(0, .ref (b + 125)), (1, .ref (b + 2)), (2, .int (nI a)), (3, .int (nI u)), (4, .int (nI b1)), (5, .int (nI v))] := hl
  refine lv_aload_n hx hb dX4_gapOfSteps_0 rfl (lv_at hl 0 rfl) ?_
  refine sg_get (v := .ref (b + 126)) hx hb hts hown hK hM (sh13 kc_125) (kd_lt kc_125 (by decide)) rfl inX4 0 (by decide) wf_X4_9 rfl dX4_gapOfSteps_1 ?_
  refine lv_aload_n hx hb dX4_gapOfSteps_4 rfl (lv_at hl 1 rfl) ?_
  refine lv_iload_n hx hb dX4_gapOfSteps_5 rfl (lv_at hl 2 rfl) ?_
  refine lv_iload_n hx hb dX4_gapOfSteps_6 rfl (lv_at hl 3 rfl) ?_
  refine sg_ci (sg_runV (d := 1) (As := [.int (nI a), .int (nI u)]) (rest := [.ref (b + 126)]) hx hb hml hts hown hK hM (c_Code_fam l G b σ 2 m g h a u kc_2 (hc) (by assumption) (by assumption)) mi_X0_familyFrom wl_X4_73 (sh2 kc_2) (kd_lt kc_2 (by decide)) rfl rfl rfl hl.1 rfl (Nat.le_of_ble_eq_true rfl) dX4_gapOfSteps_7 ⟨by decide, by decide⟩ ⟨Nat.le_refl 0, Nat.le_refl 0⟩) hM sgA (fun r_7 σ_7 H locs hp_7 hM => ?_)
  obtain ⟨hr_7, hs_7⟩ := hp_7; subst r_7; subst σ_7
  refine lv_iconst (v := nI 4) hx hb dX4_gapOfSteps_10 (by decide) ?_
  refine sn_imul hx hb dX4_gapOfSteps_11 ?_
  refine lv_aload_n hx hb dX4_gapOfSteps_12 rfl (lv_at hl 1 rfl) ?_
  refine lv_iload hx hb dX4_gapOfSteps_13 (lv_at hl 4 rfl) ?_
  refine lv_iload hx hb dX4_gapOfSteps_15 (lv_at hl 5 rfl) ?_
  refine sg_ci (sg_runV (d := 1) (As := [.int (nI b1), .int (nI v)]) (rest := [.int (nI ((fam m g h a u) * 4)), .ref (b + 126)]) hx hb hml hts hown hK hM (c_Code_fam l G b σ 2 m g h b1 v kc_2 (hc) (by assumption) (by assumption)) mi_X0_familyFrom wl_X4_73 (sh2 kc_2) (kd_lt kc_2 (by decide)) rfl rfl rfl hl.1 rfl (Nat.le_of_ble_eq_true rfl) dX4_gapOfSteps_17 ⟨by decide, by decide⟩ ⟨Nat.le_refl 0, Nat.le_refl 0⟩) hM sgA (fun r_17 σ_17 H locs hp_17 hM => ?_)
  obtain ⟨hr_17, hs_17⟩ := hp_17; subst r_17; subst σ_17
  refine sn_iadd hx hb dX4_gapOfSteps_20 ?_
  refine sg_iald hx hb hK hM (sh14 kc_126) (kd_lt kc_126 (by decide)) (i := ((fam m g h a u) * 4) + (fam m g h b1 v)) (by have := fam_lt m g h a u; have := fam_lt m g h b1 v; omega) (by decide) dX4_gapOfSteps_21 ?_
  refine sn_top (y := nI (apv m g h a u b1 v)) (hG _ (fam_lt _ _ _ _ _) _ (fam_lt _ _ _ _ _)) ?_
  exact hret _ _ _ _ _ _ dX4_gapOfSteps_22 hM (⟨rfl, rfl⟩)
set_option maxHeartbeats 4000000 in
set_option maxRecDepth 100000 in
theorem c_Pa_part (l : Launch) (G : GT) (b : Nat) (σ : Mem) (m g h l0 : Nat) (hc : CodeAt σ 2 m g h) (hG : ∀ f, f < 4 → ∀ o, o < 4 → σ 126 (f * 4 + o) = nI (g0 f o)) : KV l G b yX4_part cX4_part 4 3 σ [.ref (b + 125), .ref (b + 2)] (fun σ' => ∃ tv, Ar σ' 127 64 tv ∧ Tv m g h 0 l0 tv ∧ ∀ c, c ≠ 127 → σ' c = σ c) := by
  refine sg_metV [.ref (b + 125), .ref (b + 2)] (by decide) (Nat.le_of_ble_eq_true rfl) ?_
  intro vp ve vs vm args below meth vc ls Q hx hb hml hown hts hK hM hl hret
  have hl : lv_has ls 4 [(0, .ref (b + 125)), (1, .ref (b + 2))] := hl
  have hm8 := p2_le hc.m
  have hNV : NV = 99999999 := rfl
  refine lv_aload_n hx hb dX4_part_0 rfl (lv_at hl 0 rfl) ?_
  refine sg_get (v := .ref (b + 127)) hx hb hts hown hK hM (sh13 kc_125) (kd_lt kc_125 (by decide)) rfl inX4 1 (by decide) wf_X4_15 rfl dX4_part_1 ?_
  refine lv_ldc (v := nI 99999999) hx hb hown (hts (Cond.constant RX4 21 (nI 99999999)) wk_X4_21) dX4_part_4 ?_
  refine sg_cv (sg_runS (d := 0) (As := [.ref (b + 127), .int (nI 99999999)]) (rest := []) hx hb hml hts hown hK hM (c_fill64 l G b σ 127 (nI 99999999) kc_127) mi_J7_fill_53178 wl_X4_44 rfl hl.1 rfl (Nat.le_of_ble_eq_true rfl) dX4_part_6 ⟨by decide, by decide⟩ ⟨Nat.le_refl 0, Nat.le_refl 0⟩) hM sgA (fun σ_6 H locs hp_6 hM => ?_)
  refine lv_iconst (v := nI 0) hx hb dX4_part_9 (by decide) ?_
  refine lv_istore_n (lv' := [(2, .int (nI 0)), (0, .ref (b + 125)), (1, .ref (b + 2))]) hx hb dX4_part_10 rfl hl (by decide) rfl (fun ls hl => ?_)
  have L11 : ∀ (fuel : Nat) (s : Nat) (σ1 : Mem) (tv : Nat → Nat), (s ≤ 2 ^ m) → (Ar σ1 127 64 tv) → (P0s m g h s tv) → (∀ c, c ≠ 127 → σ1 c = σ c) → (2 ^ m - s) < fuel → ∀ (H : Heap) (locs : List Loc) (ls : Array Slot), St G (Fr b) b σ1 vs H locs → lv_has ls 4 [(0, .ref (b + 125)), (1, .ref (b + 2)), (2, .int (nI s))] → W vp l ve (RM 3) vs vm args below meth vc H locs 0 0 Q (F0 vm 11 ls []) := by
    intro fuel
    induction fuel with
    | zero => intro s σ1 tv hs h1 h2 h3 hF; exact absurd hF (Nat.not_lt_zero _)
    | succ fuel ih11 =>
      intro s σ1 tv hs h1 h2 h3 hF H locs ls hM hl
      refine lv_iload_n hx hb dX4_part_11 rfl (lv_at hl 2 rfl) ?_
      refine lv_aload_n hx hb dX4_part_12 rfl (lv_at hl 1 rfl) ?_
      refine sg_ci (sg_runV (d := 0) (As := []) (rest := [.int (nI s)]) hx hb hml hts hown hK hM (c_Code_states l G b σ1 2 m g h kc_2 (hc.keep (h3 2 (by decide)))) mi_X0_states wl_X4_50 (sh2 kc_2) (kd_lt kc_2 (by decide)) rfl rfl rfl hl.1 rfl (Nat.le_of_ble_eq_true rfl) dX4_part_13 ⟨by decide, by decide⟩ ⟨Nat.le_refl 0, Nat.le_refl 0⟩) hM sgA (fun r_13 σ_13 H locs hp_13 hM => ?_)
      obtain ⟨hr_13, hs_13⟩ := hp_13; subst r_13; subst σ_13
      refine sn_icmp_ge (tgt := 66) hx hb dX4_part_16 (by decide) (by omega) (by omega) (fun hlt => ?_) (fun hlt => ?_)
      · obtain rfl : s = 2 ^ m := by omega
        exact hret _ _ _ _ _ dX4_part_66 hM (⟨tv, h1, P0s_T hc.m h2, h3⟩)
      · have n0 := nx_lt (m := m) (u := 0) (by decide) hlt
        have n1 := nx_lt (m := m) (u := 1) (by decide) hlt
        refine lv_aload_n hx hb dX4_part_19 rfl (lv_at hl 1 rfl) ?_
        refine lv_iload_n hx hb dX4_part_20 rfl (lv_at hl 2 rfl) ?_
        refine lv_iconst (v := nI 0) hx hb dX4_part_21 (by decide) ?_
        refine sg_ci (sg_runV (d := 1) (As := [.int (nI s), .int (nI 0)]) (rest := []) hx hb hml hts hown hK hM (c_Code_next l G b σ1 2 m g h s 0 kc_2 (hc.keep (h3 2 (by decide))) (by decide) (hlt)) mi_X0_stateAfter wl_X4_56 (sh2 kc_2) (kd_lt kc_2 (by decide)) rfl rfl rfl hl.1 rfl (Nat.le_of_ble_eq_true rfl) dX4_part_22 ⟨by decide, by decide⟩ ⟨Nat.le_refl 0, Nat.le_refl 0⟩) hM sgA (fun r_22 σ_22 H locs hp_22 hM => ?_)
        obtain ⟨hr_22, hs_22⟩ := hp_22; subst r_22; subst σ_22
        refine lv_bipush (v := nI 8) hx hb dX4_part_25 (by decide) ?_
        refine sn_imul hx hb dX4_part_27 ?_
        refine lv_aload_n hx hb dX4_part_28 rfl (lv_at hl 1 rfl) ?_
        refine lv_iload_n hx hb dX4_part_29 rfl (lv_at hl 2 rfl) ?_
        refine lv_iconst (v := nI 1) hx hb dX4_part_30 (by decide) ?_
        refine sg_ci (sg_runV (d := 1) (As := [.int (nI s), .int (nI 1)]) (rest := [.int (nI ((nx m s 0) * 8))]) hx hb hml hts hown hK hM (c_Code_next l G b σ1 2 m g h s 1 kc_2 (hc.keep (h3 2 (by decide))) (by decide) (hlt)) mi_X0_stateAfter wl_X4_56 (sh2 kc_2) (kd_lt kc_2 (by decide)) rfl rfl rfl hl.1 rfl (Nat.le_of_ble_eq_true rfl) dX4_part_31 ⟨by decide, by decide⟩ ⟨Nat.le_refl 0, Nat.le_refl 0⟩) hM sgA (fun r_31 σ_31 H locs hp_31 hM => ?_)
        obtain ⟨hr_31, hs_31⟩ := hp_31; subst r_31; subst σ_31
        refine sn_iadd hx hb dX4_part_34 ?_
        refine lv_istore_n (lv' := [(3, .int (nI (((nx m s 0) * 8) + (nx m s 1)))), (0, .ref (b + 125)), (1, .ref (b + 2)), (2, .int (nI s))]) hx hb dX4_part_35 rfl hl (by decide) rfl (fun ls hl => ?_)
        refine lv_aload_n hx hb dX4_part_36 rfl (lv_at hl 1 rfl) ?_
        refine sg_get (v := .ref (b + 127)) hx hb hts hown hK hM (sh13 kc_125) (kd_lt kc_125 (by decide)) rfl inX4 1 (by decide) wf_X4_15 rfl dX4_part_37 ?_
        refine lv_iload_n hx hb dX4_part_40 rfl (lv_at hl 0 rfl) ?_
        refine lv_aload_n hx hb dX4_part_41 rfl (lv_at hl 1 rfl) ?_
        refine sg_get (v := .ref (b + 127)) hx hb hts hown hK hM (sh13 kc_125) (kd_lt kc_125 (by decide)) rfl inX4 1 (by decide) wf_X4_15 rfl dX4_part_42 ?_
        refine lv_iload_n hx hb dX4_part_45 rfl (lv_at hl 0 rfl) ?_
        refine sg_iald hx hb hK hM (sh15 kc_127) (kd_lt kc_127 (by decide)) (i := ((nx m s 0) * 8) + (nx m s 1)) (by omega) (by decide) dX4_part_46 ?_
        refine sn_top (y := nI (tv (nx m s 0 * 8 + nx m s 1))) ((h1 _ (by omega)).1) ?_
        refine lv_aload_n hx hb dX4_part_47 rfl (lv_at hl 1 rfl) ?_
        refine lv_aload_n hx hb dX4_part_48 rfl (lv_at hl 2 rfl) ?_
        refine lv_iload_n hx hb dX4_part_49 rfl (lv_at hl 3 rfl) ?_
        refine lv_iconst (v := nI 0) hx hb dX4_part_50 (by decide) ?_
        refine lv_iload_n hx hb dX4_part_51 rfl (lv_at hl 3 rfl) ?_
        refine lv_iconst (v := nI 1) hx hb dX4_part_52 (by decide) ?_
        refine sg_ci (sg_runV (d := 2) (As := [.ref (b + 2), .int (nI s), .int (nI 0), .int (nI s), .int (nI 1)]) (rest := [.int (nI (tv (nx m s 0 * 8 + nx m s 1))), .int (nI (((nx m s 0) * 8) + (nx m s 1))), .ref (b + 127)]) hx hb hml hts hown hK hM (c_Pa_gap l G b σ1 m g h s 0 s 1 (hc.keep (h3 2 (by decide))) hlt (by decide) hlt (by decide) (by rw [h3 126 (by decide)]; exact hG)) mi_X4_gapOfSteps wl_X4_59 (sh13 kc_125) (kd_lt kc_125 (by decide)) rfl rfl rfl hl.1 rfl (Nat.le_of_ble_eq_true rfl) dX4_part_53 ⟨by decide, by decide⟩ ⟨Nat.le_refl 0, Nat.le_refl 0⟩) hM sgA (fun r_53 σ_53 H locs hp_53 hM => ?_)
        obtain ⟨hr_53, hs_53⟩ := hp_53; subst r_53; subst σ_53
        refine va_mmin hx hb (by rw [hml]; exact hl.1.symm) hown (hts _ wl_X4_28) (hts _ ws_J9_min_7cf53) (hts _ wi_RJ9) (hts _ wc_J9_min_7cf53) (by decide) (Nat.le_of_ble_eq_true rfl) (Nat.le_refl 0) (Nat.le_refl 0) dX4_part_56 ?_
        refine sn_top (y := nI (min (tv (nx m s 0 * 8 + nx m s 1)) (apv m g h s 0 s 1))) (q_min (by have := (h1 _ (show nx m s 0 * 8 + nx m s 1 < 64 by omega)).2; omega) (by have := apv_le m g h s 0 s 1; omega)) ?_
        refine sg_iast hx hb hK hM sgA (fun f => sh15 kc_127) (kd_lt kc_127 (by decide)) (i := ((nx m s 0) * 8) + (nx m s 1)) (by omega) (by decide) dX4_part_59 (fun H locs hM => ?_)
        refine lv_iinc (v := nI (s + 1)) (lv' := [(2, .int (nI (s + 1))), (3, .int (nI (((nx m s 0) * 8) + (nx m s 1)))), (0, .ref (b + 125)), (1, .ref (b + 2))]) hx hb dX4_part_60 hl (k := 3) rfl (q_inc _) (by decide) rfl (fun ls hl => ?_)
        refine lv_goto (tgt := 11) hx hb dX4_part_63 (by decide) ?_
        exact ih11 (s + 1) (m2 σ1 127 (((nx m s 0) * 8) + (nx m s 1)) (nI (min (tv (nx m s 0 * 8 + nx m s 1)) (apv m g h s 0 s 1)))) (fu tv (nx m s 0 * 8 + nx m s 1) (min (tv (nx m s 0 * 8 + nx m s 1)) (apv m g h s 0 s 1))) (by omega) (Ar_up h1 (Nat.le_trans (Nat.min_le_left _ _) (h1 _ (by omega)).2)) (P0s_s h2) (fun c a => by rw [m2_o a]; exact h3 c a) (by omega) _ _ _ hM (lv_sub hl [2, 3, 0] rfl)
  exact L11 (_ + 1) 0 σ_6 (fun _ => NV) (Nat.zero_le _) (fun j q => ⟨hp_6.1 j q, Nat.le_refl _⟩) (P0s_0 m g h) hp_6.2 (Nat.lt_succ_self _) _ _ _ hM (lv_sub hl [1, 2, 0] rfl)
set_option maxHeartbeats 4000000 in
set_option maxRecDepth 100000 in
theorem c_Pa_pair (l : Launch) (G : GT) (b : Nat) (σ : Mem) (m g h a b1 : Nat) (tv lv : Nat → Nat) (hc : CodeAt σ 2 m g h) (ha : a < 2 ^ m) (hb1 : b1 < 2 ^ m) (hG : ∀ f, f < 4 → ∀ o, o < 4 → σ 126 (f * 4 + o) = nI (g0 f o)) (hS : Ar σ 127 64 tv) (hL : Ar σ 128 64 lv) : KI l G b yX4_advancePair cX4_advancePair 11 3 σ [.ref (b + 125), .ref (b + 2), .int (nI a), .int (nI b1)] (fun r σ' => ∃ rv lw, r = nI rv ∧ rv ≤ NV ∧ Ar σ' 128 64 lw ∧ (∀ c, c ≠ 128 → σ' c = σ c) ∧ APs m g h a b1 (tv (a * 8 + b1)) 4 lv rv lw) := by
  refine sg_metI [.ref (b + 125), .ref (b + 2), .int (nI a), .int (nI b1)] (by decide) (Nat.le_of_ble_eq_true rfl) ?_
  intro vp ve vs vm args below meth vc ls Q hx hb hml hown hts hK hM hl hret
  have hl : lv_has ls 11 [(0, .ref (b + 125)), (1, .ref (b + 2)), (2, .int (nI a)), (3, .int (nI b1))] := hl
  have hm8 := p2_le hc.m
  have hNV : NV = 99999999 := rfl
  refine lv_ldc (v := nI 99999999) hx hb hown (hts (Cond.constant RX4 21 (nI 99999999)) wk_X4_21) dX4_advancePair_0 ?_
  refine lv_istore (lv' := [(4, .int (nI 99999999)), (0, .ref (b + 125)), (1, .ref (b + 2)), (2, .int (nI a)), (3, .int (nI b1))]) hx hb dX4_advancePair_2 hl (by decide) rfl (fun ls hl => ?_)
  refine lv_iconst (v := nI 0) hx hb dX4_advancePair_4 (by decide) ?_
  refine lv_istore (lv' := [(5, .int (nI 0)), (4, .int (nI 99999999)), (0, .ref (b + 125)), (1, .ref (b + 2)), (2, .int (nI a)), (3, .int (nI b1))]) hx hb dX4_advancePair_5 hl (by decide) rfl (fun ls hl => ?_)
  have L7 : ∀ (fuel : Nat) (u : Nat) (rv : Nat) (σ1 : Mem) (lw : Nat → Nat), (u ≤ 2) → (Ar σ1 128 64 lw) → (∀ c, c ≠ 128 → σ1 c = σ c) → (rv ≤ NV) → (APs m g h a b1 (tv (a * 8 + b1)) (2 * u) lv rv lw) → (2 - u) < fuel → ∀ (H : Heap) (locs : List Loc) (ls : Array Slot), St G (Fr b) b σ1 vs H locs → lv_has ls 11 [(0, .ref (b + 125)), (1, .ref (b + 2)), (2, .int (nI a)), (3, .int (nI b1)), (4, .int (nI rv)), (5, .int (nI u))] → W vp l ve (RM 3) vs vm args below meth vc H locs 0 0 Q (F0 vm 7 ls []) := by
    intro fuel
    induction fuel with
    | zero => intro u rv σ1 lw hu h1 h2 h3 h4 hF; exact absurd hF (Nat.not_lt_zero _)
    | succ fuel ih7 =>
      intro u rv σ1 lw hu h1 h2 h3 h4 hF H locs ls hM hl
      refine lv_iload hx hb dX4_advancePair_7 (lv_at hl 5 rfl) ?_
      refine lv_iconst (v := nI 2) hx hb dX4_advancePair_9 (by decide) ?_
      refine sn_icmp_ge (tgt := 125) hx hb dX4_advancePair_10 (by decide) (by omega) (by omega) (fun hlu => ?_) (fun hlu => ?_)
      · refine lv_iload hx hb dX4_advancePair_125 (lv_at hl 4 rfl) ?_
        obtain rfl : u = 2 := by omega
        exact hret _ _ _ _ _ _ dX4_advancePair_127 hM (⟨rv, lw, rfl, h3, h1, h2, h4⟩)
      · refine lv_iconst (v := nI 0) hx hb dX4_advancePair_13 (by decide) ?_
        refine lv_istore (lv' := [(6, .int (nI 0)), (0, .ref (b + 125)), (1, .ref (b + 2)), (2, .int (nI a)), (3, .int (nI b1)), (4, .int (nI rv)), (5, .int (nI u))]) hx hb dX4_advancePair_14 hl (by decide) rfl (fun ls hl => ?_)
        have L16 : ∀ (fuel : Nat) (v : Nat) (rv2 : Nat) (σ2 : Mem) (lw2 : Nat → Nat), (v ≤ 2) → (Ar σ2 128 64 lw2) → (∀ c, c ≠ 128 → σ2 c = σ c) → (rv2 ≤ NV) → (APs m g h a b1 (tv (a * 8 + b1)) (2 * u + v) lv rv2 lw2) → (2 - v) < fuel → ∀ (H : Heap) (locs : List Loc) (ls : Array Slot), St G (Fr b) b σ2 vs H locs → lv_has ls 11 [(0, .ref (b + 125)), (1, .ref (b + 2)), (2, .int (nI a)), (3, .int (nI b1)), (4, .int (nI rv2)), (5, .int (nI u)), (6, .int (nI v))] → W vp l ve (RM 3) vs vm args below meth vc H locs 0 0 Q (F0 vm 16 ls []) := by
          intro fuel
          induction fuel with
          | zero => intro v rv2 σ2 lw2 hv h5 h6 h7 h8 hF; exact absurd hF (Nat.not_lt_zero _)
          | succ fuel ih16 =>
            intro v rv2 σ2 lw2 hv h5 h6 h7 h8 hF H locs ls hM hl
            refine lv_iload hx hb dX4_advancePair_16 (lv_at hl 6 rfl) ?_
            refine lv_iconst (v := nI 2) hx hb dX4_advancePair_18 (by decide) ?_
            refine sn_icmp_ge (tgt := 119) hx hb dX4_advancePair_19 (by decide) (by omega) (by omega) (fun hlv => ?_) (fun hlv => ?_)
            · refine lv_iinc (v := nI (u + 1)) (lv' := [(5, .int (nI (u + 1))), (0, .ref (b + 125)), (1, .ref (b + 2)), (2, .int (nI a)), (3, .int (nI b1)), (4, .int (nI rv2)), (6, .int (nI v))]) hx hb dX4_advancePair_119 hl (k := 5) rfl (q_inc _) (by decide) rfl (fun ls hl => ?_)
              refine lv_goto (tgt := 7) hx hb dX4_advancePair_122 (by decide) ?_
              exact ih7 (u + 1) rv2 σ2 lw2 (by omega) h5 h6 h7 (by rw [show 2 * (u + 1) = 2 * u + v by omega]; exact h8) (by omega) _ _ _ hM (lv_sub hl [1, 2, 3, 4, 5, 0] rfl)
            · have n0 := nx_lt (m := m) hlu ha
              have n1 := nx_lt (m := m) hlv hb1
              have hap := apv_le m g h a u b1 v
              have ht0 := (hS _ (show a * 8 + b1 < 64 by omega)).2
              refine lv_aload_n hx hb dX4_advancePair_22 rfl (lv_at hl 0 rfl) ?_
              refine sg_get (v := .ref (b + 127)) hx hb hts hown hK hM (sh13 kc_125) (kd_lt kc_125 (by decide)) rfl inX4 1 (by decide) wf_X4_15 rfl dX4_advancePair_23 ?_
              refine lv_iload_n hx hb dX4_advancePair_26 rfl (lv_at hl 2 rfl) ?_
              refine lv_bipush (v := nI 8) hx hb dX4_advancePair_27 (by decide) ?_
              refine sn_imul hx hb dX4_advancePair_29 ?_
              refine lv_iload_n hx hb dX4_advancePair_30 rfl (lv_at hl 3 rfl) ?_
              refine sn_iadd hx hb dX4_advancePair_31 ?_
              refine sg_iald hx hb hK hM (sh15 kc_127) (kd_lt kc_127 (by decide)) (i := (a * 8) + b1) (by omega) (by decide) dX4_advancePair_32 ?_
              refine sn_top (y := nI (tv (a * 8 + b1))) (by rw [h6 127 (by decide)]; exact (hS _ (by omega)).1) ?_
              refine lv_aload_n hx hb dX4_advancePair_33 rfl (lv_at hl 0 rfl) ?_
              refine lv_aload_n hx hb dX4_advancePair_34 rfl (lv_at hl 1 rfl) ?_
              refine lv_iload_n hx hb dX4_advancePair_35 rfl (lv_at hl 2 rfl) ?_
              refine lv_iload hx hb dX4_advancePair_36 (lv_at hl 5 rfl) ?_
              refine lv_iload_n hx hb dX4_advancePair_38 rfl (lv_at hl 3 rfl) ?_
              refine lv_iload hx hb dX4_advancePair_39 (lv_at hl 6 rfl) ?_
              refine sg_ci (sg_runV (d := 2) (As := [.ref (b + 2), .int (nI a), .int (nI u), .int (nI b1), .int (nI v)]) (rest := [.int (nI (tv (a * 8 + b1)))]) hx hb hml hts hown hK hM (c_Pa_gap l G b σ2 m g h a u b1 v (hc.keep (h6 2 (by decide))) ha hlu hb1 hlv (by rw [h6 126 (by decide)]; exact hG)) mi_X4_gapOfSteps wl_X4_59 (sh13 kc_125) (kd_lt kc_125 (by decide)) rfl rfl rfl hl.1 rfl (Nat.le_of_ble_eq_true rfl) dX4_advancePair_41 ⟨by decide, by decide⟩ ⟨Nat.le_refl 0, Nat.le_refl 0⟩) hM sgA (fun r_41 σ_41 H locs hp_41 hM => ?_)
              obtain ⟨hr_41, hs_41⟩ := hp_41; subst r_41; subst σ_41
              refine sn_iadd hx hb dX4_advancePair_44 ?_
              refine lv_istore (lv' := [(7, .int (nI ((tv (a * 8 + b1)) + (apv m g h a u b1 v)))), (0, .ref (b + 125)), (1, .ref (b + 2)), (2, .int (nI a)), (3, .int (nI b1)), (4, .int (nI rv2)), (5, .int (nI u)), (6, .int (nI v))]) hx hb dX4_advancePair_45 hl (by decide) rfl (fun ls hl => ?_)
              refine lv_aload_n hx hb dX4_advancePair_47 rfl (lv_at hl 2 rfl) ?_
              refine lv_iload_n hx hb dX4_advancePair_48 rfl (lv_at hl 3 rfl) ?_
              refine lv_iload hx hb dX4_advancePair_49 (lv_at hl 6 rfl) ?_
              refine sg_ci (sg_runV (d := 1) (As := [.int (nI a), .int (nI u)]) (rest := []) hx hb hml hts hown hK hM (c_Code_next l G b σ2 2 m g h a u kc_2 (hc.keep (h6 2 (by decide))) (by assumption) (by assumption)) mi_X0_stateAfter wl_X4_56 (sh2 kc_2) (kd_lt kc_2 (by decide)) rfl rfl rfl hl.1 rfl (Nat.le_of_ble_eq_true rfl) dX4_advancePair_51 ⟨by decide, by decide⟩ ⟨Nat.le_refl 0, Nat.le_refl 0⟩) hM sgA (fun r_51 σ_51 H locs hp_51 hM => ?_)
              obtain ⟨hr_51, hs_51⟩ := hp_51; subst r_51; subst σ_51
              refine lv_istore (lv' := [(8, .int (nI (nx m a u))), (7, .int (nI ((tv (a * 8 + b1)) + (apv m g h a u b1 v)))), (0, .ref (b + 125)), (1, .ref (b + 2)), (2, .int (nI a)), (3, .int (nI b1)), (4, .int (nI rv2)), (5, .int (nI u)), (6, .int (nI v))]) hx hb dX4_advancePair_54 hl (by decide) rfl (fun ls hl => ?_)
              refine lv_aload_n hx hb dX4_advancePair_56 rfl (lv_at hl 3 rfl) ?_
              refine lv_iload_n hx hb dX4_advancePair_57 rfl (lv_at hl 5 rfl) ?_
              refine lv_iload hx hb dX4_advancePair_58 (lv_at hl 8 rfl) ?_
              refine sg_ci (sg_runV (d := 1) (As := [.int (nI b1), .int (nI v)]) (rest := []) hx hb hml hts hown hK hM (c_Code_next l G b σ2 2 m g h b1 v kc_2 (hc.keep (h6 2 (by decide))) (by assumption) (by assumption)) mi_X0_stateAfter wl_X4_56 (sh2 kc_2) (kd_lt kc_2 (by decide)) rfl rfl rfl hl.1 rfl (Nat.le_of_ble_eq_true rfl) dX4_advancePair_60 ⟨by decide, by decide⟩ ⟨Nat.le_refl 0, Nat.le_refl 0⟩) hM sgA (fun r_60 σ_60 H locs hp_60 hM => ?_)
              obtain ⟨hr_60, hs_60⟩ := hp_60; subst r_60; subst σ_60
              refine lv_istore (lv' := [(9, .int (nI (nx m b1 v))), (8, .int (nI (nx m a u))), (7, .int (nI ((tv (a * 8 + b1)) + (apv m g h a u b1 v)))), (0, .ref (b + 125)), (1, .ref (b + 2)), (2, .int (nI a)), (3, .int (nI b1)), (4, .int (nI rv2)), (5, .int (nI u)), (6, .int (nI v))]) hx hb dX4_advancePair_63 hl (by decide) rfl (fun ls hl => ?_)
              refine lv_iload hx hb dX4_advancePair_65 (lv_at hl 1 rfl) ?_
              refine lv_iload hx hb dX4_advancePair_67 (lv_at hl 0 rfl) ?_
              refine sn_icmp_ne (tgt := 84) hx hb dX4_advancePair_69 (by decide) (by omega) (by omega) (fun c_69 => ?_) (fun c_69 => ?_)
              · refine lv_iload hx hb dX4_advancePair_84 (lv_at hl 1 rfl) ?_
                refine lv_bipush (v := nI 8) hx hb dX4_advancePair_86 (by decide) ?_
                refine sn_imul hx hb dX4_advancePair_88 ?_
                refine lv_iload hx hb dX4_advancePair_89 (lv_at hl 0 rfl) ?_
                refine sn_iadd hx hb dX4_advancePair_91 ?_
                refine lv_istore (lv' := [(10, .int (nI (((nx m a u) * 8) + (nx m b1 v)))), (9, .int (nI (nx m b1 v))), (8, .int (nI (nx m a u))), (7, .int (nI ((tv (a * 8 + b1)) + (apv m g h a u b1 v)))), (0, .ref (b + 125)), (1, .ref (b + 2)), (2, .int (nI a)), (3, .int (nI b1)), (4, .int (nI rv2)), (5, .int (nI u)), (6, .int (nI v))]) hx hb dX4_advancePair_92 hl (by decide) rfl (fun ls hl => ?_)
                refine lv_aload_n hx hb dX4_advancePair_94 rfl (lv_at hl 4 rfl) ?_
                refine sg_get (v := .ref (b + 128)) hx hb hts hown hK hM (sh13 kc_125) (kd_lt kc_125 (by decide)) rfl inX4 2 (by decide) wf_X4_18 rfl dX4_advancePair_95 ?_
                refine lv_iload hx hb dX4_advancePair_98 (lv_at hl 0 rfl) ?_
                refine lv_aload_n hx hb dX4_advancePair_100 rfl (lv_at hl 4 rfl) ?_
                refine sg_get (v := .ref (b + 128)) hx hb hts hown hK hM (sh13 kc_125) (kd_lt kc_125 (by decide)) rfl inX4 2 (by decide) wf_X4_18 rfl dX4_advancePair_101 ?_
                refine lv_iload hx hb dX4_advancePair_104 (lv_at hl 0 rfl) ?_
                refine sg_iald hx hb hK hM (sh15 kc_128) (kd_lt kc_128 (by decide)) (i := ((nx m a u) * 8) + (nx m b1 v)) (by omega) (by decide) dX4_advancePair_106 ?_
                refine sn_top (y := nI (lw2 (nx m a u * 8 + nx m b1 v))) ((h5 _ (by omega)).1) ?_
                refine lv_iload hx hb dX4_advancePair_107 (lv_at hl 3 rfl) ?_
                refine va_mmin hx hb (by rw [hml]; exact hl.1.symm) hown (hts _ wl_X4_28) (hts _ ws_J9_min_7cf53) (hts _ wi_RJ9) (hts _ wc_J9_min_7cf53) (by decide) (Nat.le_of_ble_eq_true rfl) (Nat.le_refl 0) (Nat.le_refl 0) dX4_advancePair_109 ?_
                refine sn_top (y := nI (min (lw2 (nx m a u * 8 + nx m b1 v)) ((tv (a * 8 + b1)) + (apv m g h a u b1 v)))) (q_min (by have := (h5 _ (show nx m a u * 8 + nx m b1 v < 64 by omega)).2; omega) (by omega)) ?_
                refine sg_iast hx hb hK hM sgA (fun f => sh15 kc_128) (kd_lt kc_128 (by decide)) (i := ((nx m a u) * 8) + (nx m b1 v)) (by omega) (by decide) dX4_advancePair_112 (fun H locs hM => ?_)
                refine lv_iinc (v := nI (v + 1)) (lv' := [(6, .int (nI (v + 1))), (10, .int (nI (((nx m a u) * 8) + (nx m b1 v)))), (9, .int (nI (nx m b1 v))), (8, .int (nI (nx m a u))), (7, .int (nI ((tv (a * 8 + b1)) + (apv m g h a u b1 v)))), (0, .ref (b + 125)), (1, .ref (b + 2)), (2, .int (nI a)), (3, .int (nI b1)), (4, .int (nI rv2)), (5, .int (nI u))]) hx hb dX4_advancePair_113 hl (k := 10) rfl (q_inc _) (by decide) rfl (fun ls hl => ?_)
                refine lv_goto (tgt := 16) hx hb dX4_advancePair_116 (by decide) ?_
                exact ih16 (v + 1) rv2 (m2 σ2 128 (((nx m a u) * 8) + (nx m b1 v)) (nI (min (lw2 (nx m a u * 8 + nx m b1 v)) ((tv (a * 8 + b1)) + (apv m g h a u b1 v))))) (fu lw2 (nx m a u * 8 + nx m b1 v) (min (lw2 (nx m a u * 8 + nx m b1 v)) (tv (a * 8 + b1) + apv m g h a u b1 v))) (by omega) (Ar_up h5 (Nat.le_trans (Nat.min_le_left _ _) (h5 _ (by omega)).2)) (fun c q => by rw [m2_o q]; exact h6 c q) h7 (APs_n h8 hlu hlv c_69) (by omega) _ _ _ hM (lv_sub hl [5, 6, 7, 8, 9, 10, 0] rfl)
              · refine lv_iload hx hb dX4_advancePair_72 (lv_at hl 7 rfl) ?_
                refine lv_iload hx hb dX4_advancePair_74 (lv_at hl 2 rfl) ?_
                refine va_mmin hx hb (by rw [hml]; exact hl.1.symm) hown (hts _ wl_X4_28) (hts _ ws_J9_min_7cf53) (hts _ wi_RJ9) (hts _ wc_J9_min_7cf53) (by decide) (Nat.le_of_ble_eq_true rfl) (Nat.le_refl 0) (Nat.le_refl 0) dX4_advancePair_76 ?_
                refine sn_top (y := nI (min rv2 ((tv (a * 8 + b1)) + (apv m g h a u b1 v)))) (q_min (by omega) (by omega)) ?_
                refine lv_istore (lv' := [(4, .int (nI (min rv2 ((tv (a * 8 + b1)) + (apv m g h a u b1 v))))), (9, .int (nI (nx m b1 v))), (8, .int (nI (nx m a u))), (7, .int (nI ((tv (a * 8 + b1)) + (apv m g h a u b1 v)))), (0, .ref (b + 125)), (1, .ref (b + 2)), (2, .int (nI a)), (3, .int (nI b1)), (5, .int (nI u)), (6, .int (nI v))]) hx hb dX4_advancePair_79 hl (by decide) rfl (fun ls hl => ?_)
                refine lv_goto (tgt := 113) hx hb dX4_advancePair_81 (by decide) ?_
                refine lv_iinc (v := nI (v + 1)) (lv' := [(6, .int (nI (v + 1))), (4, .int (nI (min rv2 ((tv (a * 8 + b1)) + (apv m g h a u b1 v))))), (9, .int (nI (nx m b1 v))), (8, .int (nI (nx m a u))), (7, .int (nI ((tv (a * 8 + b1)) + (apv m g h a u b1 v)))), (0, .ref (b + 125)), (1, .ref (b + 2)), (2, .int (nI a)), (3, .int (nI b1)), (5, .int (nI u))]) hx hb dX4_advancePair_113 hl (k := 9) rfl (q_inc _) (by decide) rfl (fun ls hl => ?_)
                refine lv_goto (tgt := 16) hx hb dX4_advancePair_116 (by decide) ?_
                exact ih16 (v + 1) (min rv2 (tv (a * 8 + b1) + apv m g h a u b1 v)) σ2 lw2 (by omega) h5 h6 (Nat.le_trans (Nat.min_le_left _ _) h7) (APs_c h8 hlu hlv c_69) (by omega) _ _ _ hM (lv_sub hl [5, 6, 7, 8, 1, 9, 0] rfl)
        exact L16 (_ + 1) 0 rv σ1 lw (by omega) h1 h2 h3 h4 (Nat.lt_succ_self _) _ _ _ hM (lv_sub hl [1, 2, 3, 4, 5, 6, 0] rfl)
  exact L7 (_ + 1) 0 NV σ lv (by omega) hL (fun _ _ => rfl) (Nat.le_refl _) (APs_0 _ _ _ _ _ _ _) (Nat.lt_succ_self _) _ _ _ hM (lv_sub hl [2, 3, 4, 5, 1, 0] rfl)
set_option maxHeartbeats 4000000 in
set_option maxRecDepth 100000 in
theorem c_Pa_advance (l : Launch) (G : GT) (b : Nat) (σ : Mem) (m g h t l0 : Nat) (tv : Nat → Nat) (hc : CodeAt σ 2 m g h) (hG : ∀ f, f < 4 → ∀ o, o < 4 → σ 126 (f * 4 + o) = nI (g0 f o)) (hS : Ar σ 127 64 tv) (hl0 : l0 ≤ NV) (hFr : FrI m g h t l0) (hT : Tv m g h t l0 tv) : KI l G b yX4_advance cX4_advance 6 4 σ [.ref (b + 125), .ref (b + 2), .int (nI l0)] (fun r σ' => ∃ l1 lv, r = nI l1 ∧ Ar σ' 127 64 lv ∧ l1 ≤ NV ∧ (FrI m g h (t + 1) l1 ∧ Tv m g h (t + 1) l1 lv) ∧ ∀ c, c ≠ 127 → c ≠ 128 → σ' c = σ c) := by
  refine sg_metI [.ref (b + 125), .ref (b + 2), .int (nI l0)] (by decide) (Nat.le_of_ble_eq_true rfl) ?_
  intro vp ve vs vm args below meth vc ls Q hx hb hml hown hts hK hM hl hret
  have hl : lv_has ls 6 [(0, .ref (b + 125)), (1, .ref (b + 2)), (2, .int (nI l0))] := hl
  have hm8 := p2_le hc.m
  have hNV : NV = 99999999 := rfl
  refine lv_aload_n hx hb dX4_advance_0 rfl (lv_at hl 0 rfl) ?_
  refine sg_get (v := .ref (b + 128)) hx hb hts hown hK hM (sh13 kc_125) (kd_lt kc_125 (by decide)) rfl inX4 2 (by decide) wf_X4_18 rfl dX4_advance_1 ?_
  refine lv_ldc (v := nI 99999999) hx hb hown (hts (Cond.constant RX4 21 (nI 99999999)) wk_X4_21) dX4_advance_4 ?_
  refine sg_cv (sg_runS (d := 0) (As := [.ref (b + 128), .int (nI 99999999)]) (rest := []) hx hb hml hts hown hK hM (c_fill64 l G b σ 128 (nI 99999999) kc_128) mi_J7_fill_53178 wl_X4_44 rfl hl.1 rfl (Nat.le_of_ble_eq_true rfl) dX4_advance_6 ⟨by decide, by decide⟩ ⟨Nat.le_refl 0, Nat.le_refl 0⟩) hM sgA (fun σ_6 H locs hp_6 hM => ?_)
  refine lv_iload_n hx hb dX4_advance_9 rfl (lv_at hl 2 rfl) ?_
  refine lv_istore_n (lv' := [(3, .int (nI l0)), (0, .ref (b + 125)), (1, .ref (b + 2)), (2, .int (nI l0))]) hx hb dX4_advance_10 rfl hl (by decide) rfl (fun ls hl => ?_)
  refine lv_iconst (v := nI 0) hx hb dX4_advance_11 (by decide) ?_
  refine lv_istore (lv' := [(4, .int (nI 0)), (3, .int (nI l0)), (0, .ref (b + 125)), (1, .ref (b + 2)), (2, .int (nI l0))]) hx hb dX4_advance_12 hl (by decide) rfl (fun ls hl => ?_)
  have L14 : ∀ (fuel : Nat) (a : Nat) (l1 : Nat) (σ1 : Mem) (lv : Nat → Nat), (a ≤ 2 ^ m) → (l1 ≤ NV) → (Ar σ1 128 64 lv) → (∀ c, c ≠ 128 → σ1 c = σ c) → (AVs m g h tv l0 (a * 8) l1 lv) → (2 ^ m - a) < fuel → ∀ (H : Heap) (locs : List Loc) (ls : Array Slot), St G (Fr b) b σ1 vs H locs → lv_has ls 6 [(0, .ref (b + 125)), (1, .ref (b + 2)), (3, .int (nI l1)), (4, .int (nI a))] → W vp l ve (RM 4) vs vm args below meth vc H locs 0 0 Q (F0 vm 14 ls []) := by
    intro fuel
    induction fuel with
    | zero => intro a l1 σ1 lv ha hle h1 h2 h3 hF; exact absurd hF (Nat.not_lt_zero _)
    | succ fuel ih14 =>
      intro a l1 σ1 lv ha hle h1 h2 h3 hF H locs ls hM hl
      refine lv_iload hx hb dX4_advance_14 (lv_at hl 3 rfl) ?_
      refine lv_aload_n hx hb dX4_advance_16 rfl (lv_at hl 1 rfl) ?_
      refine sg_ci (sg_runV (d := 0) (As := []) (rest := [.int (nI a)]) hx hb hml hts hown hK hM (c_Code_states l G b σ1 2 m g h kc_2 (hc.keep (h2 2 (by decide)))) mi_X0_states wl_X4_50 (sh2 kc_2) (kd_lt kc_2 (by decide)) rfl rfl rfl hl.1 rfl (Nat.le_of_ble_eq_true rfl) dX4_advance_17 ⟨by decide, by decide⟩ ⟨Nat.le_refl 0, Nat.le_refl 0⟩) hM sgA (fun r_17 σ_17 H locs hp_17 hM => ?_)
      obtain ⟨hr_17, hs_17⟩ := hp_17; subst r_17; subst σ_17
      refine sn_icmp_ge (tgt := 78) hx hb dX4_advance_20 (by decide) (by omega) (by omega) (fun hla => ?_) (fun hla => ?_)
      · refine lv_aload_n hx hb dX4_advance_78 rfl (lv_at hl 0 rfl) ?_
        refine sg_get (v := .ref (b + 128)) hx hb hts hown hK hM (sh13 kc_125) (kd_lt kc_125 (by decide)) rfl inX4 2 (by decide) wf_X4_18 rfl dX4_advance_79 ?_
        refine lv_iconst (v := nI 0) hx hb dX4_advance_82 (by decide) ?_
        refine lv_aload_n hx hb dX4_advance_83 rfl (lv_at hl 0 rfl) ?_
        refine sg_get (v := .ref (b + 127)) hx hb hts hown hK hM (sh13 kc_125) (kd_lt kc_125 (by decide)) rfl inX4 1 (by decide) wf_X4_15 rfl dX4_advance_84 ?_
        refine lv_iconst (v := nI 0) hx hb dX4_advance_87 (by decide) ?_
        refine lv_aload_n hx hb dX4_advance_88 rfl (lv_at hl 0 rfl) ?_
        refine sg_get (v := .ref (b + 127)) hx hb hts hown hK hM (sh13 kc_125) (kd_lt kc_125 (by decide)) rfl inX4 1 (by decide) wf_X4_15 rfl dX4_advance_89 ?_
        refine sg_alen hx hb hK hM (sh15 kc_127) (kd_lt kc_127 (by decide)) dX4_advance_92 ?_
        refine sg_copy hx hb (by rw [hml]; exact hl.1.symm) hts hown hK hM sgA wl_X4_67 (n := 64) (sh15 kc_128) (fun f => sh15 kc_127) (kd_lt kc_128 (by decide)) (kd_lt kc_127 (by decide)) (by decide) (by decide) (by decide) (by decide) (Nat.le_of_ble_eq_true rfl) dX4_advance_93 (fun H locs hM => ?_)
        refine lv_iload_n hx hb dX4_advance_96 rfl (lv_at hl 2 rfl) ?_
        exact hret _ _ _ _ _ _ dX4_advance_97 hM (⟨l1, lv, rfl, fun i hi => by rw [mcp_s hi]; exact h1 i hi, hle, AVs_end hc.m hT hFr (AVs_to h3 (fun x y hx hy q => by omega)), fun c q1 q2 => by rw [mcp_o q1]; exact h2 c q2⟩)
      · refine lv_iconst (v := nI 0) hx hb dX4_advance_23 (by decide) ?_
        refine lv_istore (lv' := [(5, .int (nI 0)), (0, .ref (b + 125)), (1, .ref (b + 2)), (3, .int (nI l1)), (4, .int (nI a))]) hx hb dX4_advance_24 hl (by decide) rfl (fun ls hl => ?_)
        have L26 : ∀ (fuel : Nat) (b1 : Nat) (l2 : Nat) (σ2 : Mem) (lv2 : Nat → Nat), (b1 ≤ 2 ^ m) → (l2 ≤ NV) → (Ar σ2 128 64 lv2) → (∀ c, c ≠ 128 → σ2 c = σ c) → (AVs m g h tv l0 (a * 8 + b1) l2 lv2) → (2 ^ m - b1) < fuel → ∀ (H : Heap) (locs : List Loc) (ls : Array Slot), St G (Fr b) b σ2 vs H locs → lv_has ls 6 [(0, .ref (b + 125)), (1, .ref (b + 2)), (3, .int (nI l2)), (4, .int (nI a)), (5, .int (nI b1))] → W vp l ve (RM 4) vs vm args below meth vc H locs 0 0 Q (F0 vm 26 ls []) := by
          intro fuel
          induction fuel with
          | zero => intro b1 l2 σ2 lv2 hb1 hle2 h4 h5 h6 hF; exact absurd hF (Nat.not_lt_zero _)
          | succ fuel ih26 =>
            intro b1 l2 σ2 lv2 hb1 hle2 h4 h5 h6 hF H locs ls hM hl
            refine lv_iload hx hb dX4_advance_26 (lv_at hl 4 rfl) ?_
            refine lv_aload_n hx hb dX4_advance_28 rfl (lv_at hl 1 rfl) ?_
            refine sg_ci (sg_runV (d := 0) (As := []) (rest := [.int (nI b1)]) hx hb hml hts hown hK hM (c_Code_states l G b σ2 2 m g h kc_2 (hc.keep (h5 2 (by decide)))) mi_X0_states wl_X4_50 (sh2 kc_2) (kd_lt kc_2 (by decide)) rfl rfl rfl hl.1 rfl (Nat.le_of_ble_eq_true rfl) dX4_advance_29 ⟨by decide, by decide⟩ ⟨Nat.le_refl 0, Nat.le_refl 0⟩) hM sgA (fun r_29 σ_29 H locs hp_29 hM => ?_)
            obtain ⟨hr_29, hs_29⟩ := hp_29; subst r_29; subst σ_29
            refine sn_icmp_ge (tgt := 72) hx hb dX4_advance_32 (by decide) (by omega) (by omega) (fun hlb => ?_) (fun hlb => ?_)
            · refine lv_iinc (v := nI (a + 1)) (lv' := [(4, .int (nI (a + 1))), (0, .ref (b + 125)), (1, .ref (b + 2)), (3, .int (nI l2)), (5, .int (nI b1))]) hx hb dX4_advance_72 hl (k := 3) rfl (q_inc _) (by decide) rfl (fun ls hl => ?_)
              refine lv_goto (tgt := 14) hx hb dX4_advance_75 (by decide) ?_
              exact ih14 (a + 1) l2 σ2 lv2 (by omega) hle2 h4 h5 (AVs_to h6 (fun x y hx hy q => by omega)) (by omega) _ _ _ hM (lv_sub hl [1, 2, 3, 0] rfl)
            · have ht0 := (hS _ (show a * 8 + b1 < 64 by omega)).2
              refine lv_aload_n hx hb dX4_advance_35 rfl (lv_at hl 0 rfl) ?_
              refine sg_get (v := .ref (b + 127)) hx hb hts hown hK hM (sh13 kc_125) (kd_lt kc_125 (by decide)) rfl inX4 1 (by decide) wf_X4_15 rfl dX4_advance_36 ?_
              refine lv_iload hx hb dX4_advance_39 (lv_at hl 3 rfl) ?_
              refine lv_bipush (v := nI 8) hx hb dX4_advance_41 (by decide) ?_
              refine sn_imul hx hb dX4_advance_43 ?_
              refine lv_iload hx hb dX4_advance_44 (lv_at hl 4 rfl) ?_
              refine sn_iadd hx hb dX4_advance_46 ?_
              refine sg_iald hx hb hK hM (sh15 kc_127) (kd_lt kc_127 (by decide)) (i := (a * 8) + b1) (by omega) (by decide) dX4_advance_47 ?_
              refine sn_top (y := nI (tv (a * 8 + b1))) (by rw [h5 127 (by decide)]; exact (hS _ (by omega)).1) ?_
              refine lv_iload_n hx hb dX4_advance_48 rfl (lv_at hl 2 rfl) ?_
              refine sn_icmp_ge (tgt := 66) hx hb dX4_advance_49 (by decide) (by omega) (by omega) (fun c_49 => ?_) (fun c_49 => ?_)
              · refine lv_iinc (v := nI (b1 + 1)) (lv' := [(5, .int (nI (b1 + 1))), (0, .ref (b + 125)), (1, .ref (b + 2)), (3, .int (nI l2)), (4, .int (nI a))]) hx hb dX4_advance_66 hl (k := 4) rfl (q_inc _) (by decide) rfl (fun ls hl => ?_)
                refine lv_goto (tgt := 26) hx hb dX4_advance_69 (by decide) ?_
                exact ih26 (b1 + 1) l2 σ2 lv2 (by omega) hle2 h4 h5 (AVs_skip hc.m hlb h6 c_49) (by omega) _ _ _ hM (lv_sub hl [1, 2, 3, 4, 0] rfl)
              · refine lv_iload_n hx hb dX4_advance_52 rfl (lv_at hl 2 rfl) ?_
                refine lv_aload_n hx hb dX4_advance_53 rfl (lv_at hl 0 rfl) ?_
                refine lv_aload_n hx hb dX4_advance_54 rfl (lv_at hl 1 rfl) ?_
                refine lv_iload hx hb dX4_advance_55 (lv_at hl 3 rfl) ?_
                refine lv_iload hx hb dX4_advance_57 (lv_at hl 4 rfl) ?_
                refine sg_ci (sg_runV (d := 3) (As := [.ref (b + 2), .int (nI a), .int (nI b1)]) (rest := [.int (nI l2)]) hx hb hml hts hown hK hM (c_Pa_pair l G b σ2 m g h a b1 tv lv2 (hc.keep (h5 2 (by decide))) hla hlb (by rw [h5 126 (by decide)]; exact hG) (hS.keep (h5 127 (by decide))) h4) mi_X4_advancePair wl_X4_63 (sh13 kc_125) (kd_lt kc_125 (by decide)) rfl rfl rfl hl.1 rfl (Nat.le_of_ble_eq_true rfl) dX4_advance_59 ⟨by decide, by decide⟩ ⟨Nat.le_refl 0, Nat.le_refl 0⟩) hM sgA (fun r1 σ3 H locs hq hM => ?_)
                obtain ⟨rv, lw, k1, k2, k3, k4, k5⟩ := hq
                subst k1
                refine va_mmin hx hb (by rw [hml]; exact hl.1.symm) hown (hts _ wl_X4_28) (hts _ ws_J9_min_7cf53) (hts _ wi_RJ9) (hts _ wc_J9_min_7cf53) (by decide) (Nat.le_of_ble_eq_true rfl) (Nat.le_refl 0) (Nat.le_refl 0) dX4_advance_62 ?_
                refine sn_top (y := nI (min l2 rv)) (q_min (by omega) (by omega)) ?_
                refine lv_istore_n (lv' := [(3, .int (nI (min l2 rv))), (0, .ref (b + 125)), (1, .ref (b + 2)), (4, .int (nI a)), (5, .int (nI b1))]) hx hb dX4_advance_65 rfl hl (by decide) rfl (fun ls hl => ?_)
                refine lv_iinc (v := nI (b1 + 1)) (lv' := [(5, .int (nI (b1 + 1))), (3, .int (nI (min l2 rv))), (0, .ref (b + 125)), (1, .ref (b + 2)), (4, .int (nI a))]) hx hb dX4_advance_66 hl (k := 4) rfl (q_inc _) (by decide) rfl (fun ls hl => ?_)
                refine lv_goto (tgt := 26) hx hb dX4_advance_69 (by decide) ?_
                exact ih26 (b1 + 1) (min l2 rv) σ3 lw (by omega) (Nat.le_trans (Nat.min_le_left _ _) hle2) k3 (fun c q => by rw [k4 c q]; exact h5 c q) (AVs_pair hc.m hla hlb h6 hle2 (by omega) k5) (by omega) _ _ _ hM (lv_sub hl [2, 3, 1, 4, 0] rfl)
        exact L26 (_ + 1) 0 l1 σ1 lv (Nat.zero_le _) hle h1 h2 h3 (Nat.lt_succ_self _) _ _ _ hM (lv_sub hl [1, 2, 3, 4, 0] rfl)
  exact L14 (_ + 1) 0 l0 σ_6 (fun _ => NV) (Nat.zero_le _) hl0 (fun j q => ⟨hp_6.1 j q, Nat.le_refl _⟩) hp_6.2 (by rw [Nat.zero_mul]; exact AVs_0 _ _ _ _ _) (Nat.lt_succ_self _) _ _ _ hM (lv_sub hl [2, 3, 1, 0] rfl)
set_option maxHeartbeats 4000000 in
set_option maxRecDepth 100000 in
theorem c_Pa_least (l : Launch) (G : GT) (b : Nat) (σ : Mem) (m g h : Nat) (hc : CodeAt σ 2 m g h) : KI l G b yX4_leastSum cX4_leastSum 4 5 σ [.ref (b + 125), .ref (b + 2)] (fun r σ' => r = nI (freeV m g h) ∧ ∀ c, c < 125 ∨ 129 ≤ c → σ' c = σ c) := by
  refine sg_metI [.ref (b + 125), .ref (b + 2)] (by decide) (Nat.le_of_ble_eq_true rfl) ?_
  intro vp ve vs vm args below meth vc ls Q hx hb hml hown hts hK hM hl hret
  have hl : lv_has ls 4 [(0, .ref (b + 125)), (1, .ref (b + 2))] := hl
  have hNV : NV = 99999999 := rfl
  refine lv_ldc (v := nI 99999999) hx hb hown (hts (Cond.constant RX4 21 (nI 99999999)) wk_X4_21) dX4_leastSum_0 ?_
  refine lv_istore_n (lv' := [(2, .int (nI 99999999)), (0, .ref (b + 125)), (1, .ref (b + 2))]) hx hb dX4_leastSum_2 rfl hl (by decide) rfl (fun ls hl => ?_)
  refine lv_iconst (v := nI 0) hx hb dX4_leastSum_3 (by decide) ?_
  refine lv_istore_n (lv' := [(3, .int (nI 0)), (2, .int (nI 99999999)), (0, .ref (b + 125)), (1, .ref (b + 2))]) hx hb dX4_leastSum_4 rfl hl (by decide) rfl (fun ls hl => ?_)
  have L5 : ∀ (fuel : Nat) (f : Nat), (f ≤ 4) → (4 - f) < fuel → ∀ (H : Heap) (locs : List Loc) (ls : Array Slot), St G (Fr b) b σ vs H locs → lv_has ls 4 [(0, .ref (b + 125)), (1, .ref (b + 2)), (2, .int (nI (gm f))), (3, .int (nI f))] → W vp l ve (RM 5) vs vm args below meth vc H locs 0 0 Q (F0 vm 5 ls []) := by
    intro fuel
    induction fuel with
    | zero => intro f hf hF; exact absurd hF (Nat.not_lt_zero _)
    | succ fuel ih5 =>
      intro f hf hF H locs ls hM hl
      refine lv_iload_n hx hb dX4_leastSum_5 rfl (lv_at hl 3 rfl) ?_
      refine lv_iconst (v := nI 4) hx hb dX4_leastSum_6 (by decide) ?_
      refine sn_icmp_ge (tgt := 26) hx hb dX4_leastSum_7 (by decide) (by omega) (by omega) (fun c_7 => ?_) (fun c_7 => ?_)
      · obtain rfl : f = 4 := by omega
        have hl : lv_has ls 4 [(0, .ref (b + 125)), (1, .ref (b + 2)), (2, .int (nI (gm 4))), (3, .int (nI 4))] := hl
        refine lv_aload_n hx hb dX4_leastSum_26 rfl (lv_at hl 0 rfl) ?_
        refine sg_cv (sg_runV (d := 3) (As := []) (rest := []) hx hb hml hts hown hK hM (c_Pa_fillGaps l G b σ) mi_X4_fillGaps wl_X4_33 (sh13 kc_125) (kd_lt kc_125 (by decide)) rfl rfl rfl hl.1 rfl (Nat.le_of_ble_eq_true rfl) dX4_leastSum_27 ⟨by decide, by decide⟩ ⟨Nat.le_refl 0, Nat.le_refl 0⟩) hM sgA (fun σ_27 H locs hp_27 hM => ?_)
        refine lv_aload_n hx hb dX4_leastSum_30 rfl (lv_at hl 0 rfl) ?_
        refine lv_aload_n hx hb dX4_leastSum_31 rfl (lv_at hl 1 rfl) ?_
        refine sg_cv (sg_runV (d := 3) (As := [.ref (b + 2)]) (rest := []) hx hb hml hts hown hK hM (c_Pa_part l G b σ_27 m g h (gm 4) (hc.keep (hp_27.2 2 (by decide))) hp_27.1) mi_X4_part wl_X4_36 (sh13 kc_125) (kd_lt kc_125 (by decide)) rfl rfl rfl hl.1 rfl (Nat.le_of_ble_eq_true rfl) dX4_leastSum_32 ⟨by decide, by decide⟩ ⟨Nat.le_refl 0, Nat.le_refl 0⟩) hM sgA (fun σ_32 H locs hp_32 hM => ?_)
        obtain ⟨tv0, k1, k2, k3⟩ := hp_32
        refine lv_iconst (v := nI 2) hx hb dX4_leastSum_35 (by decide) ?_
        refine lv_istore_n (lv' := [(3, .int (nI 2)), (0, .ref (b + 125)), (1, .ref (b + 2)), (2, .int (nI (gm 4)))]) hx hb dX4_leastSum_36 rfl hl (by decide) rfl (fun ls hl => ?_)
        have L37 : ∀ (fuel : Nat) (t : Nat) (l1 : Nat) (σ1 : Mem) (tv : Nat → Nat), (t ≤ 29) → (l1 ≤ NV) → (Ar σ1 127 64 tv) → (FrI m g h t l1) → (Tv m g h t l1 tv) → (∀ c, c < 125 ∨ 129 ≤ c ∨ c = 126 → σ1 c = σ_27 c) → (30 - t) < fuel → ∀ (H : Heap) (locs : List Loc) (ls : Array Slot), St G (Fr b) b σ1 vs H locs → lv_has ls 4 [(0, .ref (b + 125)), (1, .ref (b + 2)), (2, .int (nI l1)), (3, .int (nI (t + 2)))] → W vp l ve (RM 5) vs vm args below meth vc H locs 0 0 Q (F0 vm 37 ls []) := by
          intro fuel
          induction fuel with
          | zero => intro t l1 σ1 tv ht hle h1 h2 h3 h4 hF; exact absurd hF (Nat.not_lt_zero _)
          | succ fuel ih37 =>
            intro t l1 σ1 tv ht hle h1 h2 h3 h4 hF H locs ls hM hl
            refine lv_iload_n hx hb dX4_leastSum_37 rfl (lv_at hl 3 rfl) ?_
            refine lv_bipush (v := nI 30) hx hb dX4_leastSum_38 (by decide) ?_
            refine sn_icmp_gt (tgt := 56) hx hb dX4_leastSum_40 (by decide) (by omega) (by omega) (fun hgt => ?_) (fun hgt => ?_)
            · refine lv_iload_n hx hb dX4_leastSum_56 rfl (lv_at hl 2 rfl) ?_
              obtain rfl : t = 29 := by omega
              exact hret _ _ _ _ _ _ dX4_leastSum_57 hM (⟨by rw [freeV_eq h2], fun c q => by rw [h4 c (by omega)]; exact hp_27.2 c (by omega)⟩)
            · refine lv_aload_n hx hb dX4_leastSum_43 rfl (lv_at hl 0 rfl) ?_
              refine lv_aload_n hx hb dX4_leastSum_44 rfl (lv_at hl 1 rfl) ?_
              refine lv_iload_n hx hb dX4_leastSum_45 rfl (lv_at hl 2 rfl) ?_
              refine sg_ci (sg_runV (d := 4) (As := [.ref (b + 2), .int (nI l1)]) (rest := []) hx hb hml hts hown hK hM (c_Pa_advance l G b σ1 m g h t l1 tv (hc.keep (by rw [h4 2 (by omega), hp_27.2 2 (by decide)])) (by rw [h4 126 (by omega)]; exact hp_27.1) h1 hle h2 h3) mi_X4_advance wl_X4_40 (sh13 kc_125) (kd_lt kc_125 (by decide)) rfl rfl rfl hl.1 rfl (Nat.le_of_ble_eq_true rfl) dX4_leastSum_46 ⟨by decide, by decide⟩ ⟨Nat.le_refl 0, Nat.le_refl 0⟩) hM sgA (fun r2 σ2 H locs hq hM => ?_)
              obtain ⟨l2, lv2, j1, j2, j3, j4, j5⟩ := hq
              subst j1
              refine lv_istore_n (lv' := [(2, .int (nI l2)), (0, .ref (b + 125)), (1, .ref (b + 2)), (3, .int (nI (t + 2)))]) hx hb dX4_leastSum_49 rfl hl (by decide) rfl (fun ls hl => ?_)
              refine lv_iinc (v := nI (t + 2 + 1)) (lv' := [(3, .int (nI (t + 2 + 1))), (2, .int (nI l2)), (0, .ref (b + 125)), (1, .ref (b + 2))]) hx hb dX4_leastSum_50 hl (k := 3) rfl (q_inc _) (by decide) rfl (fun ls hl => ?_)
              refine lv_goto (tgt := 37) hx hb dX4_leastSum_53 (by decide) ?_
              exact ih37 (t + 1) l2 σ2 lv2 (by omega) j3 j2 j4.1 j4.2 (fun c q => by rw [j5 c (by omega) (by omega)]; exact h4 c q) (by omega) _ _ _ hM (lv_sub hl [2, 3, 1, 0] rfl)
        exact L37 (_ + 1) 0 (gm 4) σ_32 tv0 (by omega) (gm_le 4) k1 (gm_F m g h) k2 (fun c q => k3 c (by omega)) (Nat.lt_succ_self _) _ _ _ hM (lv_sub hl [1, 2, 3, 0] rfl)
      · refine lv_iload_n hx hb dX4_leastSum_10 rfl (lv_at hl 2 rfl) ?_
        refine lv_iload_n hx hb dX4_leastSum_11 rfl (lv_at hl 3 rfl) ?_
        refine lv_iload_n hx hb dX4_leastSum_12 rfl (lv_at hl 3 rfl) ?_
        refine sg_ci (sg_runS (d := 2) (As := [.int (nI f), .int (nI f)]) (rest := [.int (nI (gm f))]) hx hb hml hts hown hK hM (c_g_gapOf l G b σ f f (by first | omega | exact fam_lt _ _ _ _ _ | exact gf_lt _ | exact tf_lt _ | exact pt_lt (by first | omega | exact fam_lt _ _ _ _ _) (by omega) | exact tn_lt (by first | omega | exact pt_lt (by omega) (by omega))) (by first | omega | exact fam_lt _ _ _ _ _ | exact gf_lt _ | exact tf_lt _ | exact pt_lt (by first | omega | exact fam_lt _ _ _ _ _) (by omega) | exact tn_lt (by first | omega | exact pt_lt (by omega) (by omega)))) mi_X1_gapOf wl_X4_22 rfl hl.1 rfl (Nat.le_of_ble_eq_true rfl) dX4_leastSum_13 ⟨by decide, by decide⟩ ⟨Nat.le_refl 0, Nat.le_refl 0⟩) hM sgA (fun r_13 σ_13 H locs hp_13 hM => ?_)
        obtain ⟨hr_13, hs_13⟩ := hp_13; subst r_13; subst σ_13
        refine va_mmin hx hb (by rw [hml]; exact hl.1.symm) hown (hts _ wl_X4_28) (hts _ ws_J9_min_7cf53) (hts _ wi_RJ9) (hts _ wc_J9_min_7cf53) (by decide) (Nat.le_of_ble_eq_true rfl) (Nat.le_refl 0) (Nat.le_refl 0) dX4_leastSum_16 ?_
        refine sn_top (y := nI (min (gm f) (gap f f))) (q_min (by have := gm_le f; omega) (by have := (gap_ok f (by omega) f (by omega)).2; omega)) ?_
        refine sn_top (y := nI (gm (f + 1))) (rfl) ?_
        refine lv_istore_n (lv' := [(2, .int (nI (gm (f + 1)))), (0, .ref (b + 125)), (1, .ref (b + 2)), (3, .int (nI f))]) hx hb dX4_leastSum_19 rfl hl (by decide) rfl (fun ls hl => ?_)
        refine lv_iinc (v := nI (f + 1)) (lv' := [(3, .int (nI (f + 1))), (2, .int (nI (gm (f + 1)))), (0, .ref (b + 125)), (1, .ref (b + 2))]) hx hb dX4_leastSum_20 hl (k := 3) rfl (q_inc _) (by decide) rfl (fun ls hl => ?_)
        refine lv_goto (tgt := 5) hx hb dX4_leastSum_23 (by decide) ?_
        exact ih5 (f + 1) (by omega) (by omega) _ _ _ hM (lv_sub hl [2, 3, 1, 0] rfl)
  exact L5 (_ + 1) 0 (by omega) (Nat.lt_succ_self _) _ _ _ hM (lv_sub hl [2, 3, 1, 0] rfl)

set_option maxHeartbeats 4000000 in
set_option maxRecDepth 100000 in
theorem c_Se_choose (l : Launch) (G : GT) (b : Nat) (σ : Mem) (k f : Nat) (x y : Int32) (hk : k < 24) (hf : f < 4) (hxy : hOK x y) : KV l G b yX8_choose cX8_choose 8 2 σ [.ref (b + 116), .int (nI k), .int (nI f), .int x, .int y] (fun σ' => (σ' 123 (k * 4 + f) = nI (tl f x y) ∧ σ' 122 (k * 4 + f) = nI (cw f x y)) ∧ (∀ c, c ≠ 122 → c ≠ 123 → σ' c = σ c) ∧ (∀ i, i ≠ k * 4 + f → σ' 122 i = σ 122 i ∧ σ' 123 i = σ 123 i)) := by
  refine sg_metV [.ref (b + 116), .int (nI k), .int (nI f), .int x, .int y] (by decide) (Nat.le_of_ble_eq_true rfl) ?_
  intro vp ve vs vm args below meth vc ls Q hx hb hml hown hts hK hM hl hret
  have hl : lv_has ls 8 [(0, .ref (b + 116)), (1, .int (nI k)), (2, .int (nI f)), (3, .int x), (4, .int y)] := hl
  have hNV : NV = 99999999 := rfl
  refine lv_iload_n hx hb dX8_choose_0 rfl (lv_at hl 1 rfl) ?_
  refine lv_iconst (v := nI 4) hx hb dX8_choose_1 (by decide) ?_
  refine sn_imul hx hb dX8_choose_2 ?_
  refine lv_iload_n hx hb dX8_choose_3 rfl (lv_at hl 2 rfl) ?_
  refine sn_iadd hx hb dX8_choose_4 ?_
  refine lv_istore (lv' := [(5, .int (nI ((k * 4) + f))), (0, .ref (b + 116)), (1, .int (nI k)), (2, .int (nI f)), (3, .int x), (4, .int y)]) hx hb dX8_choose_5 hl (by decide) rfl (fun ls hl => ?_)
  refine lv_aload_n hx hb dX8_choose_7 rfl (lv_at hl 1 rfl) ?_
  refine sg_get (v := .ref (b + 123)) hx hb hts hown hK hM (sh10 kc_116) (kd_lt kc_116 (by decide)) rfl inX8 2 (by decide) wf_X8_22 rfl dX8_choose_8 ?_
  refine lv_iload hx hb dX8_choose_11 (lv_at hl 0 rfl) ?_
  refine lv_ldc (v := nI 99999999) hx hb hown (hts (Cond.constant RX8 50 (nI 99999999)) wk_X8_50) dX8_choose_13 ?_
  refine sg_iast hx hb hK hM sgA (fun f => sh11 kc_123) (kd_lt kc_123 (by decide)) (i := (k * 4) + f) (by omega) (by decide) dX8_choose_15 (fun H locs hM => ?_)
  refine lv_iconst (v := nI 0) hx hb dX8_choose_16 (by decide) ?_
  refine lv_istore (lv' := [(6, .int (nI 0)), (5, .int (nI ((k * 4) + f))), (0, .ref (b + 116)), (1, .int (nI k)), (2, .int (nI f)), (3, .int x), (4, .int y)]) hx hb dX8_choose_17 hl (by decide) rfl (fun ls hl => ?_)
  have L19 : ∀ (fuel : Nat) (w : Nat) (σ1 : Mem), (w ≤ 4) → (σ1 123 (k * 4 + f) = nI (tlN f x y w)) → (0 < w → σ1 122 (k * 4 + f) = nI (cwN f x y w)) → (∀ c, c ≠ 122 → c ≠ 123 → σ1 c = σ c) → (∀ i, i ≠ k * 4 + f → σ1 122 i = σ 122 i ∧ σ1 123 i = σ 123 i) → (4 - w) < fuel → ∀ (H : Heap) (locs : List Loc) (ls : Array Slot), St G (Fr b) b σ1 vs H locs → lv_has ls 8 [(0, .ref (b + 116)), (1, .int (nI k)), (2, .int (nI f)), (3, .int x), (4, .int y), (5, .int (nI (k * 4 + f))), (6, .int (nI w))] → W vp l ve (RM 2) vs vm args below meth vc H locs 0 0 Q (F0 vm 19 ls []) := by
    intro fuel
    induction fuel with
    | zero => intro w σ1 hw h1 h2 h3 h4 hF; exact absurd hF (Nat.not_lt_zero _)
    | succ fuel ih19 =>
      intro w σ1 hw h1 h2 h3 h4 hF H locs ls hM hl
      refine lv_iload hx hb dX8_choose_19 (lv_at hl 6 rfl) ?_
      refine lv_iconst (v := nI 4) hx hb dX8_choose_21 (by decide) ?_
      refine sn_icmp_ge (tgt := 75) hx hb dX8_choose_22 (by decide) (by omega) (by omega) (fun hlt => ?_) (fun hlt => ?_)
      · obtain rfl : w = 4 := by omega
        exact hret _ _ _ _ _ dX8_choose_75 hM (⟨⟨h1, h2 (by decide)⟩, h3, h4⟩)
      · refine lv_iload_n hx hb dX8_choose_25 rfl (lv_at hl 2 rfl) ?_
        refine lv_iload hx hb dX8_choose_26 (lv_at hl 6 rfl) ?_
        refine sg_ci (sg_runS (d := 0) (As := [.int (nI f), .int (nI w)]) (rest := []) hx hb hml hts hown hK hM (c_g_pointOf l G b σ1 f w (by first | omega | exact fam_lt _ _ _ _ _ | exact gf_lt _ | exact tf_lt _ | exact pt_lt (by first | omega | exact fam_lt _ _ _ _ _) (by omega) | exact tn_lt (by first | omega | exact pt_lt (by omega) (by omega))) (by first | omega | exact fam_lt _ _ _ _ _ | exact gf_lt _ | exact tf_lt _ | exact pt_lt (by first | omega | exact fam_lt _ _ _ _ _) (by omega) | exact tn_lt (by first | omega | exact pt_lt (by omega) (by omega)))) mi_X1_pointOf wl_X8_67 rfl hl.1 rfl (Nat.le_of_ble_eq_true rfl) dX8_choose_28 ⟨by decide, by decide⟩ ⟨Nat.le_refl 0, Nat.le_refl 0⟩) hM sgA (fun r_28 σ_28 H locs hp_28 hM => ?_)
        obtain ⟨hr_28, hs_28⟩ := hp_28; subst r_28; subst σ_28
        refine lv_iload_n hx hb dX8_choose_31 rfl (lv_at hl 3 rfl) ?_
        refine lv_iload hx hb dX8_choose_32 (lv_at hl 4 rfl) ?_
        refine sg_ci (sg_runS (d := 1) (As := [.int (nI (pt f w)), .int x, .int y]) (rest := []) hx hb hml hts hown hK hM (c_g_far l G b σ1 (pt f w) x y (by first | omega | exact fam_lt _ _ _ _ _ | exact gf_lt _ | exact tf_lt _ | exact pt_lt (by first | omega | exact fam_lt _ _ _ _ _) (by omega) | exact tn_lt (by first | omega | exact pt_lt (by omega) (by omega)))) mi_X1_farFrom wl_X8_73 rfl hl.1 rfl (Nat.le_of_ble_eq_true rfl) dX8_choose_34 ⟨by decide, by decide⟩ ⟨Nat.le_refl 0, Nat.le_refl 0⟩) hM sgA (fun r_34 σ_34 H locs hp_34 hM => ?_)
        obtain ⟨hr_34, hs_34⟩ := hp_34; subst r_34; subst σ_34
        refine sn_top (y := nI (dN (pt f w) x y)) ((far_dN hxy (pt_lt hf hlt)).1) ?_
        refine lv_istore (lv' := [(7, .int (nI (dN (pt f w) x y))), (0, .ref (b + 116)), (1, .int (nI k)), (2, .int (nI f)), (3, .int x), (4, .int y), (5, .int (nI (k * 4 + f))), (6, .int (nI w))]) hx hb dX8_choose_37 hl (by decide) rfl (fun ls hl => ?_)
        refine lv_iload hx hb dX8_choose_39 (lv_at hl 0 rfl) ?_
        refine lv_aload_n hx hb dX8_choose_41 rfl (lv_at hl 1 rfl) ?_
        refine sg_get (v := .ref (b + 123)) hx hb hts hown hK hM (sh10 kc_116) (kd_lt kc_116 (by decide)) rfl inX8 2 (by decide) wf_X8_22 rfl dX8_choose_42 ?_
        refine lv_iload hx hb dX8_choose_45 (lv_at hl 6 rfl) ?_
        refine sg_iald hx hb hK hM (sh11 kc_123) (kd_lt kc_123 (by decide)) (i := k * 4 + f) (by omega) (by decide) dX8_choose_47 ?_
        refine sn_top (y := nI (tlN f x y w)) (h1) ?_
        refine sn_icmp_ge (tgt := 69) hx hb dX8_choose_48 (by decide) (by have := (far_dN hxy (pt_lt hf hlt)).2; omega) (by have := tlN_le f x y w; omega) (fun c_48 => ?_) (fun c_48 => ?_)
        · refine lv_iinc (v := nI (w + 1)) (lv' := [(6, .int (nI (w + 1))), (7, .int (nI (dN (pt f w) x y))), (0, .ref (b + 116)), (1, .int (nI k)), (2, .int (nI f)), (3, .int x), (4, .int y), (5, .int (nI (k * 4 + f)))]) hx hb dX8_choose_69 hl (k := 7) rfl (q_inc _) (by decide) rfl (fun ls hl => ?_)
          refine lv_goto (tgt := 19) hx hb dX8_choose_72 (by decide) ?_
          exact ih19 (w + 1) σ1 (by omega) (by rw [tlN_s, if_neg (by omega)]; exact h1) (fun _ => by rw [cwN_s, if_neg (by omega)]; rcases Nat.eq_zero_or_pos w with q | q; exact absurd c_48 (by rw [q]; exact Nat.not_le.mpr (Nat.lt_of_le_of_lt (far_dN hxy (pt_lt hf (by decide))).2 (by show 40000 < NV; decide))); exact h2 q) h3 h4 (by omega) _ _ _ hM (lv_sub hl [2, 3, 4, 5, 6, 7, 0] rfl)
        · refine lv_aload_n hx hb dX8_choose_51 rfl (lv_at hl 1 rfl) ?_
          refine sg_get (v := .ref (b + 123)) hx hb hts hown hK hM (sh10 kc_116) (kd_lt kc_116 (by decide)) rfl inX8 2 (by decide) wf_X8_22 rfl dX8_choose_52 ?_
          refine lv_iload hx hb dX8_choose_55 (lv_at hl 6 rfl) ?_
          refine lv_iload hx hb dX8_choose_57 (lv_at hl 0 rfl) ?_
          refine sg_iast hx hb hK hM sgA (fun f => sh11 kc_123) (kd_lt kc_123 (by decide)) (i := k * 4 + f) (by omega) (by decide) dX8_choose_59 (fun H locs hM => ?_)
          refine lv_aload_n hx hb dX8_choose_60 rfl (lv_at hl 1 rfl) ?_
          refine sg_get (v := .ref (b + 122)) hx hb hts hown hK hM (sh10 kc_116) (kd_lt kc_116 (by decide)) rfl inX8 1 (by decide) wf_X8_18 rfl dX8_choose_61 ?_
          refine lv_iload hx hb dX8_choose_64 (lv_at hl 6 rfl) ?_
          refine lv_iload hx hb dX8_choose_66 (lv_at hl 7 rfl) ?_
          refine sg_iast hx hb hK hM sgA (fun f => sh11 kc_122) (kd_lt kc_122 (by decide)) (i := k * 4 + f) (by omega) (by decide) dX8_choose_68 (fun H locs hM => ?_)
          refine lv_iinc (v := nI (w + 1)) (lv' := [(6, .int (nI (w + 1))), (7, .int (nI (dN (pt f w) x y))), (0, .ref (b + 116)), (1, .int (nI k)), (2, .int (nI f)), (3, .int x), (4, .int y), (5, .int (nI (k * 4 + f)))]) hx hb dX8_choose_69 hl (k := 7) rfl (q_inc _) (by decide) rfl (fun ls hl => ?_)
          refine lv_goto (tgt := 19) hx hb dX8_choose_72 (by decide) ?_
          exact ih19 (w + 1) (m2 (m2 σ1 123 (k * 4 + f) (nI (dN (pt f w) x y))) 122 (k * 4 + f) (nI w)) (by omega) (by rw [m2_o (by decide), m2_ss, tlN_s, if_pos c_48]) (fun _ => by rw [m2_ss, cwN_s, if_pos c_48]) (fun c a1 a2 => by rw [m2_o a1, m2_o a2]; exact h3 c a1 a2) (fun i hi => ⟨by rw [m2_sn hi, m2_o (by decide)]; exact (h4 i hi).1, by rw [m2_o (by decide), m2_sn hi]; exact (h4 i hi).2⟩) (by omega) _ _ _ hM (lv_sub hl [2, 3, 4, 5, 6, 7, 0] rfl)
  exact L19 (_ + 1) 0 (m2 σ 123 ((k * 4) + f) (nI 99999999)) (by omega) (by rw [m2_ss]; rfl) (fun q => absurd q (by decide)) (fun c a1 a2 => by rw [m2_o a2]) (fun i hi => ⟨by rw [m2_o (by decide)], by rw [m2_sn hi]⟩) (Nat.lt_succ_self _) _ _ _ hM (lv_sub hl [2, 3, 4, 5, 6, 1, 0] rfl)
set_option maxHeartbeats 4000000 in
set_option maxRecDepth 100000 in
theorem c_Se_weigh (l : Launch) (G : GT) (b : Nat) (σ : Mem) (A : Rec) (n : Nat) (hR : ROk A) (hA : CM σ 1 A) (hn : n ≤ rN A) : KV l G b yX8_weigh cX8_weigh 5 3 σ [.ref (b + 116), .ref (b + 8), .int (nI n)] (fun σ' => (∀ k, k < n → ∀ f, f < 4 → σ' 123 (k * 4 + f) = nI (tcA A k f) ∧ σ' 122 (k * 4 + f) = nI (cwA A k f)) ∧ ∀ c, c ≠ 122 → c ≠ 123 → σ' c = σ c) := by
  refine sg_metV [.ref (b + 116), .ref (b + 8), .int (nI n)] (by decide) (Nat.le_of_ble_eq_true rfl) ?_
  intro vp ve vs vm args below meth vc ls Q hx hb hml hown hts hK hM hl hret
  have hl : lv_has ls 5 [(0, .ref (b + 116)), (1, .ref (b + 8)), (2, .int (nI n))] := hl
  have hn24 := hR.2.1.2
  refine lv_iconst (v := nI 0) hx hb dX8_weigh_0 (by decide) ?_
  refine lv_istore_n (lv' := [(3, .int (nI 0)), (0, .ref (b + 116)), (1, .ref (b + 8)), (2, .int (nI n))]) hx hb dX8_weigh_1 rfl hl (by decide) rfl (fun ls hl => ?_)
  have L2 : ∀ (fuel : Nat) (k : Nat) (σ1 : Mem), (k ≤ n) → (∀ k1, k1 < k → ∀ f1, f1 < 4 → σ1 123 (k1 * 4 + f1) = nI (tcA A k1 f1) ∧ σ1 122 (k1 * 4 + f1) = nI (cwA A k1 f1)) → (∀ c, c ≠ 122 → c ≠ 123 → σ1 c = σ c) → (n - k) < fuel → ∀ (H : Heap) (locs : List Loc) (ls : Array Slot), St G (Fr b) b σ1 vs H locs → lv_has ls 5 [(0, .ref (b + 116)), (1, .ref (b + 8)), (2, .int (nI n)), (3, .int (nI k))] → W vp l ve (RM 3) vs vm args below meth vc H locs 0 0 Q (F0 vm 2 ls []) := by
    intro fuel
    induction fuel with
    | zero => intro k σ1 hk h1 h2 hF; exact absurd hF (Nat.not_lt_zero _)
    | succ fuel ih2 =>
      intro k σ1 hk h1 h2 hF H locs ls hM hl
      refine lv_iload_n hx hb dX8_weigh_2 rfl (lv_at hl 3 rfl) ?_
      refine lv_iload_n hx hb dX8_weigh_3 rfl (lv_at hl 2 rfl) ?_
      refine sn_icmp_ge (tgt := 47) hx hb dX8_weigh_4 (by decide) (by omega) (by omega) (fun hlt => ?_) (fun hlt => ?_)
      · obtain rfl : k = n := by omega
        exact hret _ _ _ _ _ dX8_weigh_47 hM (⟨h1, h2⟩)
      · refine lv_iconst (v := nI 0) hx hb dX8_weigh_7 (by decide) ?_
        refine lv_istore (lv' := [(4, .int (nI 0)), (0, .ref (b + 116)), (1, .ref (b + 8)), (2, .int (nI n)), (3, .int (nI k))]) hx hb dX8_weigh_8 hl (by decide) rfl (fun ls hl => ?_)
        have L10 : ∀ (fuel : Nat) (f : Nat) (σ2 : Mem), (f ≤ 4) → (∀ k1, k1 < k → ∀ f1, f1 < 4 → σ2 123 (k1 * 4 + f1) = nI (tcA A k1 f1) ∧ σ2 122 (k1 * 4 + f1) = nI (cwA A k1 f1)) → (∀ f1, f1 < f → σ2 123 (k * 4 + f1) = nI (tcA A k f1) ∧ σ2 122 (k * 4 + f1) = nI (cwA A k f1)) → (∀ c, c ≠ 122 → c ≠ 123 → σ2 c = σ c) → (4 - f) < fuel → ∀ (H : Heap) (locs : List Loc) (ls : Array Slot), St G (Fr b) b σ2 vs H locs → lv_has ls 5 [(0, .ref (b + 116)), (1, .ref (b + 8)), (2, .int (nI n)), (3, .int (nI k)), (4, .int (nI f))] → W vp l ve (RM 3) vs vm args below meth vc H locs 0 0 Q (F0 vm 10 ls []) := by
          intro fuel
          induction fuel with
          | zero => intro f σ2 hf h3 h4 h5 hF; exact absurd hF (Nat.not_lt_zero _)
          | succ fuel ih10 =>
            intro f σ2 hf h3 h4 h5 hF H locs ls hM hl
            refine lv_iload hx hb dX8_weigh_10 (lv_at hl 4 rfl) ?_
            refine lv_iconst (v := nI 4) hx hb dX8_weigh_12 (by decide) ?_
            refine sn_icmp_ge (tgt := 41) hx hb dX8_weigh_13 (by decide) (by omega) (by omega) (fun hltf => ?_) (fun hltf => ?_)
            · refine lv_iinc (v := nI (k + 1)) (lv' := [(3, .int (nI (k + 1))), (0, .ref (b + 116)), (1, .ref (b + 8)), (2, .int (nI n)), (4, .int (nI f))]) hx hb dX8_weigh_41 hl (k := 3) rfl (q_inc _) (by decide) rfl (fun ls hl => ?_)
              refine lv_goto (tgt := 2) hx hb dX8_weigh_44 (by decide) ?_
              exact ih2 (k + 1) σ2 (by omega) (fun k1 a f1 c => if e : k1 = k then (by subst e; exact h4 f1 (by omega)) else h3 k1 (by omega) f1 c) h5 (by omega) _ _ _ hM (lv_sub hl [1, 2, 3, 0] rfl)
            · refine lv_aload_n hx hb dX8_weigh_16 rfl (lv_at hl 0 rfl) ?_
              refine lv_iload_n hx hb dX8_weigh_17 rfl (lv_at hl 3 rfl) ?_
              refine lv_iload hx hb dX8_weigh_18 (lv_at hl 4 rfl) ?_
              refine lv_aload_n hx hb dX8_weigh_20 rfl (lv_at hl 1 rfl) ?_
              refine sg_get (v := .ref (b + 9)) hx hb hts hown hK hM (sh5 kc_8) (kd_lt kc_8 (by decide)) rfl inX6 1 (by decide) wf_X8_55 rfl dX8_weigh_21 ?_
              refine lv_iload_n hx hb dX8_weigh_24 rfl (lv_at hl 3 rfl) ?_
              refine sg_iald hx hb hK hM (sh4 kc_9) (kd_lt kc_9 (by decide)) (i := k) (by omega) (by decide) dX8_weigh_25 ?_
              refine sn_top (y := rX A k) (by rw [h5 9 (by decide) (by decide)]; exact (hA.2.2.2.2.2 k (by omega)).1) ?_
              refine lv_aload_n hx hb dX8_weigh_26 rfl (lv_at hl 1 rfl) ?_
              refine sg_get (v := .ref (b + 10)) hx hb hts hown hK hM (sh5 kc_8) (kd_lt kc_8 (by decide)) rfl inX6 2 (by decide) wf_X8_60 rfl dX8_weigh_27 ?_
              refine lv_iload_n hx hb dX8_weigh_30 rfl (lv_at hl 3 rfl) ?_
              refine sg_iald hx hb hK hM (sh4 kc_10) (kd_lt kc_10 (by decide)) (i := k) (by omega) (by decide) dX8_weigh_31 ?_
              refine sn_top (y := rY A k) (by rw [h5 10 (by decide) (by decide)]; exact (hA.2.2.2.2.2 k (by omega)).2) ?_
              refine sg_cv (sg_runV (d := 2) (As := [.int (nI k), .int (nI f), .int (rX A k), .int (rY A k)]) (rest := []) hx hb hml hts hown hK hM (c_Se_choose l G b σ2 k f (rX A k) (rY A k) (by omega) hltf (hR.2.2.2.1 k (by omega))) mi_X8_choose wl_X8_63 (sh10 kc_116) (kd_lt kc_116 (by decide)) rfl rfl rfl hl.1 rfl (Nat.le_of_ble_eq_true rfl) dX8_weigh_32 ⟨by decide, by decide⟩ ⟨Nat.le_refl 0, Nat.le_refl 0⟩) hM sgA (fun σ3 H locs hq hM => ?_)
              refine lv_iinc (v := nI (f + 1)) (lv' := [(4, .int (nI (f + 1))), (0, .ref (b + 116)), (1, .ref (b + 8)), (2, .int (nI n)), (3, .int (nI k))]) hx hb dX8_weigh_35 hl (k := 4) rfl (q_inc _) (by decide) rfl (fun ls hl => ?_)
              refine lv_goto (tgt := 10) hx hb dX8_weigh_38 (by decide) ?_
              exact ih10 (f + 1) σ3 (by omega) (fun k1 a f1 c => by rw [(hq.2.2 _ (by omega)).1, (hq.2.2 _ (by omega)).2]; exact h3 k1 a f1 c) (fun f1 q => if e : f1 = f then (by subst e; exact hq.1) else (by rw [(hq.2.2 _ (by omega)).1, (hq.2.2 _ (by omega)).2]; exact h4 f1 (by omega))) (fun c a1 a2 => by rw [hq.2.1 c a1 a2]; exact h5 c a1 a2) (by omega) _ _ _ hM (lv_sub hl [1, 2, 3, 4, 0] rfl)
        exact L10 (_ + 1) 0 σ1 (by omega) h1 (fun f1 q => absurd q (by omega)) h2 (Nat.lt_succ_self _) _ _ _ hM (lv_sub hl [1, 2, 3, 4, 0] rfl)
  exact L2 (_ + 1) 0 σ (by omega) (fun k1 q => absurd q (by omega)) (fun _ _ _ => rfl) (Nat.lt_succ_self _) _ _ _ hM (lv_sub hl [1, 2, 3, 0] rfl)
set_option maxHeartbeats 4000000 in
set_option maxRecDepth 100000 in
theorem c_Se_restBy (l : Launch) (G : GT) (b : Nat) (σ : Mem) (m g h k s u v t : Nat) (hc : CodeAt σ 2 m g h) (hk : k < 24) (hs : s < 2 ^ m) (hu : u < 2) (hv : σ 124 ((k + 1) * 8 + nx m s u) = nI v) (ht : σ 123 (k * 4 + fam m g h s u) = nI t) (hv1 : v ≤ NV) (ht1 : t ≤ 40000) : KI l G b yX8_restBy cX8_restBy 6 2 σ [.ref (b + 116), .ref (b + 2), .int (nI k), .int (nI s), .int (nI u)] (fun r σ' => r = nI (stp v t) ∧ σ' = σ) := by
  refine sg_metI [.ref (b + 116), .ref (b + 2), .int (nI k), .int (nI s), .int (nI u)] (by decide) (Nat.le_of_ble_eq_true rfl) ?_
  intro vp ve vs vm args below meth vc ls Q hx hb hml hown hts hK hM hl hret
  have hl : lv_has ls 6 [(0, .ref (b + 116)), (1, .ref (b + 2)), (2, .int (nI k)), (3, .int (nI s)), (4, .int (nI u))] := hl
  have hm8 := p2_le hc.m
  have hnx := nx_lt hu hs
  have hfm := fam_lt m g h s u
  have hNV : NV = 99999999 := rfl
  refine lv_aload_n hx hb dX8_restBy_0 rfl (lv_at hl 0 rfl) ?_
  refine sg_get (v := .ref (b + 124)) hx hb hts hown hK hM (sh10 kc_116) (kd_lt kc_116 (by decide)) rfl inX8 3 (by decide) wf_X8_25 rfl dX8_restBy_1 ?_
  refine lv_iload_n hx hb dX8_restBy_4 rfl (lv_at hl 2 rfl) ?_
  refine lv_iconst (v := nI 1) hx hb dX8_restBy_5 (by decide) ?_
  refine sn_iadd hx hb dX8_restBy_6 ?_
  refine lv_bipush (v := nI 8) hx hb dX8_restBy_7 (by decide) ?_
  refine sn_imul hx hb dX8_restBy_9 ?_
  refine lv_aload_n hx hb dX8_restBy_10 rfl (lv_at hl 1 rfl) ?_
  refine lv_iload_n hx hb dX8_restBy_11 rfl (lv_at hl 3 rfl) ?_
  refine lv_iload hx hb dX8_restBy_12 (lv_at hl 4 rfl) ?_
  refine sg_ci (sg_runV (d := 1) (As := [.int (nI s), .int (nI u)]) (rest := [.int (nI ((k + 1) * 8)), .ref (b + 124)]) hx hb hml hts hown hK hM (c_Code_next l G b σ 2 m g h s u kc_2 (hc) (hu) (hs)) mi_X0_stateAfter wl_X8_92 (sh2 kc_2) (kd_lt kc_2 (by decide)) rfl rfl rfl hl.1 rfl (Nat.le_of_ble_eq_true rfl) dX8_restBy_14 ⟨by decide, by decide⟩ ⟨Nat.le_refl 0, Nat.le_refl 0⟩) hM sgA (fun r_14 σ_14 H locs hp_14 hM => ?_)
  obtain ⟨hr_14, hs_14⟩ := hp_14; subst r_14; subst σ_14
  refine sn_iadd hx hb dX8_restBy_17 ?_
  refine sg_iald hx hb hK hM (sh12 kc_124) (kd_lt kc_124 (by decide)) (i := ((k + 1) * 8) + (nx m s u)) (by omega) (by decide) dX8_restBy_18 ?_
  refine sn_top (y := nI v) (hv) ?_
  refine lv_istore (lv' := [(5, .int (nI v)), (0, .ref (b + 116)), (1, .ref (b + 2)), (2, .int (nI k)), (3, .int (nI s)), (4, .int (nI u))]) hx hb dX8_restBy_19 hl (by decide) rfl (fun ls hl => ?_)
  refine lv_iload hx hb dX8_restBy_21 (lv_at hl 0 rfl) ?_
  refine lv_ldc (v := nI 99999999) hx hb hown (hts (Cond.constant RX8 50 (nI 99999999)) wk_X8_50) dX8_restBy_23 ?_
  refine sn_icmp_ne (tgt := 31) hx hb dX8_restBy_25 (by decide) (by omega) (by omega) (fun c_25 => ?_) (fun c_25 => ?_)
  · refine lv_iload hx hb dX8_restBy_31 (lv_at hl 0 rfl) ?_
    refine lv_aload_n hx hb dX8_restBy_33 rfl (lv_at hl 1 rfl) ?_
    refine sg_get (v := .ref (b + 123)) hx hb hts hown hK hM (sh10 kc_116) (kd_lt kc_116 (by decide)) rfl inX8 2 (by decide) wf_X8_22 rfl dX8_restBy_34 ?_
    refine lv_iload_n hx hb dX8_restBy_37 rfl (lv_at hl 3 rfl) ?_
    refine lv_iconst (v := nI 4) hx hb dX8_restBy_38 (by decide) ?_
    refine sn_imul hx hb dX8_restBy_39 ?_
    refine lv_aload_n hx hb dX8_restBy_40 rfl (lv_at hl 2 rfl) ?_
    refine lv_iload_n hx hb dX8_restBy_41 rfl (lv_at hl 4 rfl) ?_
    refine lv_iload hx hb dX8_restBy_42 (lv_at hl 5 rfl) ?_
    refine sg_ci (sg_runV (d := 1) (As := [.int (nI s), .int (nI u)]) (rest := [.int (nI (k * 4)), .ref (b + 123), .int (nI v)]) hx hb hml hts hown hK hM (c_Code_fam l G b σ 2 m g h s u kc_2 (hc) (hu) (hs)) mi_X0_familyFrom wl_X8_95 (sh2 kc_2) (kd_lt kc_2 (by decide)) rfl rfl rfl hl.1 rfl (Nat.le_of_ble_eq_true rfl) dX8_restBy_44 ⟨by decide, by decide⟩ ⟨Nat.le_refl 0, Nat.le_refl 0⟩) hM sgA (fun r_44 σ_44 H locs hp_44 hM => ?_)
    obtain ⟨hr_44, hs_44⟩ := hp_44; subst r_44; subst σ_44
    refine sn_iadd hx hb dX8_restBy_47 ?_
    refine sg_iald hx hb hK hM (sh11 kc_123) (kd_lt kc_123 (by decide)) (i := (k * 4) + (fam m g h s u)) (by omega) (by decide) dX8_restBy_48 ?_
    refine sn_top (y := nI t) (ht) ?_
    refine sn_iadd hx hb dX8_restBy_49 ?_
    exact hret _ _ _ _ _ _ dX8_restBy_50 hM (⟨by unfold stp; first | rw [if_pos (by omega)] | rw [if_neg (by omega)], rfl⟩)
  · refine lv_ldc (v := nI 99999999) hx hb hown (hts (Cond.constant RX8 50 (nI 99999999)) wk_X8_50) dX8_restBy_28 ?_
    exact hret _ _ _ _ _ _ dX8_restBy_30 hM (⟨by unfold stp; first | rw [if_pos (by omega)] | rw [if_neg (by omega)], rfl⟩)
set_option maxHeartbeats 4000000 in
set_option maxRecDepth 100000 in
theorem c_Se_reckon (l : Launch) (G : GT) (b : Nat) (σ : Mem) (A : Rec) (n : Nat) (e : Int32) (hR : ROk A) (hA : CM σ 1 A) (hn : n ≤ rN A) (hT : ∀ k, k < n → ∀ f, f < 4 → σ 123 (k * 4 + f) = nI (tcA A k f) ∧ σ 122 (k * 4 + f) = nI (cwA A k f)) : KV l G b yX8_reckon cX8_reckon 6 3 σ [.ref (b + 116), .ref (b + 2), .int (nI n), .int e] (fun σ' => (∀ k, k ≤ n → ∀ s, s < 2 ^ rM A → σ' 124 (k * 8 + s) = nI (dA A n e (n - k) s)) ∧ ∀ c, c ≠ 124 → σ' c = σ c) := by
  refine sg_metV [.ref (b + 116), .ref (b + 2), .int (nI n), .int e] (by decide) (Nat.le_of_ble_eq_true rfl) ?_
  intro vp ve vs vm args below meth vc ls Q hx hb hml hown hts hK hM hl hret
  have hl : lv_has ls 6 [(0, .ref (b + 116)), (1, .ref (b + 2)), (2, .int (nI n)), (3, .int e)] := hl
  have hn24 := hR.2.1.2
  have hm8 := p2_le hR.1.1.2
  have hB : ∀ k, k < n → ∀ f, f < 4 → tcA A k f ≤ 40000 := fun k hk f hf => tcA_le hR k (by omega) f hf
  refine lv_iconst (v := nI 0) hx hb dX8_reckon_0 (by decide) ?_
  refine lv_istore (lv' := [(4, .int (nI 0)), (0, .ref (b + 116)), (1, .ref (b + 2)), (2, .int (nI n)), (3, .int e)]) hx hb dX8_reckon_1 hl (by decide) rfl (fun ls hl => ?_)
  have L3 : ∀ (fuel : Nat) (i : Nat) (σ1 : Mem), (i ≤ 8) → (∀ i1, i1 < i → σ1 124 (n * 8 + i1) = nI (dA A n e 0 i1)) → (∀ c, c ≠ 124 → σ1 c = σ c) → (8 - i) < fuel → ∀ (H : Heap) (locs : List Loc) (ls : Array Slot), St G (Fr b) b σ1 vs H locs → lv_has ls 6 [(0, .ref (b + 116)), (1, .ref (b + 2)), (2, .int (nI n)), (3, .int e), (4, .int (nI i))] → W vp l ve (RM 3) vs vm args below meth vc H locs 0 0 Q (F0 vm 3 ls []) := by
    intro fuel
    induction fuel with
    | zero => intro i σ1 hi h1 h2 hF; exact absurd hF (Nat.not_lt_zero _)
    | succ fuel ih3 =>
      intro i σ1 hi h1 h2 hF H locs ls hM hl
      refine lv_iload hx hb dX8_reckon_3 (lv_at hl 4 rfl) ?_
      refine lv_bipush (v := nI 8) hx hb dX8_reckon_5 (by decide) ?_
      refine sn_icmp_ge (tgt := 45) hx hb dX8_reckon_7 (by decide) (by omega) (by omega) (fun hlt8 => ?_) (fun hlt8 => ?_)
      · refine lv_iload_n hx hb dX8_reckon_45 rfl (lv_at hl 2 rfl) ?_
        refine lv_iconst (v := nI 1) hx hb dX8_reckon_46 (by decide) ?_
        refine lv_isub hx hb dX8_reckon_47 ?_
        refine lv_istore (lv' := [(4, .int ((nI n) - (nI 1))), (0, .ref (b + 116)), (1, .ref (b + 2)), (2, .int (nI n)), (3, .int e)]) hx hb dX8_reckon_48 hl (by decide) rfl (fun ls hl => ?_)
        have L50 : ∀ (fuel : Nat) (j : Nat) (σ2 : Mem), (j ≤ n) → (∀ k, j ≤ k → k ≤ n → ∀ s, s < 2 ^ rM A → σ2 124 (k * 8 + s) = nI (dA A n e (n - k) s)) → (∀ c, c ≠ 124 → σ2 c = σ c) → (j) < fuel → ∀ (H : Heap) (locs : List Loc) (ls : Array Slot), St G (Fr b) b σ2 vs H locs → lv_has ls 6 [(0, .ref (b + 116)), (1, .ref (b + 2)), (2, .int (nI n)), (3, .int e), (4, .int (nI j - nI 1))] → W vp l ve (RM 3) vs vm args below meth vc H locs 0 0 Q (F0 vm 50 ls []) := by
          intro fuel
          induction fuel with
          | zero => intro j σ2 hj h3 h4 hF; exact absurd hF (Nat.not_lt_zero _)
          | succ fuel ih50 =>
            intro j σ2 hj h3 h4 hF H locs ls hM hl
            refine lv_iload hx hb dX8_reckon_50 (lv_at hl 4 rfl) ?_
            refine lv_if_lt (tgt := 115) hx hb dX8_reckon_52 (by decide) (fun c_52 => ?_) (fun c_52 => ?_)
            · have ej := q_neg (by omega) c_52
              exact hret _ _ _ _ _ dX8_reckon_115 hM (by subst ej; exact ⟨fun k a s hs => h3 k (Nat.zero_le _) a s hs, h4⟩)
            · have hj1 := q_nneg c_52
              rw [pk_sub (show 1 ≤ j from hj1)] at hl
              have hl : lv_has ls 6 [(0, .ref (b + 116)), (1, .ref (b + 2)), (2, .int (nI n)), (3, .int e), (4, .int (nI (j - 1)))] := hl
              refine lv_iconst (v := nI 0) hx hb dX8_reckon_55 (by decide) ?_
              refine lv_istore (lv' := [(5, .int (nI 0)), (0, .ref (b + 116)), (1, .ref (b + 2)), (2, .int (nI n)), (3, .int e), (4, .int (nI (j - 1)))]) hx hb dX8_reckon_56 hl (by decide) rfl (fun ls hl => ?_)
              have L58 : ∀ (fuel : Nat) (s : Nat) (σ3 : Mem), (s ≤ 2 ^ rM A) → (∀ k, j ≤ k → k ≤ n → ∀ s, s < 2 ^ rM A → σ3 124 (k * 8 + s) = nI (dA A n e (n - k) s)) → (∀ s1, s1 < s → σ3 124 ((j - 1) * 8 + s1) = nI (dA A n e (n - (j - 1)) s1)) → (∀ c, c ≠ 124 → σ3 c = σ c) → (2 ^ rM A - s) < fuel → ∀ (H : Heap) (locs : List Loc) (ls : Array Slot), St G (Fr b) b σ3 vs H locs → lv_has ls 6 [(0, .ref (b + 116)), (1, .ref (b + 2)), (2, .int (nI n)), (3, .int e), (4, .int (nI (j - 1))), (5, .int (nI s))] → W vp l ve (RM 3) vs vm args below meth vc H locs 0 0 Q (F0 vm 58 ls []) := by
                intro fuel
                induction fuel with
                | zero => intro s σ3 hs h7 h8 h9 hF; exact absurd hF (Nat.not_lt_zero _)
                | succ fuel ih58 =>
                  intro s σ3 hs h7 h8 h9 hF H locs ls hM hl
                  refine lv_iload hx hb dX8_reckon_58 (lv_at hl 5 rfl) ?_
                  refine lv_aload_n hx hb dX8_reckon_60 rfl (lv_at hl 1 rfl) ?_
                  refine sg_ci (sg_runV (d := 0) (As := []) (rest := [.int (nI s)]) hx hb hml hts hown hK hM (c_Code_states l G b σ3 2 (rM A) (rG A) (rH A) kc_2 (hA.1.keep (h9 2 (by decide)))) mi_X0_states wl_X8_77 (sh2 kc_2) (kd_lt kc_2 (by decide)) rfl rfl rfl hl.1 rfl (Nat.le_of_ble_eq_true rfl) dX8_reckon_61 ⟨by decide, by decide⟩ ⟨Nat.le_refl 0, Nat.le_refl 0⟩) hM sgA (fun r_61 σ_61 H locs hp_61 hM => ?_)
                  obtain ⟨hr_61, hs_61⟩ := hp_61; subst r_61; subst σ_61
                  refine sn_icmp_ge (tgt := 109) hx hb dX8_reckon_64 (by decide) (by omega) (by omega) (fun hlts => ?_) (fun hlts => ?_)
                  · refine lv_iinc (v := nI (j - 1) - nI 1) (lv' := [(4, .int (nI (j - 1) - nI 1)), (0, .ref (b + 116)), (1, .ref (b + 2)), (2, .int (nI n)), (3, .int e), (5, .int (nI s))]) hx hb dX8_reckon_109 hl (k := 4) rfl (q_dec1 _) (by decide) rfl (fun ls hl => ?_)
                    refine lv_goto (tgt := 50) hx hb dX8_reckon_112 (by decide) ?_
                    exact ih50 (j - 1) σ3 (by omega) (fun k a1 a2 s1 hs1 => if e1 : k = j - 1 then (by subst e1; exact h8 s1 (by omega)) else h7 k (by omega) a2 s1 hs1) h9 (by omega) _ _ _ hM (lv_sub hl [1, 2, 3, 4, 0] rfl)
                  · refine lv_aload_n hx hb dX8_reckon_67 rfl (lv_at hl 0 rfl) ?_
                    refine sg_get (v := .ref (b + 124)) hx hb hts hown hK hM (sh10 kc_116) (kd_lt kc_116 (by decide)) rfl inX8 3 (by decide) wf_X8_25 rfl dX8_reckon_68 ?_
                    refine lv_iload hx hb dX8_reckon_71 (lv_at hl 4 rfl) ?_
                    refine lv_bipush (v := nI 8) hx hb dX8_reckon_73 (by decide) ?_
                    refine sn_imul hx hb dX8_reckon_75 ?_
                    refine lv_iload hx hb dX8_reckon_76 (lv_at hl 5 rfl) ?_
                    refine sn_iadd hx hb dX8_reckon_78 ?_
                    refine lv_aload_n hx hb dX8_reckon_79 rfl (lv_at hl 0 rfl) ?_
                    refine lv_aload_n hx hb dX8_reckon_80 rfl (lv_at hl 1 rfl) ?_
                    refine lv_iload hx hb dX8_reckon_81 (lv_at hl 4 rfl) ?_
                    refine lv_iload hx hb dX8_reckon_83 (lv_at hl 5 rfl) ?_
                    refine lv_iconst (v := nI 0) hx hb dX8_reckon_85 (by decide) ?_
                    refine sg_ci (sg_runV (d := 2) (As := [.ref (b + 2), .int (nI (j - 1)), .int (nI s), .int (nI 0)]) (rest := [.int (nI (((j - 1) * 8) + s)), .ref (b + 124)]) hx hb hml hts hown hK hM (c_Se_restBy l G b σ3 (rM A) (rG A) (rH A) (j - 1) s 0 (dA A n e (n - j) (nx (rM A) s 0)) (tcA A (j - 1) (fam (rM A) (rG A) (rH A) s 0)) (hA.1.keep (h9 2 (by decide))) (by omega) (by omega) (by decide) (by have q := h7 j (by omega) (by omega) (nx (rM A) s 0) (nx_lt (by decide) hlts); rw [show j - 1 + 1 = j by omega]; exact q) (by rw [h9 123 (by decide)]; exact (hT (j - 1) (by omega) _ (fam_lt _ _ _ _ _)).1) (dp_le (by omega) hB (by omega) _) (hB _ (by omega) _ (fam_lt _ _ _ _ _))) mi_X8_restBy wl_X8_83 (sh10 kc_116) (kd_lt kc_116 (by decide)) rfl rfl rfl hl.1 rfl (Nat.le_of_ble_eq_true rfl) dX8_reckon_86 ⟨by decide, by decide⟩ ⟨Nat.le_refl 0, Nat.le_refl 0⟩) hM sgA (fun r_86 σ_86 H locs hp_86 hM => ?_)
                    obtain ⟨hr_86, hs_86⟩ := hp_86; subst r_86; subst σ_86
                    refine lv_aload_n hx hb dX8_reckon_89 rfl (lv_at hl 0 rfl) ?_
                    refine lv_aload_n hx hb dX8_reckon_90 rfl (lv_at hl 1 rfl) ?_
                    refine lv_iload hx hb dX8_reckon_91 (lv_at hl 4 rfl) ?_
                    refine lv_iload hx hb dX8_reckon_93 (lv_at hl 5 rfl) ?_
                    refine lv_iconst (v := nI 1) hx hb dX8_reckon_95 (by decide) ?_
                    refine sg_ci (sg_runV (d := 2) (As := [.ref (b + 2), .int (nI (j - 1)), .int (nI s), .int (nI 1)]) (rest := [.int (nI (stp (dA A n e (n - j) (nx (rM A) s 0)) (tcA A (j - 1) (fam (rM A) (rG A) (rH A) s 0)))), .int (nI (((j - 1) * 8) + s)), .ref (b + 124)]) hx hb hml hts hown hK hM (c_Se_restBy l G b σ3 (rM A) (rG A) (rH A) (j - 1) s 1 (dA A n e (n - j) (nx (rM A) s 1)) (tcA A (j - 1) (fam (rM A) (rG A) (rH A) s 1)) (hA.1.keep (h9 2 (by decide))) (by omega) (by omega) (by decide) (by have q := h7 j (by omega) (by omega) (nx (rM A) s 1) (nx_lt (by decide) hlts); rw [show j - 1 + 1 = j by omega]; exact q) (by rw [h9 123 (by decide)]; exact (hT (j - 1) (by omega) _ (fam_lt _ _ _ _ _)).1) (dp_le (by omega) hB (by omega) _) (hB _ (by omega) _ (fam_lt _ _ _ _ _))) mi_X8_restBy wl_X8_83 (sh10 kc_116) (kd_lt kc_116 (by decide)) rfl rfl rfl hl.1 rfl (Nat.le_of_ble_eq_true rfl) dX8_reckon_96 ⟨by decide, by decide⟩ ⟨Nat.le_refl 0, Nat.le_refl 0⟩) hM sgA (fun r_96 σ_96 H locs hp_96 hM => ?_)
                    obtain ⟨hr_96, hs_96⟩ := hp_96; subst r_96; subst σ_96
                    refine va_mmin hx hb (by rw [hml]; exact hl.1.symm) hown (hts _ wl_X8_87) (hts _ ws_J9_min_7cf53) (hts _ wi_RJ9) (hts _ wc_J9_min_7cf53) (by decide) (Nat.le_of_ble_eq_true rfl) (Nat.le_refl 0) (Nat.le_refl 0) dX8_reckon_99 ?_
                    refine sn_top (y := nI (min (stp (dA A n e (n - j) (nx (rM A) s 0)) (tcA A (j - 1) (fam (rM A) (rG A) (rH A) s 0))) (stp (dA A n e (n - j) (nx (rM A) s 1)) (tcA A (j - 1) (fam (rM A) (rG A) (rH A) s 1))))) (q_min (stp_le (dp_le (by omega) hB (by omega) _) (hB _ (by omega) _ (fam_lt _ _ _ _ _))) (stp_le (dp_le (by omega) hB (by omega) _) (hB _ (by omega) _ (fam_lt _ _ _ _ _)))) ?_
                    refine sg_iast hx hb hK hM sgA (fun f => sh12 kc_124) (kd_lt kc_124 (by decide)) (i := ((j - 1) * 8) + s) (by omega) (by decide) dX8_reckon_102 (fun H locs hM => ?_)
                    refine lv_iinc (v := nI (s + 1)) (lv' := [(5, .int (nI (s + 1))), (0, .ref (b + 116)), (1, .ref (b + 2)), (2, .int (nI n)), (3, .int e), (4, .int (nI (j - 1)))]) hx hb dX8_reckon_103 hl (k := 5) rfl (q_inc _) (by decide) rfl (fun ls hl => ?_)
                    refine lv_goto (tgt := 58) hx hb dX8_reckon_106 (by decide) ?_
                    exact ih58 (s + 1) (m2 σ3 124 (((j - 1) * 8) + s) (nI (min (stp (dA A n e (n - j) (nx (rM A) s 0)) (tcA A (j - 1) (fam (rM A) (rG A) (rH A) s 0))) (stp (dA A n e (n - j) (nx (rM A) s 1)) (tcA A (j - 1) (fam (rM A) (rG A) (rH A) s 1)))))) (by omega) (fun k a1 a2 s1 hs1 => by rw [m2_sn (by omega)]; exact h7 k a1 a2 s1 hs1) (fun s1 q => if e1 : s1 = s then (by subst e1; rw [m2_ss, show n - (j - 1) = n - j + 1 by omega, dA_s, show n - 1 - (n - j) = j - 1 by omega]) else (by rw [m2_sn (by omega)]; exact h8 s1 (by omega))) (fun c a1 => by rw [m2_o a1]; exact h9 c a1) (by omega) _ _ _ hM (lv_sub hl [1, 2, 3, 4, 5, 0] rfl)
              exact L58 (_ + 1) 0 σ2 (Nat.zero_le _) h3 (fun s1 q => absurd q (by omega)) h4 (Nat.lt_succ_self _) _ _ _ hM (lv_sub hl [1, 2, 3, 4, 5, 0] rfl)
        exact L50 (_ + 1) n σ1 (by omega) (fun k a1 a2 s hs => by rw [show k = n by omega, Nat.sub_self]; exact h1 s (by omega)) h2 (Nat.lt_succ_self _) _ _ _ hM (lv_sub hl [1, 2, 3, 4, 0] rfl)
      · refine lv_aload_n hx hb dX8_reckon_10 rfl (lv_at hl 0 rfl) ?_
        refine sg_get (v := .ref (b + 124)) hx hb hts hown hK hM (sh10 kc_116) (kd_lt kc_116 (by decide)) rfl inX8 3 (by decide) wf_X8_25 rfl dX8_reckon_11 ?_
        refine lv_iload_n hx hb dX8_reckon_14 rfl (lv_at hl 2 rfl) ?_
        refine lv_bipush (v := nI 8) hx hb dX8_reckon_15 (by decide) ?_
        refine sn_imul hx hb dX8_reckon_17 ?_
        refine lv_iload hx hb dX8_reckon_18 (lv_at hl 4 rfl) ?_
        refine sn_iadd hx hb dX8_reckon_20 ?_
        refine lv_iload_n hx hb dX8_reckon_21 rfl (lv_at hl 3 rfl) ?_
        refine lv_iconst (v := (-1)) hx hb dX8_reckon_22 (by decide) ?_
        refine lv_icmp_eq (tgt := 32) hx hb dX8_reckon_23 (by decide) (fun c_23 => ?_) (fun c_23 => ?_)
        · refine lv_iconst (v := nI 0) hx hb dX8_reckon_32 (by decide) ?_
          refine lv_goto (tgt := 38) hx hb dX8_reckon_33 (by decide) ?_
          refine sg_iast hx hb hK hM sgA (fun f => sh12 kc_124) (kd_lt kc_124 (by decide)) (i := (n * 8) + i) (by omega) (by decide) dX8_reckon_38 (fun H locs hM => ?_)
          refine lv_iinc (v := nI (i + 1)) (lv' := [(4, .int (nI (i + 1))), (0, .ref (b + 116)), (1, .ref (b + 2)), (2, .int (nI n)), (3, .int e)]) hx hb dX8_reckon_39 hl (k := 4) rfl (q_inc _) (by decide) rfl (fun ls hl => ?_)
          refine lv_goto (tgt := 3) hx hb dX8_reckon_42 (by decide) ?_
          exact ih3 (i + 1) (m2 σ1 124 ((n * 8) + i) (nI 0)) (by omega) (fun i1 q => if e1 : i1 = i then (by subst e1; rw [m2_ss]; unfold dp; first | rw [if_pos (Or.inl c_23)] | rw [if_pos (Or.inr c_29)] | rw [if_neg (fun q => q.elim c_23 c_29)]) else (by rw [m2_sn (by omega)]; exact h1 i1 (by omega))) (fun c a1 => by rw [m2_o a1]; exact h2 c a1) (by omega) _ _ _ hM (lv_sub hl [1, 2, 3, 4, 0] rfl)
        · refine lv_iload_n hx hb dX8_reckon_26 rfl (lv_at hl 3 rfl) ?_
          refine lv_iload hx hb dX8_reckon_27 (lv_at hl 4 rfl) ?_
          refine lv_icmp_ne (tgt := 36) hx hb dX8_reckon_29 (by decide) (fun c_29 => ?_) (fun c_29 => ?_)
          · refine lv_ldc (v := nI 99999999) hx hb hown (hts (Cond.constant RX8 50 (nI 99999999)) wk_X8_50) dX8_reckon_36 ?_
            refine sg_iast hx hb hK hM sgA (fun f => sh12 kc_124) (kd_lt kc_124 (by decide)) (i := (n * 8) + i) (by omega) (by decide) dX8_reckon_38 (fun H locs hM => ?_)
            refine lv_iinc (v := nI (i + 1)) (lv' := [(4, .int (nI (i + 1))), (0, .ref (b + 116)), (1, .ref (b + 2)), (2, .int (nI n)), (3, .int e)]) hx hb dX8_reckon_39 hl (k := 4) rfl (q_inc _) (by decide) rfl (fun ls hl => ?_)
            refine lv_goto (tgt := 3) hx hb dX8_reckon_42 (by decide) ?_
            exact ih3 (i + 1) (m2 σ1 124 ((n * 8) + i) (nI 99999999)) (by omega) (fun i1 q => if e1 : i1 = i then (by subst e1; rw [m2_ss]; unfold dp; first | rw [if_pos (Or.inl c_23)] | rw [if_pos (Or.inr c_29)] | rw [if_neg (fun q => q.elim c_23 c_29)]) else (by rw [m2_sn (by omega)]; exact h1 i1 (by omega))) (fun c a1 => by rw [m2_o a1]; exact h2 c a1) (by omega) _ _ _ hM (lv_sub hl [1, 2, 3, 4, 0] rfl)
          · refine lv_iconst (v := nI 0) hx hb dX8_reckon_32 (by decide) ?_
            refine lv_goto (tgt := 38) hx hb dX8_reckon_33 (by decide) ?_
            refine sg_iast hx hb hK hM sgA (fun f => sh12 kc_124) (kd_lt kc_124 (by decide)) (i := (n * 8) + i) (by omega) (by decide) dX8_reckon_38 (fun H locs hM => ?_)
            refine lv_iinc (v := nI (i + 1)) (lv' := [(4, .int (nI (i + 1))), (0, .ref (b + 116)), (1, .ref (b + 2)), (2, .int (nI n)), (3, .int e)]) hx hb dX8_reckon_39 hl (k := 4) rfl (q_inc _) (by decide) rfl (fun ls hl => ?_)
            refine lv_goto (tgt := 3) hx hb dX8_reckon_42 (by decide) ?_
            exact ih3 (i + 1) (m2 σ1 124 ((n * 8) + i) (nI 0)) (by omega) (fun i1 q => if e1 : i1 = i then (by subst e1; rw [m2_ss]; unfold dp; first | rw [if_pos (Or.inl c_23)] | rw [if_pos (Or.inr c_29)] | rw [if_neg (fun q => q.elim c_23 c_29)]) else (by rw [m2_sn (by omega)]; exact h1 i1 (by omega))) (fun c a1 => by rw [m2_o a1]; exact h2 c a1) (by omega) _ _ _ hM (lv_sub hl [1, 2, 3, 4, 0] rfl)
  exact L3 (_ + 1) 0 σ (by omega) (fun k1 q => absurd q (by omega)) (fun _ _ => rfl) (Nat.lt_succ_self _) _ _ _ hM (lv_sub hl [1, 2, 3, 4, 0] rfl)
theorem rowN_s {σ : Mem} {A : Rec} {n : Nat} {e : Int32} {k : Nat} (h : RowN σ A n e k) : RowN (rowApp σ 117 k (uA A n e k) (wA A n e k) (pt (fam (rM A) (rG A) (rH A) (sA A n e k) (uA A n e k)) (wA A n e k)) (nx (rM A) (sA A n e k) (uA A n e k))) A n e (k + 1) := by
  unfold rowApp
  refine ⟨m2_ss, fun i hi => ?_⟩
  rw [m2_o (by decide), m2_o (by decide), m2_o (by decide), m2_o (by decide)]
  by_cases e1 : i = k
  · subst e1
    rw [m2_ss]
    refine ⟨rfl, ?_, ?_, ?_⟩
    · rw [m2_o (by decide), m2_o (by decide), m2_o (by decide), m2_ss]
    · rw [m2_o (by decide), m2_o (by decide), m2_ss]; rfl
    · rw [m2_o (by decide), m2_ss]; rfl
  · have q := h.2 i (by omega)
    rw [m2_sn e1]
    refine ⟨q.1, ?_, ?_, ?_⟩
    · rw [m2_o (by decide), m2_o (by decide), m2_o (by decide), m2_sn e1, m2_o (by decide)]; exact q.2.1
    · rw [m2_o (by decide), m2_o (by decide), m2_sn e1, m2_o (by decide), m2_o (by decide)]; exact q.2.2.1
    · rw [m2_o (by decide), m2_sn e1, m2_o (by decide), m2_o (by decide), m2_o (by decide)]; exact q.2.2.2
theorem lastN {σ : Mem} {A : Rec} {n : Nat} {e : Int32} {k : Nat} (h : RowN σ A n e k) : lastV σ 117 k = nI (sA A n e k) := by
  unfold lastV
  by_cases h0 : k = 0
  · rw [if_pos h0, h0]; rfl
  · rw [if_neg h0, (h.2 (k - 1) (by omega)).2.2.2, show k - 1 + 1 = k by omega]
set_option maxHeartbeats 4000000 in
set_option maxRecDepth 100000 in
theorem c_Se_walk (l : Launch) (G : GT) (b : Nat) (σ : Mem) (A : Rec) (n : Nat) (e : Int32) (hR : ROk A) (hA : CM σ 1 A) (hn : n ≤ rN A) (hT : ∀ k, k < n → ∀ f, f < 4 → σ 123 (k * 4 + f) = nI (tcA A k f) ∧ σ 122 (k * 4 + f) = nI (cwA A k f)) (hD : ∀ k, k ≤ n → ∀ s, s < 2 ^ rM A → σ 124 (k * 8 + s) = nI (dA A n e (n - k) s)) (h0 : σ 117 0 = nI 0) : KV l G b yX8_walk cX8_walk 6 3 σ [.ref (b + 116), .ref (b + 2), .int (nI n)] (fun σ' => RowN σ' A n e n ∧ ∀ c, c < 117 ∨ 122 ≤ c → σ' c = σ c) := by
  refine sg_metV [.ref (b + 116), .ref (b + 2), .int (nI n)] (by decide) (Nat.le_of_ble_eq_true rfl) ?_
  intro vp ve vs vm args below meth vc ls Q hx hb hml hown hts hK hM hl hret
  have hl : lv_has ls 6 [(0, .ref (b + 116)), (1, .ref (b + 2)), (2, .int (nI n))] := hl
  have hn24 := hR.2.1.2
  have hm8 := p2_le hR.1.1.2
  have hB : ∀ k, k < n → ∀ f, f < 4 → tcA A k f ≤ 40000 := fun k hk f hf => tcA_le hR k (by omega) f hf
  refine lv_iconst (v := nI 0) hx hb dX8_walk_0 (by decide) ?_
  refine lv_istore_n (lv' := [(3, .int (nI 0)), (0, .ref (b + 116)), (1, .ref (b + 2)), (2, .int (nI n))]) hx hb dX8_walk_1 rfl hl (by decide) rfl (fun ls hl => ?_)
  have L2 : ∀ (fuel : Nat) (k : Nat) (σ1 : Mem), (k ≤ n) → (RowN σ1 A n e k) → (∀ c, c < 117 ∨ 122 ≤ c → σ1 c = σ c) → (n - k) < fuel → ∀ (H : Heap) (locs : List Loc) (ls : Array Slot), St G (Fr b) b σ1 vs H locs → lv_has ls 6 [(0, .ref (b + 116)), (1, .ref (b + 2)), (2, .int (nI n)), (3, .int (nI k))] → W vp l ve (RM 3) vs vm args below meth vc H locs 0 0 Q (F0 vm 2 ls []) := by
    intro fuel
    induction fuel with
    | zero => intro k σ1 hk h4 h5 hF; exact absurd hF (Nat.not_lt_zero _)
    | succ fuel ih2 =>
      intro k σ1 hk h4 h5 hF H locs ls hM hl
      refine lv_iload_n hx hb dX8_walk_2 rfl (lv_at hl 3 rfl) ?_
      refine lv_iload_n hx hb dX8_walk_3 rfl (lv_at hl 2 rfl) ?_
      refine sn_icmp_ge (tgt := 78) hx hb dX8_walk_4 (by decide) (by omega) (by omega) (fun hlt => ?_) (fun hlt => ?_)
      · obtain rfl : k = n := by omega
        exact hret _ _ _ _ _ dX8_walk_78 hM (⟨h4, h5⟩)
      · refine lv_aload_n hx hb dX8_walk_7 rfl (lv_at hl 0 rfl) ?_
        refine sg_get (v := .ref (b + 117)) hx hb hts hown hK hM (sh10 kc_116) (kd_lt kc_116 (by decide)) rfl inX8 0 (by decide) wf_X8_12 rfl dX8_walk_8 ?_
        refine sg_ci (sg_runV (d := 0) (As := []) (rest := []) hx hb hml hts hown hK hM (c_Row_last l G b σ1 117 k kc_117 h4.1 (by omega)) mi_X7_lastState wl_X8_98 (sh3 kc_117) (kd_lt kc_117 (by decide)) rfl rfl rfl hl.1 rfl (Nat.le_of_ble_eq_true rfl) dX8_walk_11 ⟨by decide, by decide⟩ ⟨Nat.le_refl 0, Nat.le_refl 0⟩) hM sgA (fun r_11 σ_11 H locs hp_11 hM => ?_)
        obtain ⟨hr_11, hs_11⟩ := hp_11; subst r_11; subst σ_11
        refine sn_top (y := nI (sA A n e k)) (lastN h4) ?_
        refine lv_istore (lv' := [(4, .int (nI (sA A n e k))), (0, .ref (b + 116)), (1, .ref (b + 2)), (2, .int (nI n)), (3, .int (nI k))]) hx hb dX8_walk_14 hl (by decide) rfl (fun ls hl => ?_)
        refine lv_aload_n hx hb dX8_walk_16 rfl (lv_at hl 1 rfl) ?_
        refine lv_aload_n hx hb dX8_walk_17 rfl (lv_at hl 2 rfl) ?_
        refine lv_iload_n hx hb dX8_walk_18 rfl (lv_at hl 4 rfl) ?_
        refine lv_iload hx hb dX8_walk_19 (lv_at hl 0 rfl) ?_
        refine lv_iconst (v := nI 0) hx hb dX8_walk_21 (by decide) ?_
        refine sg_ci (sg_runV (d := 2) (As := [.ref (b + 2), .int (nI k), .int (nI (sA A n e k)), .int (nI 0)]) (rest := []) hx hb hml hts hown hK hM (c_Se_restBy l G b σ1 (rM A) (rG A) (rH A) k (sA A n e k) 0 (dA A n e (n - 1 - k) (nx (rM A) (sA A n e k) 0)) (tcA A k (fam (rM A) (rG A) (rH A) (sA A n e k) 0)) (hA.1.keep (h5 2 (by omega))) (by omega) (qS_lt _ _ _ _ _ _ _) (by decide) (by rw [h5 124 (by omega), show n - 1 - k = n - (k + 1) by omega]; exact hD (k + 1) (by omega) _ (nx_lt (by decide) (qS_lt _ _ _ _ _ _ _))) (by rw [h5 123 (by omega)]; exact (hT k (by omega) _ (fam_lt _ _ _ _ _)).1) (dp_le (by omega) hB (by omega) _) (hB _ (by omega) _ (fam_lt _ _ _ _ _))) mi_X8_restBy wl_X8_83 (sh10 kc_116) (kd_lt kc_116 (by decide)) rfl rfl rfl hl.1 rfl (Nat.le_of_ble_eq_true rfl) dX8_walk_22 ⟨by decide, by decide⟩ ⟨Nat.le_refl 0, Nat.le_refl 0⟩) hM sgA (fun r_22 σ_22 H locs hp_22 hM => ?_)
        obtain ⟨hr_22, hs_22⟩ := hp_22; subst r_22; subst σ_22
        refine lv_aload_n hx hb dX8_walk_25 rfl (lv_at hl 1 rfl) ?_
        refine lv_aload_n hx hb dX8_walk_26 rfl (lv_at hl 2 rfl) ?_
        refine lv_iload_n hx hb dX8_walk_27 rfl (lv_at hl 4 rfl) ?_
        refine lv_iload hx hb dX8_walk_28 (lv_at hl 0 rfl) ?_
        refine lv_iconst (v := nI 1) hx hb dX8_walk_30 (by decide) ?_
        refine sg_ci (sg_runV (d := 2) (As := [.ref (b + 2), .int (nI k), .int (nI (sA A n e k)), .int (nI 1)]) (rest := [.int (nI (stp (dA A n e (n - 1 - k) (nx (rM A) (sA A n e k) 0)) (tcA A k (fam (rM A) (rG A) (rH A) (sA A n e k) 0))))]) hx hb hml hts hown hK hM (c_Se_restBy l G b σ1 (rM A) (rG A) (rH A) k (sA A n e k) 1 (dA A n e (n - 1 - k) (nx (rM A) (sA A n e k) 1)) (tcA A k (fam (rM A) (rG A) (rH A) (sA A n e k) 1)) (hA.1.keep (h5 2 (by omega))) (by omega) (qS_lt _ _ _ _ _ _ _) (by decide) (by rw [h5 124 (by omega), show n - 1 - k = n - (k + 1) by omega]; exact hD (k + 1) (by omega) _ (nx_lt (by decide) (qS_lt _ _ _ _ _ _ _))) (by rw [h5 123 (by omega)]; exact (hT k (by omega) _ (fam_lt _ _ _ _ _)).1) (dp_le (by omega) hB (by omega) _) (hB _ (by omega) _ (fam_lt _ _ _ _ _))) mi_X8_restBy wl_X8_83 (sh10 kc_116) (kd_lt kc_116 (by decide)) rfl rfl rfl hl.1 rfl (Nat.le_of_ble_eq_true rfl) dX8_walk_31 ⟨by decide, by decide⟩ ⟨Nat.le_refl 0, Nat.le_refl 0⟩) hM sgA (fun r_31 σ_31 H locs hp_31 hM => ?_)
        obtain ⟨hr_31, hs_31⟩ := hp_31; subst r_31; subst σ_31
        have J42 : ∀ (H : Heap) (locs : List Loc) (ls : Array Slot), St G (Fr b) b σ1 vs H locs → lv_has ls 6 [(0, .ref (b + 116)), (1, .ref (b + 2)), (2, .int (nI n)), (3, .int (nI k)), (4, .int (nI (sA A n e k)))] → W vp l ve (RM 3) vs vm args below meth vc H locs 0 0 Q (F0 vm 42 ls [.int (nI (uA A n e k))]) := by
          intro  H locs ls hM hl
          refine lv_istore (lv' := [(5, .int (nI (uA A n e k))), (0, .ref (b + 116)), (1, .ref (b + 2)), (2, .int (nI n)), (3, .int (nI k)), (4, .int (nI (sA A n e k)))]) hx hb dX8_walk_42 hl (by decide) rfl (fun ls hl => ?_)
          refine lv_aload_n hx hb dX8_walk_44 rfl (lv_at hl 1 rfl) ?_
          refine sg_get (v := .ref (b + 117)) hx hb hts hown hK hM (sh10 kc_116) (kd_lt kc_116 (by decide)) rfl inX8 0 (by decide) wf_X8_12 rfl dX8_walk_45 ?_
          refine lv_aload_n hx hb dX8_walk_48 rfl (lv_at hl 2 rfl) ?_
          refine lv_iload hx hb dX8_walk_49 (lv_at hl 0 rfl) ?_
          refine lv_aload_n hx hb dX8_walk_51 rfl (lv_at hl 1 rfl) ?_
          refine sg_get (v := .ref (b + 122)) hx hb hts hown hK hM (sh10 kc_116) (kd_lt kc_116 (by decide)) rfl inX8 1 (by decide) wf_X8_18 rfl dX8_walk_52 ?_
          refine lv_iload_n hx hb dX8_walk_55 rfl (lv_at hl 4 rfl) ?_
          refine lv_iconst (v := nI 4) hx hb dX8_walk_56 (by decide) ?_
          refine sn_imul hx hb dX8_walk_57 ?_
          refine lv_aload_n hx hb dX8_walk_58 rfl (lv_at hl 2 rfl) ?_
          refine lv_iload hx hb dX8_walk_59 (lv_at hl 5 rfl) ?_
          refine lv_iload hx hb dX8_walk_61 (lv_at hl 0 rfl) ?_
          refine sg_ci (sg_runV (d := 1) (As := [.int (nI (sA A n e k)), .int (nI (uA A n e k))]) (rest := [.int (nI (k * 4)), .ref (b + 122), .int (nI (uA A n e k)), .ref (b + 2), .ref (b + 117)]) hx hb hml hts hown hK hM (c_Code_fam l G b σ1 2 (rM A) (rG A) (rH A) (sA A n e k) (uA A n e k) kc_2 (hA.1.keep (h5 2 (by omega))) (du_lt _ _ _ _ _ _ _ _) (qS_lt _ _ _ _ _ _ _)) mi_X0_familyFrom wl_X8_95 (sh2 kc_2) (kd_lt kc_2 (by decide)) rfl rfl rfl hl.1 rfl (Nat.le_of_ble_eq_true rfl) dX8_walk_63 ⟨by decide, by decide⟩ ⟨Nat.le_refl 0, Nat.le_refl 0⟩) hM sgA (fun r_63 σ_63 H locs hp_63 hM => ?_)
          obtain ⟨hr_63, hs_63⟩ := hp_63; subst r_63; subst σ_63
          refine sn_iadd hx hb dX8_walk_66 ?_
          refine sg_iald hx hb hK hM (sh11 kc_122) (kd_lt kc_122 (by decide)) (i := (k * 4) + (fam (rM A) (rG A) (rH A) (sA A n e k) (uA A n e k))) (by have := fam_lt (rM A) (rG A) (rH A) (sA A n e k) (uA A n e k); omega) (by decide) dX8_walk_67 ?_
          refine sn_top (y := nI (wA A n e k)) (by rw [h5 122 (by omega)]; exact (hT k (by omega) _ (fam_lt _ _ _ _ _)).2) ?_
          refine sg_ci (sg_runV (d := 2) (As := [.ref (b + 2), .int (nI (uA A n e k)), .int (nI (wA A n e k))]) (rest := []) hx hb hml hts hown hK hM (c_Row_append l G b σ1 117 k 2 (rM A) (rG A) (rH A) (sA A n e k) (uA A n e k) (wA A n e k) kc_117 kc_2 (hA.1.keep (h5 2 (by omega))) h4.1 (by omega) (lastN h4) (qS_lt _ _ _ _ _ _ _) (du_lt _ _ _ _ _ _ _ _) (cw_lt _ _ _)) mi_X7_append wl_X8_101 (sh3 kc_117) (kd_lt kc_117 (by decide)) rfl rfl rfl hl.1 rfl (Nat.le_of_ble_eq_true rfl) dX8_walk_68 ⟨by decide, by decide⟩ ⟨Nat.le_refl 0, Nat.le_refl 0⟩) hM sgA (fun r_68 σ2 H locs hq hM => ?_)
          obtain ⟨hr_68, hq⟩ := hq; subst r_68
          refine lv_pop hx hb dX8_walk_71 rfl ?_
          refine lv_iinc (v := nI (k + 1)) (lv' := [(3, .int (nI (k + 1))), (5, .int (nI (uA A n e k))), (0, .ref (b + 116)), (1, .ref (b + 2)), (2, .int (nI n)), (4, .int (nI (sA A n e k)))]) hx hb dX8_walk_72 hl (k := 4) rfl (q_inc _) (by decide) rfl (fun ls hl => ?_)
          refine lv_goto (tgt := 2) hx hb dX8_walk_75 (by decide) ?_
          exact ih2 (k + 1) σ2 (by omega) (by rw [hq]; exact rowN_s h4) (fun c a => by rw [hq]; unfold rowApp; rw [m2_o (by omega), m2_o (by omega), m2_o (by omega), m2_o (by omega), m2_o (by omega)]; exact h5 c a) (by omega) _ _ _ hM (lv_sub hl [2, 3, 4, 0] rfl)
        refine sn_icmp_gt (tgt := 41) hx hb dX8_walk_34 (by decide) (stp_le (dp_le (by omega) hB (by omega) _) (hB _ (by omega) _ (fam_lt _ _ _ _ _))) (stp_le (dp_le (by omega) hB (by omega) _) (hB _ (by omega) _ (fam_lt _ _ _ _ _))) (fun c_34 => ?_) (fun c_34 => ?_)
        · refine lv_iconst (v := nI 1) hx hb dX8_walk_41 (by decide) ?_
          refine sn_top (y := nI (uA A n e k)) (by rw [uA_d, if_neg (by omega)]) ?_
          exact J42   _ _ _ hM (lv_sub hl [1, 2, 3, 4, 0] rfl)
        · refine lv_iconst (v := nI 0) hx hb dX8_walk_37 (by decide) ?_
          refine sn_top (y := nI (uA A n e k)) (by rw [uA_d, if_pos c_34]) ?_
          refine lv_goto (tgt := 42) hx hb dX8_walk_38 (by decide) ?_
          exact J42   _ _ _ hM (lv_sub hl [1, 2, 3, 4, 0] rfl)
  exact L2 (_ + 1) 0 σ (by omega) (⟨h0, fun k q => absurd q (by omega)⟩) (fun _ _ => rfl) (Nat.lt_succ_self _) _ _ _ hM (lv_sub hl [1, 2, 3, 0] rfl)
theorem dA_le {A : Rec} (hR : ROk A) {n : Nat} (hn : n ≤ rN A) (e : Int32) (j : Nat) (hj : j ≤ n) (s : Nat) : dA A n e j s ≤ NV := dp_le (by have := hR.2.1.2; omega) (fun k hk f hf => tcA_le hR k (by omega) f hf) hj s
set_option maxHeartbeats 4000000 in
set_option maxRecDepth 100000 in
theorem c_Se_seek (l : Launch) (G : GT) (b : Nat) (σ : Mem) (A : Rec) (n : Nat) (e : Int32) (hR : ROk A) (hA : CM σ 1 A) (hn : n ≤ rN A) : KI l G b yX8_seek cX8_seek 4 4 σ [.ref (b + 116), .ref (b + 1), .int (nI n), .int e] (fun r σ' => r = nI (dA A n e n 0) ∧ (dA A n e n 0 < NV → RowN σ' A n e n) ∧ (¬ dA A n e n 0 < NV → σ' 117 0 = nI 0) ∧ ∀ c, c < 116 ∨ 125 ≤ c → σ' c = σ c) := by
  refine sg_metI [.ref (b + 116), .ref (b + 1), .int (nI n), .int e] (by decide) (Nat.le_of_ble_eq_true rfl) ?_
  intro vp ve vs vm args below meth vc ls Q hx hb hml hown hts hK hM hl hret
  have hl : lv_has ls 4 [(0, .ref (b + 116)), (1, .ref (b + 1)), (2, .int (nI n)), (3, .int e)] := hl
  have hn24 := hR.2.1.2
  have hNV : NV = 99999999 := rfl
  refine lv_aload_n hx hb dX8_seek_0 rfl (lv_at hl 0 rfl) ?_
  refine lv_aload_n hx hb dX8_seek_1 rfl (lv_at hl 1 rfl) ?_
  refine sg_get (v := .ref (b + 8)) hx hb hts hown hK hM (sh1 kc_1) (kd_lt kc_1 (by decide)) rfl inX3 2 (by decide) wf_X8_28 rfl dX8_seek_2 ?_
  refine lv_iload_n hx hb dX8_seek_5 rfl (lv_at hl 2 rfl) ?_
  refine sg_cv (sg_runV (d := 3) (As := [.ref (b + 8), .int (nI n)]) (rest := []) hx hb hml hts hown hK hM (c_Se_weigh l G b σ A n hR hA hn) mi_X8_weigh wl_X8_34 (sh10 kc_116) (kd_lt kc_116 (by decide)) rfl rfl rfl hl.1 rfl (Nat.le_of_ble_eq_true rfl) dX8_seek_6 ⟨by decide, by decide⟩ ⟨Nat.le_refl 0, Nat.le_refl 0⟩) hM sgA (fun σ1 H locs hw hM => ?_)
  refine lv_aload_n hx hb dX8_seek_9 rfl (lv_at hl 0 rfl) ?_
  refine lv_aload_n hx hb dX8_seek_10 rfl (lv_at hl 1 rfl) ?_
  refine sg_get (v := .ref (b + 2)) hx hb hts hown hK hM (sh1 kc_1) (kd_lt kc_1 (by decide)) rfl inX3 0 (by decide) wf_X8_38 rfl dX8_seek_11 ?_
  refine lv_iload_n hx hb dX8_seek_14 rfl (lv_at hl 2 rfl) ?_
  refine lv_iload_n hx hb dX8_seek_15 rfl (lv_at hl 3 rfl) ?_
  refine sg_cv (sg_runV (d := 3) (As := [.ref (b + 2), .int (nI n), .int e]) (rest := []) hx hb hml hts hown hK hM (c_Se_reckon l G b σ1 A n e hR (hA.keep (fun k _ _ => hw.2 k (by omega) (by omega))) hn hw.1) mi_X8_reckon wl_X8_42 (sh10 kc_116) (kd_lt kc_116 (by decide)) rfl rfl rfl hl.1 rfl (Nat.le_of_ble_eq_true rfl) dX8_seek_16 ⟨by decide, by decide⟩ ⟨Nat.le_refl 0, Nat.le_refl 0⟩) hM sgA (fun σ2 H locs hq hM => ?_)
  refine lv_aload_n hx hb dX8_seek_19 rfl (lv_at hl 0 rfl) ?_
  refine sg_get (v := .ref (b + 117)) hx hb hts hown hK hM (sh10 kc_116) (kd_lt kc_116 (by decide)) rfl inX8 0 (by decide) wf_X8_12 rfl dX8_seek_20 ?_
  refine lv_iconst (v := nI 0) hx hb dX8_seek_23 (by decide) ?_
  refine sg_put (v := nI 0) (ty := .int) hx hb hts hown hK hM sgA (sh3 kc_117) (kd_lt kc_117 (by decide)) rfl inX7 tyX7 tyX7_ok nmX7 0 (by decide) wf_X8_46 rfl (by decide +kernel) rfl rfl (Nat.le_of_ble_eq_true rfl) (by rw [sh3 kc_117]; rfl) dX8_seek_24 (fun H locs hM => ?_)
  obtain ⟨σ3, hσ3⟩ : ∃ z : Mem, z = m2 σ2 117 0 (nI 0) := ⟨_, rfl⟩
  rw [← hσ3] at hM
  refine lv_aload_n hx hb dX8_seek_27 rfl (lv_at hl 0 rfl) ?_
  refine sg_get (v := .ref (b + 124)) hx hb hts hown hK hM (sh10 kc_116) (kd_lt kc_116 (by decide)) rfl inX8 3 (by decide) wf_X8_25 rfl dX8_seek_28 ?_
  refine lv_iconst (v := nI 0) hx hb dX8_seek_31 (by decide) ?_
  refine sg_iald hx hb hK hM (sh12 kc_124) (kd_lt kc_124 (by decide)) (i := 0) (by omega) (by decide) dX8_seek_32 ?_
  refine sn_top (y := nI (dA A n e n 0)) (by rw [hσ3, m2_o (by decide)]; exact hq.1 0 (by omega) 0 (p2_pos _)) ?_
  refine lv_ldc (v := nI 99999999) hx hb hown (hts (Cond.constant RX8 50 (nI 99999999)) wk_X8_50) dX8_seek_33 ?_
  refine sn_icmp_ge (tgt := 47) hx hb dX8_seek_35 (by decide) (by have := dA_le hR hn e n (Nat.le_refl _) 0; have : NV = 99999999 := rfl; omega) (by omega) (fun c_35 => ?_) (fun c_35 => ?_)
  · refine lv_aload_n hx hb dX8_seek_47 rfl (lv_at hl 0 rfl) ?_
    refine sg_get (v := .ref (b + 124)) hx hb hts hown hK hM (sh10 kc_116) (kd_lt kc_116 (by decide)) rfl inX8 3 (by decide) wf_X8_25 rfl dX8_seek_48 ?_
    refine lv_iconst (v := nI 0) hx hb dX8_seek_51 (by decide) ?_
    refine sg_iald hx hb hK hM (sh12 kc_124) (kd_lt kc_124 (by decide)) (i := 0) (by omega) (by decide) dX8_seek_52 ?_
    refine sn_top (y := nI (dA A n e n 0)) (by rw [hσ3, m2_o (by decide)]; exact hq.1 0 (by omega) 0 (p2_pos _)) ?_
    exact hret _ _ _ _ _ _ dX8_seek_53 hM (⟨rfl, fun q => absurd c_35 (by omega), fun _ => by rw [hσ3]; exact m2_ss, fun c a => by rw [hσ3, m2_o (by omega), hq.2 c (by omega), hw.2 c (by omega) (by omega)]⟩)
  · refine lv_aload_n hx hb dX8_seek_38 rfl (lv_at hl 0 rfl) ?_
    refine lv_aload_n hx hb dX8_seek_39 rfl (lv_at hl 1 rfl) ?_
    refine sg_get (v := .ref (b + 2)) hx hb hts hown hK hM (sh1 kc_1) (kd_lt kc_1 (by decide)) rfl inX3 0 (by decide) wf_X8_38 rfl dX8_seek_40 ?_
    refine lv_iload_n hx hb dX8_seek_43 rfl (lv_at hl 2 rfl) ?_
    refine sg_cv (sg_runV (d := 3) (As := [.ref (b + 2), .int (nI n)]) (rest := []) hx hb hml hts hown hK hM (c_Se_walk l G b σ3 A n e hR (hA.keep (fun k _ _ => by rw [hσ3, m2_o (by omega), hq.2 k (by omega), hw.2 k (by omega) (by omega)])) hn (by rw [hσ3, m2_o (by decide), m2_o (by decide), hq.2 123 (by decide), hq.2 122 (by decide)]; exact hw.1) (by rw [hσ3, m2_o (by decide)]; exact hq.1) (by rw [hσ3]; exact m2_ss)) mi_X8_walk wl_X8_51 (sh10 kc_116) (kd_lt kc_116 (by decide)) rfl rfl rfl hl.1 rfl (Nat.le_of_ble_eq_true rfl) dX8_seek_44 ⟨by decide, by decide⟩ ⟨Nat.le_refl 0, Nat.le_refl 0⟩) hM sgA (fun σ4 H locs hz hM => ?_)
    refine lv_aload_n hx hb dX8_seek_47 rfl (lv_at hl 0 rfl) ?_
    refine sg_get (v := .ref (b + 124)) hx hb hts hown hK hM (sh10 kc_116) (kd_lt kc_116 (by decide)) rfl inX8 3 (by decide) wf_X8_25 rfl dX8_seek_48 ?_
    refine lv_iconst (v := nI 0) hx hb dX8_seek_51 (by decide) ?_
    refine sg_iald hx hb hK hM (sh12 kc_124) (kd_lt kc_124 (by decide)) (i := 0) (by omega) (by decide) dX8_seek_52 ?_
    refine sn_top (y := nI (dA A n e n 0)) (by rw [hz.2 124 (by omega), hσ3, m2_o (by decide)]; exact hq.1 0 (by omega) 0 (p2_pos _)) ?_
    exact hret _ _ _ _ _ _ dX8_seek_53 hM (⟨rfl, fun _ => hz.1, fun q => absurd c_35 (by omega), fun c a => by rw [hz.2 c (by omega), hσ3, m2_o (by omega), hq.2 c (by omega), hw.2 c (by omega) (by omega)]⟩)

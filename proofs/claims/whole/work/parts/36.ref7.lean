/-! lots -/
theorem lt1_lt (a : Nat) : lt1 a < 2147483647 := Nat.mod_lt _ (by decide)
theorem dr_rng : ∀ i, i < 4 → ∀ d, d < 25 → (-99 ≤ (nI (20 * i) - nI 30 + nI d - nI 12).toInt ∧ (nI (20 * i) - nI 30 + nI d - nI 12).toInt ≤ 99) ∧ nI (20 * i) - nI 30 + (nI d - nI 12) = nI (20 * i) - nI 30 + nI d - nI 12 := by decide +kernel
theorem dr_ok {A : Rec} (hR : ROk A) (a : Nat) (hs : rS A < 24) (hn : rN A < 24) : ROk (drR A a) := by
  have h1 := sent_ok hR (show lt1 a % 2 < 2 by omega) (show lt1 (lt1 a) % 4 < 4 by omega) hs
  have hp : ptS (sentR A (lt1 a % 2) (lt1 (lt1 a) % 4)) (rS A) < 16 := pt_lt (fam_lt _ _ _ _ _) (h1.2.2.1 (rS A) (Nat.lt_succ_self _)).2
  exact heard_ok h1 ⟨(dr_rng _ (by omega) _ (by omega)).1, (dr_rng _ (by omega) _ (by omega)).1⟩ hn
theorem dr_0 {k : Nat} {A : Rec} {a : Nat} (h : k = 0 ∨ 24 ≤ rS A ∨ 24 ≤ rN A) : dr k A a = (0, A) := by
  cases k with
  | zero => rfl
  | succ k =>
    show (if rS A < 24 ∧ rN A < 24 then _ else _) = _
    rw [if_neg (by omega)]
theorem dr_1 {k : Nat} {A : Rec} {a : Nat} (hs : rS A < 24) (hn : rN A < 24) : dr (k + 1) A a = ((dr k (drR A a) (lt1 (lt1 (lt1 (lt1 a))))).1 + 1, (dr k (drR A a) (lt1 (lt1 (lt1 (lt1 a))))).2) := by
  show (if rS A < 24 ∧ rN A < 24 then _ else _) = _
  rw [if_pos ⟨hs, hn⟩]
theorem dr_step {n d : Nat} {A B : Rec} {a x : Nat} (hd : d < n) (hs : rS B < 24) (hn : rN B < 24) (h : dr n A x = (d + (dr (n - d) B a).1, (dr (n - d) B a).2)) : dr n A x = (d + 1 + (dr (n - (d + 1)) (drR B a) (lt1 (lt1 (lt1 (lt1 a))))).1, (dr (n - (d + 1)) (drR B a) (lt1 (lt1 (lt1 (lt1 a))))).2) := by
  rw [h, show n - d = n - (d + 1) + 1 by omega, dr_1 hs hn]
  refine Prod.ext ?_ rfl
  show d + (_ + 1) = d + 1 + _
  omega
theorem dr_end {n d : Nat} {A B : Rec} {a x : Nat} (h : dr n A x = (d + (dr (n - d) B a).1, (dr (n - d) B a).2)) (e : n ≤ d ∨ 24 ≤ rS B ∨ 24 ≤ rN B) : dr n A x = (d, B) := by
  rw [h, dr_0 (by omega)]
  rfl
set_option maxHeartbeats 4000000 in
set_option maxRecDepth 100000 in
theorem m_drawn (l : Launch) (G : GT) (b : Nat) (σ : Mem) (a : Nat) (ha : a < 2147483647) : KL l G b yX11_drawn cX11_drawn 2 0 σ [.long (lN a)] (fun r σ' => r = lN (lt1 a) ∧ σ' = σ) := by
  refine sg_metL [.long (lN a)] (by decide) (Nat.le_of_ble_eq_true rfl) ?_
  intro vp ve vs vm args below meth vc ls Q hx hb hml hown hts hK hM hl hret
  have hl : lv_has ls 2 [(0, .long (lN a))] := hl
  refine lv_lload_n hx hb dX11_drawn_0 rfl (lv_at hl 0 rfl) ?_
  refine lv_ldc2 (v := 16807) hx hb hown (hts _ wkl_X11_108) dX11_drawn_1 ?_
  refine lv_lmul hx hb dX11_drawn_4 ?_
  refine sn_topl (y := lN (a * 16807)) (lN_mul a 16807) ?_
  refine lv_ldc2 (v := 2147483647) hx hb hown (hts _ wkl_X11_110) dX11_drawn_5 ?_
  refine lv_lrem hx hb dX11_drawn_8 (by decide) ?_
  refine sn_topl (y := lN (lt1 a)) (pk_lRem (by omega) (by decide) (by decide)) ?_
  exact hret _ _ _ _ _ _ dX11_drawn_9 hM (⟨rfl, rfl⟩)
set_option maxHeartbeats 4000000 in
set_option maxRecDepth 100000 in
theorem y_drift (l : Launch) (G : GT) (b : Nat) (σ : Mem) (w : World) (hI : IRw σ w) (x y : Int32) : KI l G b yX11_drift cX11_drift 9 3 σ [.ref (b + 131), .int x, .int y] (fun r σ' => r = (S_drift w x y).1 ∧ IRw σ' (S_drift w x y).2 ∧ ∀ k, k < 131 → σ' k = σ k) := by
  refine sg_metI [.ref (b + 131), .int x, .int y] (by decide) (Nat.le_of_ble_eq_true rfl) ?_
  intro vp ve vs vm args below meth vc ls Q hx hb hml hown hts hK hM hl hret
  have hl : lv_has ls 9 [(0, .ref (b + 131)), (1, .int x), (2, .int y)] := hl
  obtain ⟨hR, hA, hn, hP, hJ⟩ := id hI
  have hc := RCd.of hR hA
  have hS24 := hR.2.1.1
  have hN24 := hR.2.1.2
  have hm8 := p2_le hR.1.1.2
  refine lv_iload_n hx hb dX11_drift_0 rfl (lv_at hl 1 rfl) ?_
  refine lv_iconst (v := nI 1) hx hb dX11_drift_1 (by decide) ?_
  refine lv_bipush (v := nI 24) hx hb dX11_drift_2 (by decide) ?_
  refine sg_ci (sg_runS (d := 0) (As := [.int x, .int (nI 1), .int (nI 24)]) (rest := []) hx hb hml hts hown hK hM (m_in l G b σ x (nI 1) (nI 24)) mi_X11_in wl_X11_69 rfl hl.1 rfl (Nat.le_of_ble_eq_true rfl) dX11_drift_4 ⟨by decide, by decide⟩ ⟨Nat.le_refl 0, Nat.le_refl 0⟩) hM sgA (fun r_4 σ_4 H locs hp_4 hM => ?_)
  obtain ⟨hr_4, hs_4⟩ := hp_4; subst r_4; subst σ_4
  refine sn_ifz_eq (tgt := 20) hx hb dX11_drift_7 (by decide) (fun dq1 => ?_) (fun dq1 => ?_)
  · refine lv_ldc (v := (-1000000002)) hx hb hown (hts (Cond.constant RX11 84 ((-1000000002))) wk_X11_84) dX11_drift_20 ?_
    exact hret _ _ _ _ _ _ dX11_drift_22 hM (⟨by rw [S_drift_o1 dq1], by rw [S_drift_o1 dq1]; exact hI, fun _ _ => rfl⟩)
  · obtain ⟨k1, hka, hkb, rfl⟩ := inR_nat1 (by decide) dq1
    have hl : lv_has ls 9 [(0, .ref (b + 131)), (1, .int (nI k1)), (2, .int y)] := hl
    refine lv_iload_n hx hb dX11_drift_10 rfl (lv_at hl 2 rfl) ?_
    refine lv_iconst (v := nI 1) hx hb dX11_drift_11 (by decide) ?_
    refine lv_ldc (v := nI 999999) hx hb hown (hts (Cond.constant RX11 112 (nI 999999)) wk_X11_112) dX11_drift_12 ?_
    refine sg_ci (sg_runS (d := 0) (As := [.int y, .int (nI 1), .int (nI 999999)]) (rest := []) hx hb hml hts hown hK hM (m_in l G b σ y (nI 1) (nI 999999)) mi_X11_in wl_X11_69 rfl hl.1 rfl (Nat.le_of_ble_eq_true rfl) dX11_drift_14 ⟨by decide, by decide⟩ ⟨Nat.le_refl 0, Nat.le_refl 0⟩) hM sgA (fun r_14 σ_14 H locs hp_14 hM => ?_)
    obtain ⟨hr_14, hs_14⟩ := hp_14; subst r_14; subst σ_14
    refine sn_ifz_ne (tgt := 23) hx hb dX11_drift_17 (by decide) (fun dq2 => ?_) (fun dq2 => ?_)
    · obtain ⟨x1, hxa, hxb, rfl⟩ := inR_nat1 (by decide) dq2
      have hl : lv_has ls 9 [(0, .ref (b + 131)), (1, .int (nI k1)), (2, .int (nI x1))] := hl
      refine lv_aload_n hx hb dX11_drift_23 rfl (lv_at hl 0 rfl) ?_
      refine sg_cv (sg_runV (d := 0) (As := []) (rest := []) hx hb hml hts hown hK hM (m_notes l G b σ w.1 w.2.1 w.2.2.1 hR hA hn hP) mi_X11_notes wl_X11_85 (sh18 kc_131) (kd_lt kc_131 (by decide)) rfl rfl rfl hl.1 rfl (Nat.le_of_ble_eq_true rfl) dX11_drift_24 ⟨by decide, by decide⟩ ⟨Nat.le_refl 0, Nat.le_refl 0⟩) hM sgA (fun σ1 H locs hp1 hM => ?_)
      obtain ⟨⟨k1a, k2a⟩, k3a⟩ := hp1
      have hA1 : RecF (σ1 132) w.1 := by rw [k3a 132 (by decide) (by decide)]; exact hA
      refine lv_iload_n hx hb dX11_drift_27 rfl (lv_at hl 2 rfl) ?_
      refine lv_i2l hx hb dX11_drift_28 rfl ?_
      refine sn_topl (y := lN x1) (nI_l (by omega)) ?_
      refine lv_lstore_n (lv' := [(3, .long (lN x1)), (0, .ref (b + 131)), (1, .int (nI k1)), (2, .int (nI x1))]) hx hb dX11_drift_29 rfl hl (by decide) rfl (fun ls hl => ?_)
      refine lv_iconst (v := nI 0) hx hb dX11_drift_30 (by decide) ?_
      refine lv_istore (lv' := [(5, .int (nI 0)), (3, .long (lN x1)), (0, .ref (b + 131)), (1, .int (nI k1)), (2, .int (nI x1))]) hx hb dX11_drift_31 hl (by decide) rfl (fun ls hl => ?_)
      have L33 : ∀ (fuel : Nat) (d1 : Nat) (σ2 : Mem) (B1 : Rec) (a1 : Nat), (d1 ≤ k1) → (a1 < 2147483647) → (ROk B1) → (RecF (σ2 132) B1) → (dr k1 w.1 x1 = (d1 + (dr (k1 - d1) B1 a1).1, (dr (k1 - d1) B1 a1).2)) → (∀ c, c ≠ 132 → σ2 c = σ1 c) → (25 - d1) < fuel → ∀ (H : Heap) (locs : List Loc) (ls : Array Slot), St G (Fr b) b σ2 vs H locs → lv_has ls 9 [(0, .ref (b + 131)), (1, .int (nI k1)), (2, .int (nI x1)), (3, .long (lN a1)), (5, .int (nI d1))] → W vp l ve (RM 3) vs vm args below meth vc H locs 0 0 Q (F0 vm 33 ls []) := by
        intro fuel
        induction fuel with
        | zero => intro d1 σ2 B1 a1 hd1 ha1 hB hC hdr hfr hF; exact absurd hF (Nat.not_lt_zero _)
        | succ fuel ih33 =>
          intro d1 σ2 B1 a1 hd1 ha1 hB hC hdr hfr hF H locs ls hM hl
          refine lv_iload hx hb dX11_drift_33 (lv_at hl 4 rfl) ?_
          refine lv_iload_n hx hb dX11_drift_35 rfl (lv_at hl 1 rfl) ?_
          refine sn_icmp_ge (tgt := 159) hx hb dX11_drift_36 (by decide) (by omega) (by omega) (fun dd => ?_) (fun dd => ?_)
          · refine lv_iload hx hb dX11_drift_159 (lv_at hl 4 rfl) ?_
            have hde := dr_end hdr (by omega)
            exact hret _ _ _ _ _ _ dX11_drift_161 hM (⟨by rw [S_drift_ok ⟨hka, hkb⟩ ⟨hxa, hxb⟩, hde], by rw [S_drift_ok ⟨hka, hkb⟩ ⟨hxa, hxb⟩, hde]; exact hI.psh k1a k2a k3a hB hC hfr, fun k hk => by rw [hfr k (by omega), k3a k (by omega) (by omega)]⟩)
          · refine lv_aload_n hx hb dX11_drift_39 rfl (lv_at hl 0 rfl) ?_
            refine sg_get (v := .ref (b + 132)) hx hb hts hown hK hM (sh18 kc_131) (kd_lt kc_131 (by decide)) rfl inX11 0 (by decide) wf_X11_7 rfl dX11_drift_40 ?_
            refine lv_iconst (v := nI 4) hx hb dX11_drift_43 (by decide) ?_
            refine sg_iald hx hb hK hM (sh19 kc_132) (kd_lt kc_132 (by decide)) (i := 4) (by omega) (by decide) dX11_drift_44 ?_
            refine sn_top (y := nI (rS B1)) (hC.1.2.2.2.2.1) ?_
            refine lv_bipush (v := nI 24) hx hb dX11_drift_45 (by decide) ?_
            refine sn_icmp_ge (tgt := 159) hx hb dX11_drift_47 (by decide) (by have := hB.2.1.1; omega) (by omega) (fun ds => ?_) (fun ds => ?_)
            · refine lv_iload hx hb dX11_drift_159 (lv_at hl 4 rfl) ?_
              have hde := dr_end hdr (by omega)
              exact hret _ _ _ _ _ _ dX11_drift_161 hM (⟨by rw [S_drift_ok ⟨hka, hkb⟩ ⟨hxa, hxb⟩, hde], by rw [S_drift_ok ⟨hka, hkb⟩ ⟨hxa, hxb⟩, hde]; exact hI.psh k1a k2a k3a hB hC hfr, fun k hk => by rw [hfr k (by omega), k3a k (by omega) (by omega)]⟩)
            · refine lv_aload_n hx hb dX11_drift_50 rfl (lv_at hl 0 rfl) ?_
              refine sg_get (v := .ref (b + 132)) hx hb hts hown hK hM (sh18 kc_131) (kd_lt kc_131 (by decide)) rfl inX11 0 (by decide) wf_X11_7 rfl dX11_drift_51 ?_
              refine lv_iconst (v := nI 5) hx hb dX11_drift_54 (by decide) ?_
              refine sg_iald hx hb hK hM (sh19 kc_132) (kd_lt kc_132 (by decide)) (i := 5) (by omega) (by decide) dX11_drift_55 ?_
              refine sn_top (y := nI (rN B1)) (hC.1.2.2.2.2.2) ?_
              refine lv_bipush (v := nI 24) hx hb dX11_drift_56 (by decide) ?_
              refine sn_icmp_ge (tgt := 159) hx hb dX11_drift_58 (by decide) (by have := hB.2.1.2; omega) (by omega) (fun dn => ?_) (fun dn => ?_)
              · refine lv_iload hx hb dX11_drift_159 (lv_at hl 4 rfl) ?_
                have hde := dr_end hdr (by omega)
                exact hret _ _ _ _ _ _ dX11_drift_161 hM (⟨by rw [S_drift_ok ⟨hka, hkb⟩ ⟨hxa, hxb⟩, hde], by rw [S_drift_ok ⟨hka, hkb⟩ ⟨hxa, hxb⟩, hde]; exact hI.psh k1a k2a k3a hB hC hfr, fun k hk => by rw [hfr k (by omega), k3a k (by omega) (by omega)]⟩)
              · refine lv_lload_n hx hb dX11_drift_61 rfl (lv_at hl 3 rfl) ?_
                refine sg_cl (sg_runS (d := 0) (As := [.long (lN a1)]) (rest := []) hx hb hml hts hown hK hM (m_drawn l G b σ2 a1 ha1) mi_X11_drawn wl_X11_113 rfl hl.1 rfl (Nat.le_of_ble_eq_true rfl) dX11_drift_62 ⟨by decide, by decide⟩ ⟨Nat.le_refl 0, Nat.le_refl 0⟩) hM sgA (fun r_62 σ_62 H locs hp_62 hM => ?_)
                obtain ⟨hr_62, hs_62⟩ := hp_62; subst r_62; subst σ_62
                refine lv_lstore_n (lv' := [(3, .long (lN (lt1 a1))), (0, .ref (b + 131)), (1, .int (nI k1)), (2, .int (nI x1)), (5, .int (nI d1))]) hx hb dX11_drift_65 rfl hl (by decide) rfl (fun ls hl => ?_)
                refine lv_lload_n hx hb dX11_drift_66 rfl (lv_at hl 0 rfl) ?_
                refine lv_ldc2 (v := 2) hx hb hown (hts _ wkl_X11_117) dX11_drift_67 ?_
                refine lv_lrem hx hb dX11_drift_70 (by decide) ?_
                refine sn_topl (y := lN (lt1 a1 % 2)) (pk_lRem (Nat.lt_of_lt_of_le (lt1_lt _) (by decide)) (by decide) (by decide)) ?_
                refine lv_l2i hx hb dX11_drift_71 rfl ?_
                refine sn_top (y := nI (lt1 a1 % 2)) (lN_i _) ?_
                refine lv_istore (lv' := [(6, .int (nI (lt1 a1 % 2))), (3, .long (lN (lt1 a1))), (0, .ref (b + 131)), (1, .int (nI k1)), (2, .int (nI x1)), (5, .int (nI d1))]) hx hb dX11_drift_72 hl (by decide) rfl (fun ls hl => ?_)
                refine lv_lload_n hx hb dX11_drift_74 rfl (lv_at hl 1 rfl) ?_
                refine sg_cl (sg_runS (d := 0) (As := [.long (lN (lt1 a1))]) (rest := []) hx hb hml hts hown hK hM (m_drawn l G b σ2 (lt1 a1) (lt1_lt _)) mi_X11_drawn wl_X11_113 rfl hl.1 rfl (Nat.le_of_ble_eq_true rfl) dX11_drift_75 ⟨by decide, by decide⟩ ⟨Nat.le_refl 0, Nat.le_refl 0⟩) hM sgA (fun r_75 σ_75 H locs hp_75 hM => ?_)
                obtain ⟨hr_75, hs_75⟩ := hp_75; subst r_75; subst σ_75
                refine lv_lstore_n (lv' := [(3, .long (lN (lt1 (lt1 a1)))), (6, .int (nI (lt1 a1 % 2))), (0, .ref (b + 131)), (1, .int (nI k1)), (2, .int (nI x1)), (5, .int (nI d1))]) hx hb dX11_drift_78 rfl hl (by decide) rfl (fun ls hl => ?_)
                refine lv_aload_n hx hb dX11_drift_79 rfl (lv_at hl 2 rfl) ?_
                refine lv_iload hx hb dX11_drift_80 (lv_at hl 1 rfl) ?_
                refine lv_lload_n hx hb dX11_drift_82 rfl (lv_at hl 0 rfl) ?_
                refine lv_ldc2 (v := 4) hx hb hown (hts _ wkl_X11_119) dX11_drift_83 ?_
                refine lv_lrem hx hb dX11_drift_86 (by decide) ?_
                refine sn_topl (y := lN (lt1 (lt1 a1) % 4)) (pk_lRem (Nat.lt_of_lt_of_le (lt1_lt _) (by decide)) (by decide) (by decide)) ?_
                refine lv_l2i hx hb dX11_drift_87 rfl ?_
                refine sn_top (y := nI (lt1 (lt1 a1) % 4)) (lN_i _) ?_
                refine sg_cv (sg_runV (d := 0) (As := [.int (nI (lt1 a1 % 2)), .int (nI (lt1 (lt1 a1) % 4))]) (rest := []) hx hb hml hts hown hK hM (m_sends l G b σ2 (rS B1) (nI (lt1 a1 % 2)) (nI (lt1 (lt1 a1) % 4)) hC.1.2.2.2.2.1 ds) mi_X11_sends wl_X11_98 (sh18 kc_131) (kd_lt kc_131 (by decide)) rfl rfl rfl hl.1 rfl (Nat.le_of_ble_eq_true rfl) dX11_drift_88 ⟨by decide, by decide⟩ ⟨Nat.le_refl 0, Nat.le_refl 0⟩) hM sgA (fun σ3 H locs hp_88 hM => ?_)
                subst σ3
                have hC2 := snd_RecF hC (lt1 a1 % 2) (lt1 (lt1 a1) % 4) ds
                have hB2 := sent_ok hB (show lt1 a1 % 2 < 2 by omega) (show lt1 (lt1 a1) % 4 < 4 by omega) ds
                have hp16 : ptS (sentR B1 (lt1 a1 % 2) (lt1 (lt1 a1) % 4)) (rS B1) < 16 := pt_lt (fam_lt _ _ _ _ _) (hB2.2.2.1 (rS B1) (Nat.lt_succ_self _)).2
                refine lv_aload_n hx hb dX11_drift_91 rfl (lv_at hl 2 rfl) ?_
                refine lv_aload_n hx hb dX11_drift_92 rfl (lv_at hl 2 rfl) ?_
                refine sg_get (v := .ref (b + 132)) hx hb hts hown hK hM (sh18 kc_131) (kd_lt kc_131 (by decide)) rfl inX11 0 (by decide) wf_X11_7 rfl dX11_drift_93 ?_
                refine lv_iconst (v := nI 4) hx hb dX11_drift_96 (by decide) ?_
                refine sg_iald hx hb hK hM (sh19 kc_132) (kd_lt kc_132 (by decide)) (i := 4) (by omega) (by decide) dX11_drift_97 ?_
                refine sn_top (y := nI (rS B1 + 1)) (hC2.1.2.2.2.2.1) ?_
                refine lv_iconst (v := nI 1) hx hb dX11_drift_98 (by decide) ?_
                refine sn_isub hx hb dX11_drift_99 (by omega) ?_
                refine sn_top (y := nI (rS B1)) (by rw [Nat.add_sub_cancel]) ?_
                refine sg_ci (sg_runV (d := 2) (As := [.int (nI (rS B1))]) (rest := []) hx hb hml hts hown hK hM (m_pointSent l G b (sndM σ2 (rS B1) (nI (lt1 a1 % 2)) (nI (lt1 (lt1 a1) % 4))) (sentR B1 (lt1 a1 % 2) (lt1 (lt1 a1) % 4)) hB2 hC2 (rS B1) (Nat.lt_succ_self _)) mi_X11_pointSent wl_X11_102 (sh18 kc_131) (kd_lt kc_131 (by decide)) rfl rfl rfl hl.1 rfl (Nat.le_of_ble_eq_true rfl) dX11_drift_100 ⟨by decide, by decide⟩ ⟨Nat.le_refl 0, Nat.le_refl 0⟩) hM sgA (fun r_100 σ_100 H locs hp_100 hM => ?_)
                obtain ⟨hr_100, hs_100⟩ := hp_100; subst r_100; subst σ_100
                refine lv_istore (lv' := [(7, .int (nI (ptS (sentR B1 (lt1 a1 % 2) (lt1 (lt1 a1) % 4)) (rS B1)))), (3, .long (lN (lt1 (lt1 a1)))), (6, .int (nI (lt1 a1 % 2))), (0, .ref (b + 131)), (1, .int (nI k1)), (2, .int (nI x1)), (5, .int (nI d1))]) hx hb dX11_drift_103 hl (by decide) rfl (fun ls hl => ?_)
                refine lv_lload_n hx hb dX11_drift_105 rfl (lv_at hl 1 rfl) ?_
                refine sg_cl (sg_runS (d := 0) (As := [.long (lN (lt1 (lt1 a1)))]) (rest := []) hx hb hml hts hown hK hM (m_drawn l G b (sndM σ2 (rS B1) (nI (lt1 a1 % 2)) (nI (lt1 (lt1 a1) % 4))) (lt1 (lt1 a1)) (lt1_lt _)) mi_X11_drawn wl_X11_113 rfl hl.1 rfl (Nat.le_of_ble_eq_true rfl) dX11_drift_106 ⟨by decide, by decide⟩ ⟨Nat.le_refl 0, Nat.le_refl 0⟩) hM sgA (fun r_106 σ_106 H locs hp_106 hM => ?_)
                obtain ⟨hr_106, hs_106⟩ := hp_106; subst r_106; subst σ_106
                refine lv_lstore_n (lv' := [(3, .long (lN (lt1 (lt1 (lt1 a1))))), (7, .int (nI (ptS (sentR B1 (lt1 a1 % 2) (lt1 (lt1 a1) % 4)) (rS B1)))), (6, .int (nI (lt1 a1 % 2))), (0, .ref (b + 131)), (1, .int (nI k1)), (2, .int (nI x1)), (5, .int (nI d1))]) hx hb dX11_drift_109 rfl hl (by decide) rfl (fun ls hl => ?_)
                refine lv_lload_n hx hb dX11_drift_110 rfl (lv_at hl 0 rfl) ?_
                refine lv_ldc2 (v := 25) hx hb hown (hts _ wkl_X11_121) dX11_drift_111 ?_
                refine lv_lrem hx hb dX11_drift_114 (by decide) ?_
                refine sn_topl (y := lN (lt1 (lt1 (lt1 a1)) % 25)) (pk_lRem (Nat.lt_of_lt_of_le (lt1_lt _) (by decide)) (by decide) (by decide)) ?_
                refine lv_l2i hx hb dX11_drift_115 rfl ?_
                refine sn_top (y := nI (lt1 (lt1 (lt1 a1)) % 25)) (lN_i _) ?_
                refine lv_bipush (v := nI 12) hx hb dX11_drift_116 (by decide) ?_
                refine lv_isub hx hb dX11_drift_118 ?_
                refine lv_istore (lv' := [(8, .int ((nI (lt1 (lt1 (lt1 a1)) % 25)) - (nI 12))), (3, .long (lN (lt1 (lt1 (lt1 a1))))), (7, .int (nI (ptS (sentR B1 (lt1 a1 % 2) (lt1 (lt1 a1) % 4)) (rS B1)))), (6, .int (nI (lt1 a1 % 2))), (0, .ref (b + 131)), (1, .int (nI k1)), (2, .int (nI x1)), (5, .int (nI d1))]) hx hb dX11_drift_119 hl (by decide) rfl (fun ls hl => ?_)
                refine lv_lload_n hx hb dX11_drift_121 rfl (lv_at hl 1 rfl) ?_
                refine sg_cl (sg_runS (d := 0) (As := [.long (lN (lt1 (lt1 (lt1 a1))))]) (rest := []) hx hb hml hts hown hK hM (m_drawn l G b (sndM σ2 (rS B1) (nI (lt1 a1 % 2)) (nI (lt1 (lt1 a1) % 4))) (lt1 (lt1 (lt1 a1))) (lt1_lt _)) mi_X11_drawn wl_X11_113 rfl hl.1 rfl (Nat.le_of_ble_eq_true rfl) dX11_drift_122 ⟨by decide, by decide⟩ ⟨Nat.le_refl 0, Nat.le_refl 0⟩) hM sgA (fun r_122 σ_122 H locs hp_122 hM => ?_)
                obtain ⟨hr_122, hs_122⟩ := hp_122; subst r_122; subst σ_122
                refine lv_lstore_n (lv' := [(3, .long (lN (lt1 (lt1 (lt1 (lt1 a1)))))), (8, .int ((nI (lt1 (lt1 (lt1 a1)) % 25)) - (nI 12))), (7, .int (nI (ptS (sentR B1 (lt1 a1 % 2) (lt1 (lt1 a1) % 4)) (rS B1)))), (6, .int (nI (lt1 a1 % 2))), (0, .ref (b + 131)), (1, .int (nI k1)), (2, .int (nI x1)), (5, .int (nI d1))]) hx hb dX11_drift_125 rfl hl (by decide) rfl (fun ls hl => ?_)
                refine lv_aload_n hx hb dX11_drift_126 rfl (lv_at hl 4 rfl) ?_
                refine lv_iload hx hb dX11_drift_127 (lv_at hl 2 rfl) ?_
                refine sg_ci (sg_runS (d := 0) (As := [.int (nI (ptS (sentR B1 (lt1 a1 % 2) (lt1 (lt1 a1) % 4)) (rS B1)))]) (rest := [.ref (b + 131)]) hx hb hml hts hown hK hM (c_m_xOf l G b (sndM σ2 (rS B1) (nI (lt1 a1 % 2)) (nI (lt1 (lt1 a1) % 4))) (ptS (sentR B1 (lt1 a1 % 2) (lt1 (lt1 a1) % 4)) (rS B1)) hp16) mi_X11_xOf wl_X11_51 rfl hl.1 rfl (Nat.le_of_ble_eq_true rfl) dX11_drift_129 ⟨by decide, by decide⟩ ⟨Nat.le_refl 0, Nat.le_refl 0⟩) hM sgA (fun r_129 σ_129 H locs hp_129 hM => ?_)
                obtain ⟨hr_129, hs_129⟩ := hp_129; subst r_129; subst σ_129
                refine lv_iload hx hb dX11_drift_132 (lv_at hl 1 rfl) ?_
                refine lv_iadd hx hb dX11_drift_134 ?_
                refine sn_top (y := gx (ptS (sentR B1 (lt1 a1 % 2) (lt1 (lt1 a1) % 4)) (rS B1)) + nI (lt1 (lt1 (lt1 a1)) % 25) - nI 12) ((dr_rng _ (by omega) _ (by omega)).2) ?_
                refine lv_iload hx hb dX11_drift_135 (lv_at hl 2 rfl) ?_
                refine sg_ci (sg_runS (d := 0) (As := [.int (nI (ptS (sentR B1 (lt1 a1 % 2) (lt1 (lt1 a1) % 4)) (rS B1)))]) (rest := [.int (gx (ptS (sentR B1 (lt1 a1 % 2) (lt1 (lt1 a1) % 4)) (rS B1)) + nI (lt1 (lt1 (lt1 a1)) % 25) - nI 12), .ref (b + 131)]) hx hb hml hts hown hK hM (c_m_yOf l G b (sndM σ2 (rS B1) (nI (lt1 a1 % 2)) (nI (lt1 (lt1 a1) % 4))) (ptS (sentR B1 (lt1 a1 % 2) (lt1 (lt1 a1) % 4)) (rS B1)) hp16) mi_X11_yOf wl_X11_54 rfl hl.1 rfl (Nat.le_of_ble_eq_true rfl) dX11_drift_137 ⟨by decide, by decide⟩ ⟨Nat.le_refl 0, Nat.le_refl 0⟩) hM sgA (fun r_137 σ_137 H locs hp_137 hM => ?_)
                obtain ⟨hr_137, hs_137⟩ := hp_137; subst r_137; subst σ_137
                refine lv_lload_n hx hb dX11_drift_140 rfl (lv_at hl 0 rfl) ?_
                refine lv_ldc2 (v := 25) hx hb hown (hts _ wkl_X11_121) dX11_drift_141 ?_
                refine lv_lrem hx hb dX11_drift_144 (by decide) ?_
                refine sn_topl (y := lN (lt1 (lt1 (lt1 (lt1 a1))) % 25)) (pk_lRem (Nat.lt_of_lt_of_le (lt1_lt _) (by decide)) (by decide) (by decide)) ?_
                refine lv_l2i hx hb dX11_drift_145 rfl ?_
                refine sn_top (y := nI (lt1 (lt1 (lt1 (lt1 a1))) % 25)) (lN_i _) ?_
                refine lv_iadd hx hb dX11_drift_146 ?_
                refine lv_bipush (v := nI 12) hx hb dX11_drift_147 (by decide) ?_
                refine lv_isub hx hb dX11_drift_149 ?_
                refine sg_cv (sg_runV (d := 0) (As := [.int (gx (ptS (sentR B1 (lt1 a1 % 2) (lt1 (lt1 a1) % 4)) (rS B1)) + nI (lt1 (lt1 (lt1 a1)) % 25) - nI 12), .int (((gy (ptS (sentR B1 (lt1 a1 % 2) (lt1 (lt1 a1) % 4)) (rS B1))) + (nI (lt1 (lt1 (lt1 (lt1 a1))) % 25))) - (nI 12))]) (rest := []) hx hb hml hts hown hK hM (m_hears l G b (sndM σ2 (rS B1) (nI (lt1 a1 % 2)) (nI (lt1 (lt1 a1) % 4))) (rN B1) (gx (ptS (sentR B1 (lt1 a1 % 2) (lt1 (lt1 a1) % 4)) (rS B1)) + nI (lt1 (lt1 (lt1 a1)) % 25) - nI 12) (gy (ptS (sentR B1 (lt1 a1 % 2) (lt1 (lt1 a1) % 4)) (rS B1)) + nI (lt1 (lt1 (lt1 (lt1 a1))) % 25) - nI 12) hC2.1.2.2.2.2.2 dn) mi_X11_hears wl_X11_105 (sh18 kc_131) (kd_lt kc_131 (by decide)) rfl rfl rfl hl.1 rfl (Nat.le_of_ble_eq_true rfl) dX11_drift_150 ⟨by decide, by decide⟩ ⟨Nat.le_refl 0, Nat.le_refl 0⟩) hM sgA (fun σ4 H locs hp_150 hM => ?_)
                subst σ4
                refine lv_iinc (v := nI (d1 + 1)) (lv' := [(5, .int (nI (d1 + 1))), (3, .long (lN (lt1 (lt1 (lt1 (lt1 a1)))))), (8, .int ((nI (lt1 (lt1 (lt1 a1)) % 25)) - (nI 12))), (7, .int (nI (ptS (sentR B1 (lt1 a1 % 2) (lt1 (lt1 a1) % 4)) (rS B1)))), (6, .int (nI (lt1 a1 % 2))), (0, .ref (b + 131)), (1, .int (nI k1)), (2, .int (nI x1))]) hx hb dX11_drift_153 hl (k := 7) rfl (q_inc _) (by decide) rfl (fun ls hl => ?_)
                refine lv_goto (tgt := 33) hx hb dX11_drift_156 (by decide) ?_
                exact ih33 (d1 + 1) (heaM (sndM σ2 (rS B1) (nI (lt1 a1 % 2)) (nI (lt1 (lt1 a1) % 4))) (rN B1) (gx (ptS (sentR B1 (lt1 a1 % 2) (lt1 (lt1 a1) % 4)) (rS B1)) + nI (lt1 (lt1 (lt1 a1)) % 25) - nI 12) (gy (ptS (sentR B1 (lt1 a1 % 2) (lt1 (lt1 a1) % 4)) (rS B1)) + nI (lt1 (lt1 (lt1 (lt1 a1))) % 25) - nI 12)) (drR B1 a1) (lt1 (lt1 (lt1 (lt1 a1)))) (by omega) (lt1_lt _) (dr_ok hB a1 ds dn) (hea_RecF hC2 _ _ hB2.2.1.1) (dr_step dd ds dn hdr) (fun c z => by rw [hea_o z, snd_o z]; exact hfr c z) (by omega) _ _ _ hM (lv_sub hl [5, 6, 7, 1, 0] rfl)
      exact L33 (_ + 1) 0 σ1 w.1 x1 (Nat.zero_le _) (by omega) hR hA1 (by rw [Nat.sub_zero, Nat.zero_add]) (fun _ _ => rfl) (Nat.lt_succ_self _) _ _ _ hM (lv_sub hl [2, 3, 4, 1, 0] rfl)
    · refine lv_ldc (v := (-1000000002)) hx hb hown (hts (Cond.constant RX11 84 ((-1000000002))) wk_X11_84) dX11_drift_20 ?_
      exact hret _ _ _ _ _ _ dX11_drift_22 hM (⟨by rw [S_drift_o2 dq2], by rw [S_drift_o2 dq2]; exact hI, fun _ _ => rfl⟩)

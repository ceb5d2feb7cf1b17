theorem sw_ne {x : Int32} {hi : Nat} (h : x.toInt < 0 ∨ (hi : Int) < x.toInt) (k : Nat) (hk : k ≤ hi) (hh : hi < 1000) : ¬ x = nI k := by
  intro q
  rw [q, nI_toInt (by omega)] at h
  omega
def rcN (A : Rec) : Nat := if dE A < NV then rN A else 0
theorem dE_le {A : Rec} (hR : ROk A) : dE A ≤ NV := dA_le hR (Nat.le_refl _) _ _ (Nat.le_refl _) 0
/-- the search's row, behind seekNearest() -/
def Sought (σ : Mem) (A : Rec) : Prop := (dE A < NV → RowN σ A (rN A) (rE A) (rN A)) ∧ (¬ dE A < NV → σ 117 0 = nI 0)
theorem Sought.cnt {σ : Mem} {A : Rec} (h : Sought σ A) : σ 117 0 = nI (rcN A) := by
  unfold rcN
  split
  · rename_i q; exact (h.1 q).1
  · rename_i q; exact h.2 q
set_option maxHeartbeats 4000000 in
set_option maxRecDepth 100000 in
theorem c_isOutside (l : Launch) (G : GT) (b : Nat) (σ : Mem) (x lo hi : Int32) : KZ l G b yX10_isOutside cX10_isOutside 3 0 σ [.int x, .int lo, .int hi] (fun r σ' => r = bz (!inR x lo hi) ∧ σ' = σ) := by
  refine sg_metZ [.int x, .int lo, .int hi] (by decide) (Nat.le_of_ble_eq_true rfl) ?_
  intro vp ve vs vm args below meth vc ls Q hx hb hml hown hts hK hM hl hret
  have hl : lv_has ls 3 [(0, .int x), (1, .int lo), (2, .int hi)] := hl
  refine lv_iload_n hx hb dX10_isOutside_0 rfl (lv_at hl 0 rfl) ?_
  refine lv_iload_n hx hb dX10_isOutside_1 rfl (lv_at hl 1 rfl) ?_
  refine lv_icmp_lt (tgt := 10) hx hb dX10_isOutside_2 (by decide) (fun c_2 => ?_) (fun c_2 => ?_)
  · refine lv_iconst (v := nI 1) hx hb dX10_isOutside_10 (by decide) ?_
    refine lv_goto (tgt := 15) hx hb dX10_isOutside_11 (by decide) ?_
    exact hret _ _ (!inR x lo hi) _ _ _ _ dX10_isOutside_15 hM (by first | rw [inR_f1 c_2]; rfl | rw [inR_f2 c_7]; rfl | rw [inR_t c_2 c_7]; rfl) (⟨rfl, rfl⟩)
  · refine lv_iload_n hx hb dX10_isOutside_5 rfl (lv_at hl 0 rfl) ?_
    refine lv_iload_n hx hb dX10_isOutside_6 rfl (lv_at hl 2 rfl) ?_
    refine lv_icmp_le (tgt := 14) hx hb dX10_isOutside_7 (by decide) (fun c_7 => ?_) (fun c_7 => ?_)
    · refine lv_iconst (v := nI 0) hx hb dX10_isOutside_14 (by decide) ?_
      exact hret _ _ (!inR x lo hi) _ _ _ _ dX10_isOutside_15 hM (by first | rw [inR_f1 c_2]; rfl | rw [inR_f2 c_7]; rfl | rw [inR_t c_2 c_7]; rfl) (⟨rfl, rfl⟩)
    · refine lv_iconst (v := nI 1) hx hb dX10_isOutside_10 (by decide) ?_
      refine lv_goto (tgt := 15) hx hb dX10_isOutside_11 (by decide) ?_
      exact hret _ _ (!inR x lo hi) _ _ _ _ dX10_isOutside_15 hM (by first | rw [inR_f1 c_2]; rfl | rw [inR_f2 c_7]; rfl | rw [inR_t c_2 c_7]; rfl) (⟨rfl, rfl⟩)
set_option maxHeartbeats 4000000 in
set_option maxRecDepth 100000 in
theorem c_isPoint (l : Launch) (G : GT) (b : Nat) (σ : Mem) (x : Int32) : KZ l G b yX10_isPoint cX10_isPoint 1 0 σ [.int x] (fun r σ' => r = bz (inR x (nI 0) (nI 15)) ∧ σ' = σ) := by
  refine sg_metZ [.int x] (by decide) (Nat.le_of_ble_eq_true rfl) ?_
  intro vp ve vs vm args below meth vc ls Q hx hb hml hown hts hK hM hl hret
  have hl : lv_has ls 1 [(0, .int x)] := hl
  refine lv_iload_n hx hb dX10_isPoint_0 rfl (lv_at hl 0 rfl) ?_
  refine lv_if_lt (tgt := 14) hx hb dX10_isPoint_1 (by decide) (fun c_1 => ?_) (fun c_1 => ?_)
  · refine lv_iconst (v := nI 0) hx hb dX10_isPoint_14 (by decide) ?_
    exact hret _ _ (inR x (nI 0) (nI 15)) _ _ _ _ dX10_isPoint_15 hM (by first | rw [inR_f1 (hi := nI 15) (show x < nI 0 from c_1)]; rfl | rw [inR_ge (by decide) c_7]; rfl | rw [inR_ok (by decide) c_1 c_7]; rfl) (⟨rfl, rfl⟩)
  · refine lv_iload_n hx hb dX10_isPoint_4 rfl (lv_at hl 0 rfl) ?_
    refine lv_bipush (v := nI 16) hx hb dX10_isPoint_5 (by decide) ?_
    refine lv_icmp_ge (tgt := 14) hx hb dX10_isPoint_7 (by decide) (fun c_7 => ?_) (fun c_7 => ?_)
    · refine lv_iconst (v := nI 0) hx hb dX10_isPoint_14 (by decide) ?_
      exact hret _ _ (inR x (nI 0) (nI 15)) _ _ _ _ dX10_isPoint_15 hM (by first | rw [inR_f1 (hi := nI 15) (show x < nI 0 from c_1)]; rfl | rw [inR_ge (by decide) c_7]; rfl | rw [inR_ok (by decide) c_1 c_7]; rfl) (⟨rfl, rfl⟩)
    · refine lv_iconst (v := nI 1) hx hb dX10_isPoint_10 (by decide) ?_
      refine lv_goto (tgt := 15) hx hb dX10_isPoint_11 (by decide) ?_
      exact hret _ _ (inR x (nI 0) (nI 15)) _ _ _ _ dX10_isPoint_15 hM (by first | rw [inR_f1 (hi := nI 15) (show x < nI 0 from c_1)]; rfl | rw [inR_ge (by decide) c_7]; rfl | rw [inR_ok (by decide) c_1 c_7]; rfl) (⟨rfl, rfl⟩)
set_option maxHeartbeats 4000000 in
set_option maxRecDepth 100000 in
theorem c_isFamily (l : Launch) (G : GT) (b : Nat) (σ : Mem) (x : Int32) : KZ l G b yX10_isFamily cX10_isFamily 1 0 σ [.int x] (fun r σ' => r = bz (inR x (nI 0) (nI 3)) ∧ σ' = σ) := by
  refine sg_metZ [.int x] (by decide) (Nat.le_of_ble_eq_true rfl) ?_
  intro vp ve vs vm args below meth vc ls Q hx hb hml hown hts hK hM hl hret
  have hl : lv_has ls 1 [(0, .int x)] := hl
  refine lv_iload_n hx hb dX10_isFamily_0 rfl (lv_at hl 0 rfl) ?_
  refine lv_if_lt (tgt := 13) hx hb dX10_isFamily_1 (by decide) (fun c_1 => ?_) (fun c_1 => ?_)
  · refine lv_iconst (v := nI 0) hx hb dX10_isFamily_13 (by decide) ?_
    exact hret _ _ (inR x (nI 0) (nI 3)) _ _ _ _ dX10_isFamily_14 hM (by first | rw [inR_f1 (hi := nI 3) (show x < nI 0 from c_1)]; rfl | rw [inR_ge (by decide) c_6]; rfl | rw [inR_ok (by decide) c_1 c_6]; rfl) (⟨rfl, rfl⟩)
  · refine lv_iload_n hx hb dX10_isFamily_4 rfl (lv_at hl 0 rfl) ?_
    refine lv_iconst (v := nI 4) hx hb dX10_isFamily_5 (by decide) ?_
    refine lv_icmp_ge (tgt := 13) hx hb dX10_isFamily_6 (by decide) (fun c_6 => ?_) (fun c_6 => ?_)
    · refine lv_iconst (v := nI 0) hx hb dX10_isFamily_13 (by decide) ?_
      exact hret _ _ (inR x (nI 0) (nI 3)) _ _ _ _ dX10_isFamily_14 hM (by first | rw [inR_f1 (hi := nI 3) (show x < nI 0 from c_1)]; rfl | rw [inR_ge (by decide) c_6]; rfl | rw [inR_ok (by decide) c_1 c_6]; rfl) (⟨rfl, rfl⟩)
    · refine lv_iconst (v := nI 1) hx hb dX10_isFamily_9 (by decide) ?_
      refine lv_goto (tgt := 14) hx hb dX10_isFamily_10 (by decide) ?_
      exact hret _ _ (inR x (nI 0) (nI 3)) _ _ _ _ dX10_isFamily_14 hM (by first | rw [inR_f1 (hi := nI 3) (show x < nI 0 from c_1)]; rfl | rw [inR_ge (by decide) c_6]; rfl | rw [inR_ok (by decide) c_1 c_6]; rfl) (⟨rfl, rfl⟩)
theorem stB_lo {x : Int32} {m : Nat} (h : x < 0) : stB x m = false := inR_f1 (show x < nI 0 from h)
theorem stB_ge {x : Int32} {m : Nat} (hm : m ≤ 3) (h : nI (2 ^ m) ≤ x) : stB x m = false := by
  have h1 := p2_le hm
  have h2 := p2_pos m
  exact inR_ge (by omega) (by rw [show 2 ^ m - 1 + 1 = 2 ^ m by omega]; exact h)
theorem stB_ok {x : Int32} {m : Nat} (hm : m ≤ 3) (h0 : ¬ x < 0) (h : ¬ nI (2 ^ m) ≤ x) : stB x m = true := by
  have h1 := p2_le hm
  have h2 := p2_pos m
  exact inR_ok (by omega) h0 (by rw [show 2 ^ m - 1 + 1 = 2 ^ m by omega]; exact h)
set_option maxHeartbeats 4000000 in
set_option maxRecDepth 100000 in
theorem c_isState (l : Launch) (G : GT) (b : Nat) (σ : Mem) (m g h : Nat) (x : Int32) (hc : CodeAt σ 2 m g h) : KZ l G b yX10_isState cX10_isState 2 1 σ [.ref (b + 0), .int x] (fun r σ' => r = bz (stB x m) ∧ σ' = σ) := by
  refine sg_metZ [.ref (b + 0), .int x] (by decide) (Nat.le_of_ble_eq_true rfl) ?_
  intro vp ve vs vm args below meth vc ls Q hx hb hml hown hts hK hM hl hret
  have hl : lv_has ls 2 [(0, .ref (b + 0)), (1, .int x)] := hl
  refine lv_iload_n hx hb dX10_isState_0 rfl (lv_at hl 1 rfl) ?_
  refine lv_if_lt (tgt := 22) hx hb dX10_isState_1 (by decide) (fun c_1 => ?_) (fun c_1 => ?_)
  · refine lv_iconst (v := nI 0) hx hb dX10_isState_22 (by decide) ?_
    exact hret _ _ (stB x m) _ _ _ _ dX10_isState_23 hM (by first | rw [stB_lo c_1]; rfl | rw [stB_ge hc.m c_15]; rfl | rw [stB_ok hc.m c_1 c_15]; rfl) (⟨rfl, rfl⟩)
  · refine lv_iload_n hx hb dX10_isState_4 rfl (lv_at hl 1 rfl) ?_
    refine lv_aload_n hx hb dX10_isState_5 rfl (lv_at hl 0 rfl) ?_
    refine sg_get (v := .ref (b + 1)) hx hb hts hown hK hM (sh0 kc_0) (kd_lt kc_0 (by decide)) rfl inX10 0 (by decide) wf_X10_10 rfl dX10_isState_6 ?_
    refine sg_get (v := .ref (b + 2)) hx hb hts hown hK hM (sh1 kc_1) (kd_lt kc_1 (by decide)) rfl inX3 0 (by decide) wf_X10_68 rfl dX10_isState_9 ?_
    refine sg_ci (sg_runV (d := 0) (As := []) (rest := [.int x]) hx hb hml hts hown hK hM (c_Code_states l G b σ 2 m g h kc_2 (hc)) mi_X0_states wl_X10_85 (sh2 kc_2) (kd_lt kc_2 (by decide)) rfl rfl rfl hl.1 rfl (Nat.le_of_ble_eq_true rfl) dX10_isState_12 ⟨by decide, by decide⟩ ⟨Nat.le_refl 0, Nat.le_refl 0⟩) hM sgA (fun r_12 σ_12 H locs hp_12 hM => ?_)
    obtain ⟨hr_12, hs_12⟩ := hp_12; subst r_12; subst σ_12
    refine lv_icmp_ge (tgt := 22) hx hb dX10_isState_15 (by decide) (fun c_15 => ?_) (fun c_15 => ?_)
    · refine lv_iconst (v := nI 0) hx hb dX10_isState_22 (by decide) ?_
      exact hret _ _ (stB x m) _ _ _ _ dX10_isState_23 hM (by first | rw [stB_lo c_1]; rfl | rw [stB_ge hc.m c_15]; rfl | rw [stB_ok hc.m c_1 c_15]; rfl) (⟨rfl, rfl⟩)
    · refine lv_iconst (v := nI 1) hx hb dX10_isState_18 (by decide) ?_
      refine lv_goto (tgt := 23) hx hb dX10_isState_19 (by decide) ?_
      exact hret _ _ (stB x m) _ _ _ _ dX10_isState_23 hM (by first | rw [stB_lo c_1]; rfl | rw [stB_ge hc.m c_15]; rfl | rw [stB_ok hc.m c_1 c_15]; rfl) (⟨rfl, rfl⟩)
set_option maxHeartbeats 4000000 in
set_option maxRecDepth 100000 in
theorem c_seekNearest (l : Launch) (G : GT) (b : Nat) (σ : Mem) (A : Rec) (hR : ROk A) (hA : CM σ 1 A) : KI l G b yX10_seekNearest cX10_seekNearest 1 5 σ [.ref (b + 0)] (fun r σ' => r = nI (dE A) ∧ Sought σ' A ∧ ∀ c, c < 116 ∨ 125 ≤ c → σ' c = σ c) := by
  refine sg_metI [.ref (b + 0)] (by decide) (Nat.le_of_ble_eq_true rfl) ?_
  intro vp ve vs vm args below meth vc ls Q hx hb hml hown hts hK hM hl hret
  have hl : lv_has ls 1 [(0, .ref (b + 0))] := hl
  refine lv_aload_n hx hb dX10_seekNearest_0 rfl (lv_at hl 0 rfl) ?_
  refine sg_get (v := .ref (b + 116)) hx hb hts hown hK hM (sh0 kc_0) (kd_lt kc_0 (by decide)) rfl inX10 5 (by decide) wf_X10_41 rfl dX10_seekNearest_1 ?_
  refine lv_aload_n hx hb dX10_seekNearest_4 rfl (lv_at hl 0 rfl) ?_
  refine sg_get (v := .ref (b + 1)) hx hb hts hown hK hM (sh0 kc_0) (kd_lt kc_0 (by decide)) rfl inX10 0 (by decide) wf_X10_10 rfl dX10_seekNearest_5 ?_
  refine lv_aload_n hx hb dX10_seekNearest_8 rfl (lv_at hl 0 rfl) ?_
  refine sg_get (v := .ref (b + 1)) hx hb hts hown hK hM (sh0 kc_0) (kd_lt kc_0 (by decide)) rfl inX10 0 (by decide) wf_X10_10 rfl dX10_seekNearest_9 ?_
  refine sg_get (v := .ref (b + 8)) hx hb hts hown hK hM (sh1 kc_1) (kd_lt kc_1 (by decide)) rfl inX3 2 (by decide) wf_X10_104 rfl dX10_seekNearest_12 ?_
  refine sg_get (v := .int (σ 8 0)) hx hb hts hown hK hM (sh5 kc_8) (kd_lt kc_8 (by decide)) rfl inX6 0 (by decide) wf_X10_114 rfl dX10_seekNearest_15 ?_
  refine sn_top (y := nI (rN A)) (hA.2.2.2.2.1) ?_
  refine lv_aload_n hx hb dX10_seekNearest_18 rfl (lv_at hl 0 rfl) ?_
  refine sg_get (v := .ref (b + 1)) hx hb hts hown hK hM (sh0 kc_0) (kd_lt kc_0 (by decide)) rfl inX10 0 (by decide) wf_X10_10 rfl dX10_seekNearest_19 ?_
  refine sg_get (v := .int (σ 1 3)) hx hb hts hown hK hM (sh1 kc_1) (kd_lt kc_1 (by decide)) rfl inX3 3 (by decide) wf_X10_81 rfl dX10_seekNearest_22 ?_
  refine sn_top (y := rE A) (hA.2.1) ?_
  refine sg_ci (sg_runV (d := 4) (As := [.ref (b + 1), .int (nI (rN A)), .int (rE A)]) (rest := []) hx hb hml hts hown hK hM (c_Se_seek l G b σ A (rN A) (rE A) hR hA (Nat.le_refl _)) mi_X8_seek wl_X10_224 (sh10 kc_116) (kd_lt kc_116 (by decide)) rfl rfl rfl hl.1 rfl (Nat.le_of_ble_eq_true rfl) dX10_seekNearest_25 ⟨by decide, by decide⟩ ⟨Nat.le_refl 0, Nat.le_refl 0⟩) hM sgA (fun r_25 σ_25 H locs hp_25 hM => ?_)
  exact hret _ _ _ _ _ _ dX10_seekNearest_28 hM (⟨hp_25.1, ⟨hp_25.2.1, hp_25.2.2.1⟩, hp_25.2.2.2⟩)
theorem un_ok (A : Rec) : unN A (min (rS A) (rcN A)) = unA A := by
  unfold unA rcN
  split
  · rfl
  · rw [Nat.min_zero]; rfl
set_option maxHeartbeats 4000000 in
set_option maxRecDepth 100000 in
theorem c_countUnlike (l : Launch) (G : GT) (b : Nat) (σ : Mem) (A : Rec) (hR : ROk A) (hA : CM σ 1 A) (hq : Sought σ A) : KI l G b yX10_countUnlike cX10_countUnlike 4 1 σ [.ref (b + 0)] (fun r σ' => r = nI (unA A) ∧ σ' = σ) := by
  refine sg_metI [.ref (b + 0)] (by decide) (Nat.le_of_ble_eq_true rfl) ?_
  intro vp ve vs vm args below meth vc ls Q hx hb hml hown hts hK hM hl hret
  have hl : lv_has ls 4 [(0, .ref (b + 0))] := hl
  have hS24 := hR.2.1.1
  have hN24 := hR.2.1.2
  have hrc24 : rcN A ≤ 24 := by unfold rcN; split <;> omega
  refine lv_aload_n hx hb dX10_countUnlike_0 rfl (lv_at hl 0 rfl) ?_
  refine sg_get (v := .ref (b + 1)) hx hb hts hown hK hM (sh0 kc_0) (kd_lt kc_0 (by decide)) rfl inX10 0 (by decide) wf_X10_10 rfl dX10_countUnlike_1 ?_
  refine sg_get (v := .ref (b + 3)) hx hb hts hown hK hM (sh1 kc_1) (kd_lt kc_1 (by decide)) rfl inX3 1 (by decide) wf_X10_89 rfl dX10_countUnlike_4 ?_
  refine sg_get (v := .int (σ 3 0)) hx hb hts hown hK hM (sh3 kc_3) (kd_lt kc_3 (by decide)) rfl inX7 0 (by decide) wf_X10_134 rfl dX10_countUnlike_7 ?_
  refine sn_top (y := nI (rS A)) (hA.2.2.1) ?_
  refine lv_aload_n hx hb dX10_countUnlike_10 rfl (lv_at hl 0 rfl) ?_
  refine sg_get (v := .ref (b + 116)) hx hb hts hown hK hM (sh0 kc_0) (kd_lt kc_0 (by decide)) rfl inX10 5 (by decide) wf_X10_41 rfl dX10_countUnlike_11 ?_
  refine sg_get (v := .ref (b + 117)) hx hb hts hown hK hM (sh10 kc_116) (kd_lt kc_116 (by decide)) rfl inX8 0 (by decide) wf_X10_223 rfl dX10_countUnlike_14 ?_
  refine sg_get (v := .int (σ 117 0)) hx hb hts hown hK hM (sh3 kc_117) (kd_lt kc_117 (by decide)) rfl inX7 0 (by decide) wf_X10_134 rfl dX10_countUnlike_17 ?_
  refine sn_top (y := nI (rcN A)) (hq.cnt) ?_
  refine va_mmin hx hb (by rw [hml]; exact hl.1.symm) hown (hts _ wl_X10_231) (hts _ ws_J9_min_7cf53) (hts _ wi_RJ9) (hts _ wc_J9_min_7cf53) (by decide) (Nat.le_of_ble_eq_true rfl) (Nat.le_refl 0) (Nat.le_refl 0) dX10_countUnlike_20 ?_
  refine sn_top (y := nI (min (rS A) (rcN A))) (q_min (by omega) (by omega)) ?_
  refine lv_istore_n (lv' := [(1, .int (nI (min (rS A) (rcN A)))), (0, .ref (b + 0))]) hx hb dX10_countUnlike_23 rfl hl (by decide) rfl (fun ls hl => ?_)
  refine lv_iconst (v := nI 0) hx hb dX10_countUnlike_24 (by decide) ?_
  refine lv_istore_n (lv' := [(2, .int (nI 0)), (1, .int (nI (min (rS A) (rcN A)))), (0, .ref (b + 0))]) hx hb dX10_countUnlike_25 rfl hl (by decide) rfl (fun ls hl => ?_)
  refine lv_iconst (v := nI 0) hx hb dX10_countUnlike_26 (by decide) ?_
  refine lv_istore_n (lv' := [(3, .int (nI 0)), (2, .int (nI 0)), (1, .int (nI (min (rS A) (rcN A)))), (0, .ref (b + 0))]) hx hb dX10_countUnlike_27 rfl hl (by decide) rfl (fun ls hl => ?_)
  have L28 : ∀ (fuel : Nat) (k : Nat) (u1 : Nat), (k ≤ min (rS A) (rcN A)) → (u1 = unN A k) → (min (rS A) (rcN A) - k) < fuel → ∀ (H : Heap) (locs : List Loc) (ls : Array Slot), St G (Fr b) b σ vs H locs → lv_has ls 4 [(0, .ref (b + 0)), (1, .int (nI (min (rS A) (rcN A)))), (2, .int (nI u1)), (3, .int (nI k))] → W vp l ve (RM 1) vs vm args below meth vc H locs 0 0 Q (F0 vm 28 ls []) := by
    intro fuel
    induction fuel with
    | zero => intro k u1 hk hu1 hF; exact absurd hF (Nat.not_lt_zero _)
    | succ fuel ih28 =>
      intro k u1 hk hu1 hF H locs ls hM hl
      refine lv_iload_n hx hb dX10_countUnlike_28 rfl (lv_at hl 3 rfl) ?_
      refine lv_iload_n hx hb dX10_countUnlike_29 rfl (lv_at hl 1 rfl) ?_
      refine sn_icmp_ge (tgt := 69) hx hb dX10_countUnlike_30 (by decide) (by omega) (by omega) (fun hlt => ?_) (fun hlt => ?_)
      · refine lv_iload_n hx hb dX10_countUnlike_69 rfl (lv_at hl 2 rfl) ?_
        exact hret _ _ _ _ _ _ dX10_countUnlike_70 hM (⟨by rw [hu1, show k = min (rS A) (rcN A) by omega, un_ok], rfl⟩)
      · have hd : dE A < NV := by
          apply Classical.byContradiction
          intro q
          have : rcN A = 0 := by unfold rcN; rw [if_neg q]
          omega
        have hrc : rcN A = rN A := by unfold rcN; rw [if_pos hd]
        have hlf := fam_lt (rM A) (rG A) (rH A) (stS A k) (rU A k)
        have hwl := (hR.2.2.1 k (by omega)).2
        refine lv_aload_n hx hb dX10_countUnlike_33 rfl (lv_at hl 0 rfl) ?_
        refine sg_get (v := .ref (b + 1)) hx hb hts hown hK hM (sh0 kc_0) (kd_lt kc_0 (by decide)) rfl inX10 0 (by decide) wf_X10_10 rfl dX10_countUnlike_34 ?_
        refine sg_get (v := .ref (b + 3)) hx hb hts hown hK hM (sh1 kc_1) (kd_lt kc_1 (by decide)) rfl inX3 1 (by decide) wf_X10_89 rfl dX10_countUnlike_37 ?_
        refine sg_get (v := .ref (b + 6)) hx hb hts hown hK hM (sh3 kc_3) (kd_lt kc_3 (by decide)) rfl inX7 3 (by decide) wf_X10_228 rfl dX10_countUnlike_40 ?_
        refine lv_iload_n hx hb dX10_countUnlike_43 rfl (lv_at hl 3 rfl) ?_
        refine sg_iald hx hb hK hM (sh4 kc_6) (kd_lt kc_6 (by decide)) (i := k) (by omega) (by decide) dX10_countUnlike_44 ?_
        refine sn_top (y := nI (ptS A k)) ((hA.2.2.2.1 k (by omega)).2.2.1) ?_
        refine lv_aload_n hx hb dX10_countUnlike_45 rfl (lv_at hl 0 rfl) ?_
        refine sg_get (v := .ref (b + 116)) hx hb hts hown hK hM (sh0 kc_0) (kd_lt kc_0 (by decide)) rfl inX10 5 (by decide) wf_X10_41 rfl dX10_countUnlike_46 ?_
        refine sg_get (v := .ref (b + 117)) hx hb hts hown hK hM (sh10 kc_116) (kd_lt kc_116 (by decide)) rfl inX8 0 (by decide) wf_X10_223 rfl dX10_countUnlike_49 ?_
        refine sg_get (v := .ref (b + 120)) hx hb hts hown hK hM (sh3 kc_117) (kd_lt kc_117 (by decide)) rfl inX7 3 (by decide) wf_X10_228 rfl dX10_countUnlike_52 ?_
        refine lv_iload_n hx hb dX10_countUnlike_55 rfl (lv_at hl 3 rfl) ?_
        refine sg_iald hx hb hK hM (sh4 kc_120) (kd_lt kc_120 (by decide)) (i := k) (by omega) (by decide) dX10_countUnlike_56 ?_
        refine sn_top (y := nI (pA A (rN A) (rE A) k)) (((hq.1 hd).2 k (by omega)).2.2.1) ?_
        refine sn_icmp_eq (tgt := 63) hx hb dX10_countUnlike_57 (by decide) (by have : ptS A k < 16 := pt_lt hlf hwl; omega) (by have : pA A (rN A) (rE A) k < 16 := pt_lt (fam_lt _ _ _ _ _) (cw_lt _ _ _); omega) (fun c_57 => ?_) (fun c_57 => ?_)
        · refine lv_iinc (v := nI (k + 1)) (lv' := [(3, .int (nI (k + 1))), (0, .ref (b + 0)), (1, .int (nI (min (rS A) (rcN A)))), (2, .int (nI u1))]) hx hb dX10_countUnlike_63 hl (k := 3) rfl (q_inc _) (by decide) rfl (fun ls hl => ?_)
          refine lv_goto (tgt := 28) hx hb dX10_countUnlike_66 (by decide) ?_
          exact ih28 (k + 1) u1 (by omega) (by show _ = unN A k + _; first | rw [if_pos c_57, hu1, Nat.add_zero] | rw [if_neg c_57, hu1]) (by omega) _ _ _ hM (lv_sub hl [1, 2, 3, 0] rfl)
        · refine lv_iinc (v := nI (u1 + 1)) (lv' := [(2, .int (nI (u1 + 1))), (0, .ref (b + 0)), (1, .int (nI (min (rS A) (rcN A)))), (3, .int (nI k))]) hx hb dX10_countUnlike_60 hl (k := 2) rfl (q_inc _) (by decide) rfl (fun ls hl => ?_)
          refine lv_iinc (v := nI (k + 1)) (lv' := [(3, .int (nI (k + 1))), (2, .int (nI (u1 + 1))), (0, .ref (b + 0)), (1, .int (nI (min (rS A) (rcN A))))]) hx hb dX10_countUnlike_63 hl (k := 3) rfl (q_inc _) (by decide) rfl (fun ls hl => ?_)
          refine lv_goto (tgt := 28) hx hb dX10_countUnlike_66 (by decide) ?_
          exact ih28 (k + 1) (u1 + 1) (by omega) (by show _ = unN A k + _; first | rw [if_pos c_57, hu1, Nat.add_zero] | rw [if_neg c_57, hu1]) (by omega) _ _ _ hM (lv_sub hl [2, 3, 1, 0] rfl)
  exact L28 (_ + 1) 0 0 (Nat.zero_le _) rfl (Nat.lt_succ_self _) _ _ _ hM (lv_sub hl [3, 2, 1, 0] rfl)
theorem sg_0 {A : Rec} (h : rcN A = 0) : sgA' A = 0 := by
  unfold sgA'
  unfold rcN at h
  split at h
  · rename_i q; rw [if_neg (fun z => z.2 h)]
  · rename_i q; rw [if_neg (fun z => q z.1)]
theorem sg_1 {A : Rec} (h : rcN A ≠ 0) : sgA' A = 2 * rcN A + (rcN A - 1) / 4 := by
  unfold sgA'
  unfold rcN at h ⊢
  split at h
  · rename_i q; rw [if_pos ⟨q, h⟩, if_pos q]
  · exact absurd rfl h
set_option maxHeartbeats 4000000 in
set_option maxRecDepth 100000 in
theorem c_countSigns (l : Launch) (G : GT) (b : Nat) (σ : Mem) (A : Rec) (hR : ROk A) (hA : CM σ 1 A) (hq : Sought σ A) : KI l G b yX10_countSigns cX10_countSigns 2 0 σ [.ref (b + 0)] (fun r σ' => r = nI (sgA' A) ∧ σ' = σ) := by
  refine sg_metI [.ref (b + 0)] (by decide) (Nat.le_of_ble_eq_true rfl) ?_
  intro vp ve vs vm args below meth vc ls Q hx hb hml hown hts hK hM hl hret
  have hl : lv_has ls 2 [(0, .ref (b + 0))] := hl
  have hS24 := hR.2.1.1
  have hN24 := hR.2.1.2
  have hrc24 : rcN A ≤ 24 := by unfold rcN; split <;> omega
  refine lv_aload_n hx hb dX10_countSigns_0 rfl (lv_at hl 0 rfl) ?_
  refine sg_get (v := .ref (b + 116)) hx hb hts hown hK hM (sh0 kc_0) (kd_lt kc_0 (by decide)) rfl inX10 5 (by decide) wf_X10_41 rfl dX10_countSigns_1 ?_
  refine sg_get (v := .ref (b + 117)) hx hb hts hown hK hM (sh10 kc_116) (kd_lt kc_116 (by decide)) rfl inX8 0 (by decide) wf_X10_223 rfl dX10_countSigns_4 ?_
  refine sg_get (v := .int (σ 117 0)) hx hb hts hown hK hM (sh3 kc_117) (kd_lt kc_117 (by decide)) rfl inX7 0 (by decide) wf_X10_134 rfl dX10_countSigns_7 ?_
  refine sn_top (y := nI (rcN A)) (hq.cnt) ?_
  refine lv_istore_n (lv' := [(1, .int (nI (rcN A))), (0, .ref (b + 0))]) hx hb dX10_countSigns_10 rfl hl (by decide) rfl (fun ls hl => ?_)
  refine lv_iload_n hx hb dX10_countSigns_11 rfl (lv_at hl 0 rfl) ?_
  refine sn_if_ne (tgt := 17) hx hb dX10_countSigns_12 (by decide) (by omega) (fun c_12 => ?_) (fun c_12 => ?_)
  · refine lv_iconst (v := nI 2) hx hb dX10_countSigns_17 (by decide) ?_
    refine lv_iload_n hx hb dX10_countSigns_18 rfl (lv_at hl 0 rfl) ?_
    refine sn_imul hx hb dX10_countSigns_19 ?_
    refine lv_iload_n hx hb dX10_countSigns_20 rfl (lv_at hl 0 rfl) ?_
    refine lv_iconst (v := nI 1) hx hb dX10_countSigns_21 (by decide) ?_
    refine sn_isub hx hb dX10_countSigns_22 (by omega) ?_
    refine lv_iconst (v := nI 4) hx hb dX10_countSigns_23 (by decide) ?_
    refine sn_idiv hx hb dX10_countSigns_24 (by omega) (by omega) (by omega) ?_
    refine sn_iadd hx hb dX10_countSigns_25 ?_
    exact hret _ _ _ _ _ _ dX10_countSigns_26 hM (⟨by rw [sg_1 c_12], rfl⟩)
  · refine lv_iconst (v := nI 0) hx hb dX10_countSigns_15 (by decide) ?_
    exact hret _ _ _ _ _ _ dX10_countSigns_16 hM (⟨by rw [sg_0 c_12], rfl⟩)

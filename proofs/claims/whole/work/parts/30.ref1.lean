/-! THE REFERENCE: what is so, as a row of numbers -/
def RecF (f : Nat → Int32) (A : Rec) : Prop := (f 0 = nI (rM A) ∧ f 1 = nI (rG A) ∧ f 2 = nI (rH A) ∧ f 3 = rE A ∧ f 4 = nI (rS A) ∧ f 5 = nI (rN A)) ∧ (∀ k, k < rS A → f (6 + 2 * k) = nI (rU A k) ∧ f (6 + 2 * k + 1) = nI (rW A k)) ∧ ∀ k, k < rN A → f (54 + 2 * k) = rX A k ∧ f (54 + 2 * k + 1) = rY A k
theorem RecF.cp {f f' : Nat → Int32} {A : Rec} (h : RecF f A) (hR : ROk A) (e : ∀ i, i < 102 → f' i = f i) : RecF f' A := by
  obtain ⟨⟨h0, h1, h2, h3, h4, h5⟩, h6, h7⟩ := h
  have hs := hR.2.1.1
  have hn := hR.2.1.2
  exact ⟨⟨by rw [e 0 (by omega)]; exact h0, by rw [e 1 (by omega)]; exact h1, by rw [e 2 (by omega)]; exact h2, by rw [e 3 (by omega)]; exact h3, by rw [e 4 (by omega)]; exact h4, by rw [e 5 (by omega)]; exact h5⟩, fun k hk => ⟨by rw [e _ (by omega)]; exact (h6 k hk).1, by rw [e _ (by omega)]; exact (h6 k hk).2⟩, fun k hk => ⟨by rw [e _ (by omega)]; exact (h7 k hk).1, by rw [e _ (by omega)]; exact (h7 k hk).2⟩⟩
def IRw (σ : Mem) (w : World) : Prop := ROk w.1 ∧ RecF (σ 132) w.1 ∧ (σ 131 2 = nI w.2.1 ∧ w.2.1 ≤ 8) ∧ (∀ j, j < w.2.1 → ROk (w.2.2.1 j) ∧ RecF (fun i => σ 133 (102 * j + i)) (w.2.2.1 j)) ∧ ∀ i, i < 2 → σ 135 i = bz (w.2.2.2.2 i) ∧ (w.2.2.2.2 i = true → ROk (w.2.2.2.1 i) ∧ RecF (fun k => σ 134 (102 * i + k)) (w.2.2.2.1 i))
theorem IRw.keep {σ σ' : Mem} {w : World} (h : IRw σ w) (e : ∀ k, 131 ≤ k → k < 136 → σ' k = σ k) : IRw σ' w := by
  unfold IRw
  rw [e 131 (by omega) (by omega), e 132 (by omega) (by omega), e 133 (by omega) (by omega), e 134 (by omega) (by omega), e 135 (by omega) (by omega)]
  exact h
/-- how many of the points below p are of a family -/
def cnF (f : Nat) : Nat → Nat
  | 0 => 0
  | n + 1 => cnF f n + (if gf n = f then 1 else 0)
theorem mem_ok : ∀ f, f < 4 → ∀ w, w < 4 → ∀ q, q < 16 → (pt f w < q ∨ (cnF f q ≤ w ∧ (gf q = f ∧ w ≤ cnF f q ↔ q = pt f w))) := by decide +kernel
theorem ord_ok : ∀ q, q < 16 → cnF (gf q) q = grk q := by decide +kernel
/-- the least distance of two families, as the reference seeks it -/
def apN (f o : Nat) : Nat → Int32
  | 0 => nI 99999999
  | n + 1 => if (gf (n / 16) = f ∧ gf (n % 16) = o ∧ n / 16 ≠ n % 16) ∧ far (n / 16) (gx (n % 16)) (gy (n % 16)) < apN f o n then far (n / 16) (gx (n % 16)) (gy (n % 16)) else apN f o n
theorem apN_ok : ∀ f, f < 4 → ∀ o, o < 4 → apN f o 256 = nI (gap f o) := by decide +kernel
theorem apN_s {f o a c : Nat} (hc : c < 16) : apN f o (16 * a + c + 1) = if (gf a = f ∧ gf c = o ∧ a ≠ c) ∧ far a (gx c) (gy c) < apN f o (16 * a + c) then far a (gx c) (gy c) else apN f o (16 * a + c) := by
  show (if (gf ((16 * a + c) / 16) = f ∧ gf ((16 * a + c) % 16) = o ∧ (16 * a + c) / 16 ≠ (16 * a + c) % 16) ∧ far ((16 * a + c) / 16) (gx ((16 * a + c) % 16)) (gy ((16 * a + c) % 16)) < _ then _ else _) = _
  rw [show (16 * a + c) / 16 = a by omega, show (16 * a + c) % 16 = c by omega]
def od (v : Nat) : Nat → Nat
  | 0 => 0
  | n + 1 => od v n + v / 2 ^ n % 2
theorem od_ok : ∀ v, v < 16 → od v 4 % 2 = pc1 v % 2 ∧ od v 4 ≤ 4 := by decide +kernel
theorem od_le (v : Nat) : ∀ n, od v n ≤ n
  | 0 => Nat.le_refl _
  | n + 1 => by
    show od v n + v / 2 ^ n % 2 ≤ n + 1
    have := od_le v n
    omega
def RCd (σ : Mem) (m g h : Nat) : Prop := σ 132 0 = nI m ∧ σ 132 1 = nI g ∧ σ 132 2 = nI h ∧ (1 ≤ m ∧ m ≤ 3) ∧ g < 16 ∧ h < 16
theorem RCd.of {σ : Mem} {A : Rec} (hR : ROk A) (h : RecF (σ 132) A) : RCd σ (rM A) (rG A) (rH A) := ⟨h.1.1, h.1.2.1, h.1.2.2.1, hR.1.1, hR.1.lt.1, hR.1.lt.2⟩
theorem RCd.m {σ : Mem} {m g h : Nat} (hc : RCd σ m g h) : m ≤ 3 := hc.2.2.2.1.2
theorem RCd.keep {σ σ' : Mem} {m g h : Nat} (hc : RCd σ m g h) (e : σ' 132 = σ 132) : RCd σ' m g h := by
  unfold RCd
  rw [e]
  exact hc
set_option maxHeartbeats 4000000 in
set_option maxRecDepth 100000 in
theorem m_in (l : Launch) (G : GT) (b : Nat) (σ : Mem) (x lo hi : Int32) : KZ l G b yX11_in cX11_in 3 0 σ [.int x, .int lo, .int hi] (fun r σ' => r = bz (inR x lo hi) ∧ σ' = σ) := by
  refine sg_metZ [.int x, .int lo, .int hi] (by decide) (Nat.le_of_ble_eq_true rfl) ?_
  intro vp ve vs vm args below meth vc ls Q hx hb hml hown hts hK hM hl hret
  have hl : lv_has ls 3 [(0, .int x), (1, .int lo), (2, .int hi)] := hl
  refine lv_iload_n hx hb dX11_in_0 rfl (lv_at hl 0 rfl) ?_
  refine lv_iload_n hx hb dX11_in_1 rfl (lv_at hl 1 rfl) ?_
  refine lv_icmp_lt (tgt := 14) hx hb dX11_in_2 (by decide) (fun c_2 => ?_) (fun c_2 => ?_)
  · refine lv_iconst (v := nI 0) hx hb dX11_in_14 (by decide) ?_
    exact hret _ _ (inR x lo hi) _ _ _ _ dX11_in_15 hM (by first | rw [inR_f1 c_2]; rfl | rw [inR_f2 (Int32.not_le.mpr c_7)]; rfl | rw [inR_t c_2 (Int32.not_lt.mp c_7)]; rfl) (⟨rfl, rfl⟩)
  · refine lv_iload_n hx hb dX11_in_5 rfl (lv_at hl 0 rfl) ?_
    refine lv_iload_n hx hb dX11_in_6 rfl (lv_at hl 2 rfl) ?_
    refine lv_icmp_gt (tgt := 14) hx hb dX11_in_7 (by decide) (fun c_7 => ?_) (fun c_7 => ?_)
    · refine lv_iconst (v := nI 0) hx hb dX11_in_14 (by decide) ?_
      exact hret _ _ (inR x lo hi) _ _ _ _ dX11_in_15 hM (by first | rw [inR_f1 c_2]; rfl | rw [inR_f2 (Int32.not_le.mpr c_7)]; rfl | rw [inR_t c_2 (Int32.not_lt.mp c_7)]; rfl) (⟨rfl, rfl⟩)
    · refine lv_iconst (v := nI 1) hx hb dX11_in_10 (by decide) ?_
      refine lv_goto (tgt := 15) hx hb dX11_in_11 (by decide) ?_
      exact hret _ _ (inR x lo hi) _ _ _ _ dX11_in_15 hM (by first | rw [inR_f1 c_2]; rfl | rw [inR_f2 (Int32.not_le.mpr c_7)]; rfl | rw [inR_t c_2 (Int32.not_lt.mp c_7)]; rfl) (⟨rfl, rfl⟩)
set_option maxHeartbeats 4000000 in
set_option maxRecDepth 100000 in
theorem m_isPoint (l : Launch) (G : GT) (b : Nat) (σ : Mem) (x : Int32) : KZ l G b yX11_isPoint cX11_isPoint 1 1 σ [.int x] (fun r σ' => r = bz (inR x (nI 0) (nI 15)) ∧ σ' = σ) := by
  refine sg_metZ [.int x] (by decide) (Nat.le_of_ble_eq_true rfl) ?_
  intro vp ve vs vm args below meth vc ls Q hx hb hml hown hts hK hM hl hret
  have hl : lv_has ls 1 [(0, .int x)] := hl
  refine lv_iload_n hx hb dX11_isPoint_0 rfl (lv_at hl 0 rfl) ?_
  refine lv_iconst (v := nI 0) hx hb dX11_isPoint_1 (by decide) ?_
  refine lv_bipush (v := nI 15) hx hb dX11_isPoint_2 (by decide) ?_
  refine sg_ci (sg_runS (d := 0) (As := [.int x, .int (nI 0), .int (nI 15)]) (rest := []) hx hb hml hts hown hK hM (m_in l G b σ x (nI 0) (nI 15)) mi_X11_in wl_X11_69 rfl hl.1 rfl (Nat.le_of_ble_eq_true rfl) dX11_isPoint_4 ⟨by decide, by decide⟩ ⟨Nat.le_refl 0, Nat.le_refl 0⟩) hM sgA (fun r_4 σ_4 H locs hp_4 hM => ?_)
  obtain ⟨hr_4, hs_4⟩ := hp_4; subst r_4; subst σ_4
  exact hret _ _ (inR x (nI 0) (nI 15)) _ _ _ _ dX11_isPoint_7 hM (rfl) (⟨rfl, rfl⟩)
set_option maxHeartbeats 4000000 in
set_option maxRecDepth 100000 in
theorem m_isFamily (l : Launch) (G : GT) (b : Nat) (σ : Mem) (x : Int32) : KZ l G b yX11_isFamily cX11_isFamily 1 1 σ [.int x] (fun r σ' => r = bz (inR x (nI 0) (nI 3)) ∧ σ' = σ) := by
  refine sg_metZ [.int x] (by decide) (Nat.le_of_ble_eq_true rfl) ?_
  intro vp ve vs vm args below meth vc ls Q hx hb hml hown hts hK hM hl hret
  have hl : lv_has ls 1 [(0, .int x)] := hl
  refine lv_iload_n hx hb dX11_isFamily_0 rfl (lv_at hl 0 rfl) ?_
  refine lv_iconst (v := nI 0) hx hb dX11_isFamily_1 (by decide) ?_
  refine lv_iconst (v := nI 3) hx hb dX11_isFamily_2 (by decide) ?_
  refine sg_ci (sg_runS (d := 0) (As := [.int x, .int (nI 0), .int (nI 3)]) (rest := []) hx hb hml hts hown hK hM (m_in l G b σ x (nI 0) (nI 3)) mi_X11_in wl_X11_69 rfl hl.1 rfl (Nat.le_of_ble_eq_true rfl) dX11_isFamily_3 ⟨by decide, by decide⟩ ⟨Nat.le_refl 0, Nat.le_refl 0⟩) hM sgA (fun r_3 σ_3 H locs hp_3 hM => ?_)
  obtain ⟨hr_3, hs_3⟩ := hp_3; subst r_3; subst σ_3
  exact hret _ _ (inR x (nI 0) (nI 3)) _ _ _ _ dX11_isFamily_6 hM (rfl) (⟨rfl, rfl⟩)
theorem mem_le (f : Nat) (hf : f < 4) (w : Nat) (hw : w < 4) (q : Nat) (hqn : q ≠ pt f w) (hcw : cnF f q ≤ w) (hiff : gf q = f ∧ w ≤ cnF f q ↔ q = pt f w) : (if gf q = f then 1 else 0) ≤ w - cnF f q := by
  split
  · rename_i e
    have : ¬ w ≤ cnF f q := fun z => hqn (hiff.mp ⟨e, z⟩)
    omega
  · omega
set_option maxHeartbeats 4000000 in
set_option maxRecDepth 100000 in
theorem m_memberOf (l : Launch) (G : GT) (b : Nat) (σ : Mem) (f w : Nat) (hf : f < 4) (hw : w < 4) : KI l G b yX11_memberOf cX11_memberOf 4 1 σ [.int (nI f), .int (nI w)] (fun r σ' => r = nI (pt f w) ∧ σ' = σ) := by
  refine sg_metI [.int (nI f), .int (nI w)] (by decide) (Nat.le_of_ble_eq_true rfl) ?_
  intro vp ve vs vm args below meth vc ls Q hx hb hml hown hts hK hM hl hret
  have hl : lv_has ls 4 [(0, .int (nI f)), (1, .int (nI w))] := hl
  refine lv_iload_n hx hb dX11_memberOf_0 rfl (lv_at hl 1 rfl) ?_
  refine lv_istore_n (lv' := [(2, .int (nI w)), (0, .int (nI f)), (1, .int (nI w))]) hx hb dX11_memberOf_1 rfl hl (by decide) rfl (fun ls hl => ?_)
  refine lv_iconst (v := nI 0) hx hb dX11_memberOf_2 (by decide) ?_
  refine lv_istore_n (lv' := [(3, .int (nI 0)), (2, .int (nI w)), (0, .int (nI f)), (1, .int (nI w))]) hx hb dX11_memberOf_3 rfl hl (by decide) rfl (fun ls hl => ?_)
  have L4 : ∀ (fuel : Nat) (q : Nat), (q ≤ pt f w) → (16 - q) < fuel → ∀ (H : Heap) (locs : List Loc) (ls : Array Slot), St G (Fr b) b σ vs H locs → lv_has ls 4 [(0, .int (nI f)), (1, .int (nI w)), (2, .int (nI (w - cnF f q))), (3, .int (nI q))] → W vp l ve (RM 1) vs vm args below meth vc H locs 0 0 Q (F0 vm 4 ls []) := by
    intro fuel
    induction fuel with
    | zero => intro q hq hF; exact absurd hF (Nat.not_lt_zero _)
    | succ fuel ih4 =>
      intro q hq hF H locs ls hM hl
      refine lv_iload_n hx hb dX11_memberOf_4 rfl (lv_at hl 3 rfl) ?_
      have hp16 := pt_lt hf hw
      obtain ⟨hcw, hiff⟩ := (mem_ok f hf w hw q (by omega)).resolve_left (by omega)
      refine sg_ci (sg_runS (d := 0) (As := [.int (nI q)]) (rest := []) hx hb hml hts hown hK hM (c_m_familyOf l G b σ q (by first | omega | exact fam_lt _ _ _ _ _ | exact gf_lt _ | exact tf_lt _ | exact pt_lt (by first | omega | exact fam_lt _ _ _ _ _) (by omega) | exact tn_lt (by first | omega | exact pt_lt (by omega) (by omega)))) mi_X11_familyOf wl_X11_47 rfl hl.1 rfl (Nat.le_of_ble_eq_true rfl) dX11_memberOf_5 ⟨by decide, by decide⟩ ⟨Nat.le_refl 0, Nat.le_refl 0⟩) hM sgA (fun r_5 σ_5 H locs hp_5 hM => ?_)
      obtain ⟨hr_5, hs_5⟩ := hp_5; subst r_5; subst σ_5
      refine lv_iload_n hx hb dX11_memberOf_8 rfl (lv_at hl 0 rfl) ?_
      refine sn_icmp_ne (tgt := 16) hx hb dX11_memberOf_9 (by decide) (by have := gf_lt q; omega) (by omega) (fun d1 => ?_) (fun d1 => ?_)
      · have hqn : q ≠ pt f w := fun z => d1 (hiff.mpr z).1
        refine lv_iload_n hx hb dX11_memberOf_16 rfl (lv_at hl 2 rfl) ?_
        refine lv_iload_n hx hb dX11_memberOf_17 rfl (lv_at hl 3 rfl) ?_
        refine sg_ci (sg_runS (d := 0) (As := [.int (nI q)]) (rest := [.int (nI (w - cnF f q))]) hx hb hml hts hown hK hM (c_m_familyOf l G b σ q (by first | omega | exact fam_lt _ _ _ _ _ | exact gf_lt _ | exact tf_lt _ | exact pt_lt (by first | omega | exact fam_lt _ _ _ _ _) (by omega) | exact tn_lt (by first | omega | exact pt_lt (by omega) (by omega)))) mi_X11_familyOf wl_X11_47 rfl hl.1 rfl (Nat.le_of_ble_eq_true rfl) dX11_memberOf_18 ⟨by decide, by decide⟩ ⟨Nat.le_refl 0, Nat.le_refl 0⟩) hM sgA (fun r_18 σ_18 H locs hp_18 hM => ?_)
        obtain ⟨hr_18, hs_18⟩ := hp_18; subst r_18; subst σ_18
        refine lv_iload_n hx hb dX11_memberOf_21 rfl (lv_at hl 0 rfl) ?_
        refine sn_icmp_ne (tgt := 29) hx hb dX11_memberOf_22 (by decide) (by have := gf_lt q; omega) (by omega) (fun d3 => ?_) (fun d3 => ?_)
        · refine lv_iconst (v := nI 0) hx hb dX11_memberOf_29 (by decide) ?_
          refine sn_top (y := nI (if gf q = f then 1 else 0)) (by rw [if_neg d3]) ?_
          refine sn_isub hx hb dX11_memberOf_30 (mem_le f hf w hw q hqn hcw hiff) ?_
          refine sn_top (y := nI (w - cnF f (q + 1))) (by rw [Nat.sub_sub]; rfl) ?_
          refine lv_istore_n (lv' := [(2, .int (nI (w - cnF f (q + 1)))), (0, .int (nI f)), (1, .int (nI w)), (3, .int (nI q))]) hx hb dX11_memberOf_31 rfl hl (by decide) rfl (fun ls hl => ?_)
          refine lv_iinc (v := nI (q + 1)) (lv' := [(3, .int (nI (q + 1))), (2, .int (nI (w - cnF f (q + 1)))), (0, .int (nI f)), (1, .int (nI w))]) hx hb dX11_memberOf_32 hl (k := 3) rfl (q_inc _) (by decide) rfl (fun ls hl => ?_)
          refine lv_goto (tgt := 4) hx hb dX11_memberOf_35 (by decide) ?_
          exact ih4 (q + 1) (by omega) (by omega) _ _ _ hM (lv_sub hl [2, 3, 1, 0] rfl)
        · refine lv_iconst (v := nI 1) hx hb dX11_memberOf_25 (by decide) ?_
          refine sn_top (y := nI (if gf q = f then 1 else 0)) (by rw [if_pos d3]) ?_
          refine lv_goto (tgt := 30) hx hb dX11_memberOf_26 (by decide) ?_
          refine sn_isub hx hb dX11_memberOf_30 (mem_le f hf w hw q hqn hcw hiff) ?_
          refine sn_top (y := nI (w - cnF f (q + 1))) (by rw [Nat.sub_sub]; rfl) ?_
          refine lv_istore_n (lv' := [(2, .int (nI (w - cnF f (q + 1)))), (0, .int (nI f)), (1, .int (nI w)), (3, .int (nI q))]) hx hb dX11_memberOf_31 rfl hl (by decide) rfl (fun ls hl => ?_)
          refine lv_iinc (v := nI (q + 1)) (lv' := [(3, .int (nI (q + 1))), (2, .int (nI (w - cnF f (q + 1)))), (0, .int (nI f)), (1, .int (nI w))]) hx hb dX11_memberOf_32 hl (k := 3) rfl (q_inc _) (by decide) rfl (fun ls hl => ?_)
          refine lv_goto (tgt := 4) hx hb dX11_memberOf_35 (by decide) ?_
          exact ih4 (q + 1) (by omega) (by omega) _ _ _ hM (lv_sub hl [2, 3, 1, 0] rfl)
      · refine lv_iload_n hx hb dX11_memberOf_12 rfl (lv_at hl 2 rfl) ?_
        refine sn_if_le (tgt := 38) hx hb dX11_memberOf_13 (by decide) (by omega) (fun d2 => ?_) (fun d2 => ?_)
        · refine lv_iload_n hx hb dX11_memberOf_38 rfl (lv_at hl 3 rfl) ?_
          exact hret _ _ _ _ _ _ dX11_memberOf_39 hM (⟨by rw [hiff.mp ⟨d1, by omega⟩], rfl⟩)
        · have hqn : q ≠ pt f w := fun z => absurd (hiff.mpr z).2 (by omega)
          refine lv_iload_n hx hb dX11_memberOf_16 rfl (lv_at hl 2 rfl) ?_
          refine lv_iload_n hx hb dX11_memberOf_17 rfl (lv_at hl 3 rfl) ?_
          refine sg_ci (sg_runS (d := 0) (As := [.int (nI q)]) (rest := [.int (nI (w - cnF f q))]) hx hb hml hts hown hK hM (c_m_familyOf l G b σ q (by first | omega | exact fam_lt _ _ _ _ _ | exact gf_lt _ | exact tf_lt _ | exact pt_lt (by first | omega | exact fam_lt _ _ _ _ _) (by omega) | exact tn_lt (by first | omega | exact pt_lt (by omega) (by omega)))) mi_X11_familyOf wl_X11_47 rfl hl.1 rfl (Nat.le_of_ble_eq_true rfl) dX11_memberOf_18 ⟨by decide, by decide⟩ ⟨Nat.le_refl 0, Nat.le_refl 0⟩) hM sgA (fun r_18 σ_18 H locs hp_18 hM => ?_)
          obtain ⟨hr_18, hs_18⟩ := hp_18; subst r_18; subst σ_18
          refine lv_iload_n hx hb dX11_memberOf_21 rfl (lv_at hl 0 rfl) ?_
          refine sn_icmp_ne (tgt := 29) hx hb dX11_memberOf_22 (by decide) (by have := gf_lt q; omega) (by omega) (fun d3 => ?_) (fun d3 => ?_)
          · refine lv_iconst (v := nI 0) hx hb dX11_memberOf_29 (by decide) ?_
            refine sn_top (y := nI (if gf q = f then 1 else 0)) (by rw [if_neg d3]) ?_
            refine sn_isub hx hb dX11_memberOf_30 (mem_le f hf w hw q hqn hcw hiff) ?_
            refine sn_top (y := nI (w - cnF f (q + 1))) (by rw [Nat.sub_sub]; rfl) ?_
            refine lv_istore_n (lv' := [(2, .int (nI (w - cnF f (q + 1)))), (0, .int (nI f)), (1, .int (nI w)), (3, .int (nI q))]) hx hb dX11_memberOf_31 rfl hl (by decide) rfl (fun ls hl => ?_)
            refine lv_iinc (v := nI (q + 1)) (lv' := [(3, .int (nI (q + 1))), (2, .int (nI (w - cnF f (q + 1)))), (0, .int (nI f)), (1, .int (nI w))]) hx hb dX11_memberOf_32 hl (k := 3) rfl (q_inc _) (by decide) rfl (fun ls hl => ?_)
            refine lv_goto (tgt := 4) hx hb dX11_memberOf_35 (by decide) ?_
            exact ih4 (q + 1) (by omega) (by omega) _ _ _ hM (lv_sub hl [2, 3, 1, 0] rfl)
          · refine lv_iconst (v := nI 1) hx hb dX11_memberOf_25 (by decide) ?_
            refine sn_top (y := nI (if gf q = f then 1 else 0)) (by rw [if_pos d3]) ?_
            refine lv_goto (tgt := 30) hx hb dX11_memberOf_26 (by decide) ?_
            refine sn_isub hx hb dX11_memberOf_30 (mem_le f hf w hw q hqn hcw hiff) ?_
            refine sn_top (y := nI (w - cnF f (q + 1))) (by rw [Nat.sub_sub]; rfl) ?_
            refine lv_istore_n (lv' := [(2, .int (nI (w - cnF f (q + 1)))), (0, .int (nI f)), (1, .int (nI w)), (3, .int (nI q))]) hx hb dX11_memberOf_31 rfl hl (by decide) rfl (fun ls hl => ?_)
            refine lv_iinc (v := nI (q + 1)) (lv' := [(3, .int (nI (q + 1))), (2, .int (nI (w - cnF f (q + 1)))), (0, .int (nI f)), (1, .int (nI w))]) hx hb dX11_memberOf_32 hl (k := 3) rfl (q_inc _) (by decide) rfl (fun ls hl => ?_)
            refine lv_goto (tgt := 4) hx hb dX11_memberOf_35 (by decide) ?_
            exact ih4 (q + 1) (by omega) (by omega) _ _ _ hM (lv_sub hl [2, 3, 1, 0] rfl)
  exact L4 (_ + 1) 0 (Nat.zero_le _) (Nat.lt_succ_self _) _ _ _ hM (lv_sub hl [2, 3, 1, 0] rfl)
set_option maxHeartbeats 4000000 in
set_option maxRecDepth 100000 in
theorem m_orderOf (l : Launch) (G : GT) (b : Nat) (σ : Mem) (q : Nat) (hq : q < 16) : KI l G b yX11_orderOf cX11_orderOf 3 1 σ [.int (nI q)] (fun r σ' => r = nI (grk q) ∧ σ' = σ) := by
  refine sg_metI [.int (nI q)] (by decide) (Nat.le_of_ble_eq_true rfl) ?_
  intro vp ve vs vm args below meth vc ls Q hx hb hml hown hts hK hM hl hret
  have hl : lv_has ls 3 [(0, .int (nI q))] := hl
  refine lv_iconst (v := nI 0) hx hb dX11_orderOf_0 (by decide) ?_
  refine lv_istore_n (lv' := [(1, .int (nI 0)), (0, .int (nI q))]) hx hb dX11_orderOf_1 rfl hl (by decide) rfl (fun ls hl => ?_)
  refine lv_iconst (v := nI 0) hx hb dX11_orderOf_2 (by decide) ?_
  refine lv_istore_n (lv' := [(2, .int (nI 0)), (1, .int (nI 0)), (0, .int (nI q))]) hx hb dX11_orderOf_3 rfl hl (by decide) rfl (fun ls hl => ?_)
  have L4 : ∀ (fuel : Nat) (k : Nat), (k ≤ q) → (q - k) < fuel → ∀ (H : Heap) (locs : List Loc) (ls : Array Slot), St G (Fr b) b σ vs H locs → lv_has ls 3 [(0, .int (nI q)), (1, .int (nI (cnF (gf q) k))), (2, .int (nI k))] → W vp l ve (RM 1) vs vm args below meth vc H locs 0 0 Q (F0 vm 4 ls []) := by
    intro fuel
    induction fuel with
    | zero => intro k hk hF; exact absurd hF (Nat.not_lt_zero _)
    | succ fuel ih4 =>
      intro k hk hF H locs ls hM hl
      refine lv_iload_n hx hb dX11_orderOf_4 rfl (lv_at hl 2 rfl) ?_
      refine lv_iload_n hx hb dX11_orderOf_5 rfl (lv_at hl 0 rfl) ?_
      refine sn_icmp_ge (tgt := 34) hx hb dX11_orderOf_6 (by decide) (by omega) (by omega) (fun c_6 => ?_) (fun c_6 => ?_)
      · refine lv_iload_n hx hb dX11_orderOf_34 rfl (lv_at hl 1 rfl) ?_
        exact hret _ _ _ _ _ _ dX11_orderOf_35 hM (⟨by rw [show k = q by omega, ord_ok q hq], rfl⟩)
      · refine lv_iload_n hx hb dX11_orderOf_9 rfl (lv_at hl 1 rfl) ?_
        refine lv_iload_n hx hb dX11_orderOf_10 rfl (lv_at hl 2 rfl) ?_
        refine sg_ci (sg_runS (d := 0) (As := [.int (nI k)]) (rest := [.int (nI (cnF (gf q) k))]) hx hb hml hts hown hK hM (c_m_familyOf l G b σ k (by first | omega | exact fam_lt _ _ _ _ _ | exact gf_lt _ | exact tf_lt _ | exact pt_lt (by first | omega | exact fam_lt _ _ _ _ _) (by omega) | exact tn_lt (by first | omega | exact pt_lt (by omega) (by omega)))) mi_X11_familyOf wl_X11_47 rfl hl.1 rfl (Nat.le_of_ble_eq_true rfl) dX11_orderOf_11 ⟨by decide, by decide⟩ ⟨Nat.le_refl 0, Nat.le_refl 0⟩) hM sgA (fun r_11 σ_11 H locs hp_11 hM => ?_)
        obtain ⟨hr_11, hs_11⟩ := hp_11; subst r_11; subst σ_11
        refine lv_iload_n hx hb dX11_orderOf_14 rfl (lv_at hl 0 rfl) ?_
        refine sg_ci (sg_runS (d := 0) (As := [.int (nI q)]) (rest := [.int (nI (gf k)), .int (nI (cnF (gf q) k))]) hx hb hml hts hown hK hM (c_m_familyOf l G b σ q (by first | omega | exact fam_lt _ _ _ _ _ | exact gf_lt _ | exact tf_lt _ | exact pt_lt (by first | omega | exact fam_lt _ _ _ _ _) (by omega) | exact tn_lt (by first | omega | exact pt_lt (by omega) (by omega)))) mi_X11_familyOf wl_X11_47 rfl hl.1 rfl (Nat.le_of_ble_eq_true rfl) dX11_orderOf_15 ⟨by decide, by decide⟩ ⟨Nat.le_refl 0, Nat.le_refl 0⟩) hM sgA (fun r_15 σ_15 H locs hp_15 hM => ?_)
        obtain ⟨hr_15, hs_15⟩ := hp_15; subst r_15; subst σ_15
        refine sn_icmp_ne (tgt := 25) hx hb dX11_orderOf_18 (by decide) (by have := gf_lt k; omega) (by have := gf_lt q; omega) (fun d3 => ?_) (fun d3 => ?_)
        · refine lv_iconst (v := nI 0) hx hb dX11_orderOf_25 (by decide) ?_
          refine sn_top (y := nI (if gf k = gf q then 1 else 0)) (by rw [if_neg d3]) ?_
          refine sn_iadd hx hb dX11_orderOf_26 ?_
          refine sn_top (y := nI (cnF (gf q) (k + 1))) (rfl) ?_
          refine lv_istore_n (lv' := [(1, .int (nI (cnF (gf q) (k + 1)))), (0, .int (nI q)), (2, .int (nI k))]) hx hb dX11_orderOf_27 rfl hl (by decide) rfl (fun ls hl => ?_)
          refine lv_iinc (v := nI (k + 1)) (lv' := [(2, .int (nI (k + 1))), (1, .int (nI (cnF (gf q) (k + 1)))), (0, .int (nI q))]) hx hb dX11_orderOf_28 hl (k := 2) rfl (q_inc _) (by decide) rfl (fun ls hl => ?_)
          refine lv_goto (tgt := 4) hx hb dX11_orderOf_31 (by decide) ?_
          exact ih4 (k + 1) (by omega) (by omega) _ _ _ hM (lv_sub hl [2, 1, 0] rfl)
        · refine lv_iconst (v := nI 1) hx hb dX11_orderOf_21 (by decide) ?_
          refine sn_top (y := nI (if gf k = gf q then 1 else 0)) (by rw [if_pos d3]) ?_
          refine lv_goto (tgt := 26) hx hb dX11_orderOf_22 (by decide) ?_
          refine sn_iadd hx hb dX11_orderOf_26 ?_
          refine sn_top (y := nI (cnF (gf q) (k + 1))) (rfl) ?_
          refine lv_istore_n (lv' := [(1, .int (nI (cnF (gf q) (k + 1)))), (0, .int (nI q)), (2, .int (nI k))]) hx hb dX11_orderOf_27 rfl hl (by decide) rfl (fun ls hl => ?_)
          refine lv_iinc (v := nI (k + 1)) (lv' := [(2, .int (nI (k + 1))), (1, .int (nI (cnF (gf q) (k + 1)))), (0, .int (nI q))]) hx hb dX11_orderOf_28 hl (k := 2) rfl (q_inc _) (by decide) rfl (fun ls hl => ?_)
          refine lv_goto (tgt := 4) hx hb dX11_orderOf_31 (by decide) ?_
          exact ih4 (k + 1) (by omega) (by omega) _ _ _ hM (lv_sub hl [2, 1, 0] rfl)
  exact L4 (_ + 1) 0 (Nat.zero_le _) (Nat.lt_succ_self _) _ _ _ hM (lv_sub hl [2, 1, 0] rfl)
set_option maxHeartbeats 4000000 in
set_option maxRecDepth 100000 in
theorem m_apartOf (l : Launch) (G : GT) (b : Nat) (σ : Mem) (f o : Nat) (hf : f < 4) (ho : o < 4) : KI l G b yX11_apartOf cX11_apartOf 7 2 σ [.int (nI f), .int (nI o)] (fun r σ' => r = nI (gap f o) ∧ σ' = σ) := by
  refine sg_metI [.int (nI f), .int (nI o)] (by decide) (Nat.le_of_ble_eq_true rfl) ?_
  intro vp ve vs vm args below meth vc ls Q hx hb hml hown hts hK hM hl hret
  have hl : lv_has ls 7 [(0, .int (nI f)), (1, .int (nI o))] := hl
  refine lv_ldc (v := nI 99999999) hx hb hown (hts (Cond.constant RX11 57 (nI 99999999)) wk_X11_57) dX11_apartOf_0 ?_
  refine lv_istore_n (lv' := [(2, .int (nI 99999999)), (0, .int (nI f)), (1, .int (nI o))]) hx hb dX11_apartOf_2 rfl hl (by decide) rfl (fun ls hl => ?_)
  refine lv_iconst (v := nI 0) hx hb dX11_apartOf_3 (by decide) ?_
  refine lv_istore_n (lv' := [(3, .int (nI 0)), (2, .int (nI 99999999)), (0, .int (nI f)), (1, .int (nI o))]) hx hb dX11_apartOf_4 rfl hl (by decide) rfl (fun ls hl => ?_)
  have L5 : ∀ (fuel : Nat) (a : Nat) (r1 : Int32), (a ≤ 16) → (r1 = apN f o (16 * a)) → (16 - a) < fuel → ∀ (H : Heap) (locs : List Loc) (ls : Array Slot), St G (Fr b) b σ vs H locs → lv_has ls 7 [(0, .int (nI f)), (1, .int (nI o)), (2, .int r1), (3, .int (nI a))] → W vp l ve (RM 2) vs vm args below meth vc H locs 0 0 Q (F0 vm 5 ls []) := by
    intro fuel
    induction fuel with
    | zero => intro a r1 ha h1 hF; exact absurd hF (Nat.not_lt_zero _)
    | succ fuel ih5 =>
      intro a r1 ha h1 hF H locs ls hM hl
      refine lv_iload_n hx hb dX11_apartOf_5 rfl (lv_at hl 3 rfl) ?_
      refine lv_bipush (v := nI 16) hx hb dX11_apartOf_6 (by decide) ?_
      refine sn_icmp_ge (tgt := 97) hx hb dX11_apartOf_8 (by decide) (by omega) (by omega) (fun c_8 => ?_) (fun c_8 => ?_)
      · refine lv_iload_n hx hb dX11_apartOf_97 rfl (lv_at hl 2 rfl) ?_
        exact hret _ _ _ _ _ _ dX11_apartOf_98 hM (⟨by rw [h1, show a = 16 by omega]; exact apN_ok f hf o ho, rfl⟩)
      · refine lv_iconst (v := nI 0) hx hb dX11_apartOf_11 (by decide) ?_
        refine lv_istore (lv' := [(4, .int (nI 0)), (0, .int (nI f)), (1, .int (nI o)), (2, .int r1), (3, .int (nI a))]) hx hb dX11_apartOf_12 hl (by decide) rfl (fun ls hl => ?_)
        have L14 : ∀ (fuel : Nat) (c1 : Nat) (r2 : Int32), (c1 ≤ 16) → (r2 = apN f o (16 * a + c1)) → (16 - c1) < fuel → ∀ (H : Heap) (locs : List Loc) (ls : Array Slot), St G (Fr b) b σ vs H locs → lv_has ls 7 [(0, .int (nI f)), (1, .int (nI o)), (2, .int r2), (3, .int (nI a)), (4, .int (nI c1))] → W vp l ve (RM 2) vs vm args below meth vc H locs 0 0 Q (F0 vm 14 ls []) := by
          intro fuel
          induction fuel with
          | zero => intro c1 r2 hc1 h2 hF; exact absurd hF (Nat.not_lt_zero _)
          | succ fuel ih14 =>
            intro c1 r2 hc1 h2 hF H locs ls hM hl
            refine lv_iload hx hb dX11_apartOf_14 (lv_at hl 4 rfl) ?_
            refine lv_bipush (v := nI 16) hx hb dX11_apartOf_16 (by decide) ?_
            refine sn_icmp_ge (tgt := 91) hx hb dX11_apartOf_18 (by decide) (by omega) (by omega) (fun hlc => ?_) (fun hlc => ?_)
            · refine lv_iinc (v := nI (a + 1)) (lv' := [(3, .int (nI (a + 1))), (0, .int (nI f)), (1, .int (nI o)), (2, .int r2), (4, .int (nI c1))]) hx hb dX11_apartOf_91 hl (k := 3) rfl (q_inc _) (by decide) rfl (fun ls hl => ?_)
              refine lv_goto (tgt := 5) hx hb dX11_apartOf_94 (by decide) ?_
              exact ih5 (a + 1) r2 (by omega) (by rw [h2, show c1 = 16 by omega]; rfl) (by omega) _ _ _ hM (lv_sub hl [1, 2, 3, 0] rfl)
            · have J49 : ∀ (H : Heap) (locs : List Loc) (ls : Array Slot), St G (Fr b) b σ vs H locs → lv_has ls 7 [(0, .int (nI f)), (1, .int (nI o)), (2, .int r2), (3, .int (nI a)), (4, .int (nI c1))] → W vp l ve (RM 2) vs vm args below meth vc H locs 0 0 Q (F0 vm 49 ls [.int (bz (decide (gf a = f ∧ gf c1 = o ∧ a ≠ c1)))]) := by
                intro  H locs ls hM hl
                refine lv_istore (lv' := [(5, .int (bz (decide (gf a = f ∧ gf c1 = o ∧ a ≠ c1)))), (0, .int (nI f)), (1, .int (nI o)), (2, .int r2), (3, .int (nI a)), (4, .int (nI c1))]) hx hb dX11_apartOf_49 hl (by decide) rfl (fun ls hl => ?_)
                refine lv_iload_n hx hb dX11_apartOf_51 rfl (lv_at hl 4 rfl) ?_
                refine lv_iload hx hb dX11_apartOf_52 (lv_at hl 5 rfl) ?_
                refine sg_ci (sg_runS (d := 0) (As := [.int (nI c1)]) (rest := [.int (nI a)]) hx hb hml hts hown hK hM (c_m_xOf l G b σ c1 (by first | omega | exact fam_lt _ _ _ _ _ | exact gf_lt _ | exact tf_lt _ | exact pt_lt (by first | omega | exact fam_lt _ _ _ _ _) (by omega) | exact tn_lt (by first | omega | exact pt_lt (by omega) (by omega)))) mi_X11_xOf wl_X11_51 rfl hl.1 rfl (Nat.le_of_ble_eq_true rfl) dX11_apartOf_54 ⟨by decide, by decide⟩ ⟨Nat.le_refl 0, Nat.le_refl 0⟩) hM sgA (fun r_54 σ_54 H locs hp_54 hM => ?_)
                obtain ⟨hr_54, hs_54⟩ := hp_54; subst r_54; subst σ_54
                refine lv_iload hx hb dX11_apartOf_57 (lv_at hl 5 rfl) ?_
                refine sg_ci (sg_runS (d := 0) (As := [.int (nI c1)]) (rest := [.int (gx c1), .int (nI a)]) hx hb hml hts hown hK hM (c_m_yOf l G b σ c1 (by first | omega | exact fam_lt _ _ _ _ _ | exact gf_lt _ | exact tf_lt _ | exact pt_lt (by first | omega | exact fam_lt _ _ _ _ _) (by omega) | exact tn_lt (by first | omega | exact pt_lt (by omega) (by omega)))) mi_X11_yOf wl_X11_54 rfl hl.1 rfl (Nat.le_of_ble_eq_true rfl) dX11_apartOf_59 ⟨by decide, by decide⟩ ⟨Nat.le_refl 0, Nat.le_refl 0⟩) hM sgA (fun r_59 σ_59 H locs hp_59 hM => ?_)
                obtain ⟨hr_59, hs_59⟩ := hp_59; subst r_59; subst σ_59
                refine sg_ci (sg_runS (d := 1) (As := [.int (nI a), .int (gx c1), .int (gy c1)]) (rest := []) hx hb hml hts hown hK hM (c_m_far l G b σ a (gx c1) (gy c1) (by first | omega | exact fam_lt _ _ _ _ _ | exact gf_lt _ | exact tf_lt _ | exact pt_lt (by first | omega | exact fam_lt _ _ _ _ _) (by omega) | exact tn_lt (by first | omega | exact pt_lt (by omega) (by omega)))) mi_X11_far wl_X11_58 rfl hl.1 rfl (Nat.le_of_ble_eq_true rfl) dX11_apartOf_62 ⟨by decide, by decide⟩ ⟨Nat.le_refl 0, Nat.le_refl 0⟩) hM sgA (fun r_62 σ_62 H locs hp_62 hM => ?_)
                obtain ⟨hr_62, hs_62⟩ := hp_62; subst r_62; subst σ_62
                refine lv_istore (lv' := [(6, .int (far a (gx c1) (gy c1))), (5, .int (bz (decide (gf a = f ∧ gf c1 = o ∧ a ≠ c1)))), (0, .int (nI f)), (1, .int (nI o)), (2, .int r2), (3, .int (nI a)), (4, .int (nI c1))]) hx hb dX11_apartOf_65 hl (by decide) rfl (fun ls hl => ?_)
                refine lv_iload hx hb dX11_apartOf_67 (lv_at hl 1 rfl) ?_
                refine sn_ifz_eq (tgt := 83) hx hb dX11_apartOf_69 (by decide) (fun c_69 => ?_) (fun c_69 => ?_)
                · have e69 := of_decide_eq_false c_69
                  refine lv_iload_n hx hb dX11_apartOf_83 rfl (lv_at hl 4 rfl) ?_
                  refine lv_istore_n (lv' := [(2, .int r2), (6, .int (far a (gx c1) (gy c1))), (5, .int (bz (decide (gf a = f ∧ gf c1 = o ∧ a ≠ c1)))), (0, .int (nI f)), (1, .int (nI o)), (3, .int (nI a)), (4, .int (nI c1))]) hx hb dX11_apartOf_84 rfl hl (by decide) rfl (fun ls hl => ?_)
                  refine lv_iinc (v := nI (c1 + 1)) (lv' := [(4, .int (nI (c1 + 1))), (2, .int r2), (6, .int (far a (gx c1) (gy c1))), (5, .int (bz (decide (gf a = f ∧ gf c1 = o ∧ a ≠ c1)))), (0, .int (nI f)), (1, .int (nI o)), (3, .int (nI a))]) hx hb dX11_apartOf_85 hl (k := 6) rfl (q_inc _) (by decide) rfl (fun ls hl => ?_)
                  refine lv_goto (tgt := 14) hx hb dX11_apartOf_88 (by decide) ?_
                  exact ih14 (c1 + 1) r2 (by omega) (by rw [show 16 * a + (c1 + 1) = 16 * a + c1 + 1 by omega, apN_s hlc, if_neg (fun z => by first | exact absurd z.1 e69 | exact absurd z.2 (by rw [← h2]; exact Int32.not_lt.mpr c_75))]; exact h2) (by omega) _ _ _ hM (lv_sub hl [4, 5, 1, 6, 0] rfl)
                · have e69 := of_decide_eq_true c_69
                  refine lv_iload hx hb dX11_apartOf_72 (lv_at hl 0 rfl) ?_
                  refine lv_iload_n hx hb dX11_apartOf_74 rfl (lv_at hl 4 rfl) ?_
                  refine lv_icmp_ge (tgt := 83) hx hb dX11_apartOf_75 (by decide) (fun c_75 => ?_) (fun c_75 => ?_)
                  · refine lv_iload_n hx hb dX11_apartOf_83 rfl (lv_at hl 4 rfl) ?_
                    refine lv_istore_n (lv' := [(2, .int r2), (6, .int (far a (gx c1) (gy c1))), (5, .int (bz (decide (gf a = f ∧ gf c1 = o ∧ a ≠ c1)))), (0, .int (nI f)), (1, .int (nI o)), (3, .int (nI a)), (4, .int (nI c1))]) hx hb dX11_apartOf_84 rfl hl (by decide) rfl (fun ls hl => ?_)
                    refine lv_iinc (v := nI (c1 + 1)) (lv' := [(4, .int (nI (c1 + 1))), (2, .int r2), (6, .int (far a (gx c1) (gy c1))), (5, .int (bz (decide (gf a = f ∧ gf c1 = o ∧ a ≠ c1)))), (0, .int (nI f)), (1, .int (nI o)), (3, .int (nI a))]) hx hb dX11_apartOf_85 hl (k := 6) rfl (q_inc _) (by decide) rfl (fun ls hl => ?_)
                    refine lv_goto (tgt := 14) hx hb dX11_apartOf_88 (by decide) ?_
                    exact ih14 (c1 + 1) r2 (by omega) (by rw [show 16 * a + (c1 + 1) = 16 * a + c1 + 1 by omega, apN_s hlc, if_neg (fun z => by first | exact absurd z.1 e69 | exact absurd z.2 (by rw [← h2]; exact Int32.not_lt.mpr c_75))]; exact h2) (by omega) _ _ _ hM (lv_sub hl [4, 5, 1, 6, 0] rfl)
                  · refine lv_iload hx hb dX11_apartOf_78 (lv_at hl 0 rfl) ?_
                    refine lv_goto (tgt := 84) hx hb dX11_apartOf_80 (by decide) ?_
                    refine lv_istore_n (lv' := [(2, .int (far a (gx c1) (gy c1))), (6, .int (far a (gx c1) (gy c1))), (5, .int (bz (decide (gf a = f ∧ gf c1 = o ∧ a ≠ c1)))), (0, .int (nI f)), (1, .int (nI o)), (3, .int (nI a)), (4, .int (nI c1))]) hx hb dX11_apartOf_84 rfl hl (by decide) rfl (fun ls hl => ?_)
                    refine lv_iinc (v := nI (c1 + 1)) (lv' := [(4, .int (nI (c1 + 1))), (2, .int (far a (gx c1) (gy c1))), (6, .int (far a (gx c1) (gy c1))), (5, .int (bz (decide (gf a = f ∧ gf c1 = o ∧ a ≠ c1)))), (0, .int (nI f)), (1, .int (nI o)), (3, .int (nI a))]) hx hb dX11_apartOf_85 hl (k := 6) rfl (q_inc _) (by decide) rfl (fun ls hl => ?_)
                    refine lv_goto (tgt := 14) hx hb dX11_apartOf_88 (by decide) ?_
                    exact ih14 (c1 + 1) (far a (gx c1) (gy c1)) (by omega) (by rw [show 16 * a + (c1 + 1) = 16 * a + c1 + 1 by omega, apN_s hlc, if_pos ⟨e69, by rw [← h2]; exact Int32.not_le.mp c_75⟩]) (by omega) _ _ _ hM (lv_sub hl [4, 5, 1, 6, 0] rfl)
              refine lv_iload_n hx hb dX11_apartOf_21 rfl (lv_at hl 3 rfl) ?_
              refine sg_ci (sg_runS (d := 0) (As := [.int (nI a)]) (rest := []) hx hb hml hts hown hK hM (c_m_familyOf l G b σ a (by first | omega | exact fam_lt _ _ _ _ _ | exact gf_lt _ | exact tf_lt _ | exact pt_lt (by first | omega | exact fam_lt _ _ _ _ _) (by omega) | exact tn_lt (by first | omega | exact pt_lt (by omega) (by omega)))) mi_X11_familyOf wl_X11_47 rfl hl.1 rfl (Nat.le_of_ble_eq_true rfl) dX11_apartOf_22 ⟨by decide, by decide⟩ ⟨Nat.le_refl 0, Nat.le_refl 0⟩) hM sgA (fun r_22 σ_22 H locs hp_22 hM => ?_)
              obtain ⟨hr_22, hs_22⟩ := hp_22; subst r_22; subst σ_22
              refine lv_iload_n hx hb dX11_apartOf_25 rfl (lv_at hl 0 rfl) ?_
              refine sn_icmp_ne (tgt := 48) hx hb dX11_apartOf_26 (by decide) (by have := gf_lt a; omega) (by omega) (fun c_26 => ?_) (fun c_26 => ?_)
              · refine lv_iconst (v := nI 0) hx hb dX11_apartOf_48 (by decide) ?_
                refine sn_top (y := bz (decide (gf a = f ∧ gf c1 = o ∧ a ≠ c1))) (by first | (rw [decide_eq_true ⟨c_26, c_35, c_41⟩]; rfl) | (rw [decide_eq_false (fun z => c_26 z.1)]; rfl) | (rw [decide_eq_false (fun z => c_35 z.2.1)]; rfl) | (rw [decide_eq_false (fun z => z.2.2 c_41)]; rfl)) ?_
                exact J49   _ _ _ hM (lv_sub hl [0, 1, 2, 3, 4] rfl)
              · refine lv_iload hx hb dX11_apartOf_29 (lv_at hl 4 rfl) ?_
                refine sg_ci (sg_runS (d := 0) (As := [.int (nI c1)]) (rest := []) hx hb hml hts hown hK hM (c_m_familyOf l G b σ c1 (by first | omega | exact fam_lt _ _ _ _ _ | exact gf_lt _ | exact tf_lt _ | exact pt_lt (by first | omega | exact fam_lt _ _ _ _ _) (by omega) | exact tn_lt (by first | omega | exact pt_lt (by omega) (by omega)))) mi_X11_familyOf wl_X11_47 rfl hl.1 rfl (Nat.le_of_ble_eq_true rfl) dX11_apartOf_31 ⟨by decide, by decide⟩ ⟨Nat.le_refl 0, Nat.le_refl 0⟩) hM sgA (fun r_31 σ_31 H locs hp_31 hM => ?_)
                obtain ⟨hr_31, hs_31⟩ := hp_31; subst r_31; subst σ_31
                refine lv_iload_n hx hb dX11_apartOf_34 rfl (lv_at hl 1 rfl) ?_
                refine sn_icmp_ne (tgt := 48) hx hb dX11_apartOf_35 (by decide) (by have := gf_lt c1; omega) (by omega) (fun c_35 => ?_) (fun c_35 => ?_)
                · refine lv_iconst (v := nI 0) hx hb dX11_apartOf_48 (by decide) ?_
                  refine sn_top (y := bz (decide (gf a = f ∧ gf c1 = o ∧ a ≠ c1))) (by first | (rw [decide_eq_true ⟨c_26, c_35, c_41⟩]; rfl) | (rw [decide_eq_false (fun z => c_26 z.1)]; rfl) | (rw [decide_eq_false (fun z => c_35 z.2.1)]; rfl) | (rw [decide_eq_false (fun z => z.2.2 c_41)]; rfl)) ?_
                  exact J49   _ _ _ hM (lv_sub hl [0, 1, 2, 3, 4] rfl)
                · refine lv_iload_n hx hb dX11_apartOf_38 rfl (lv_at hl 3 rfl) ?_
                  refine lv_iload hx hb dX11_apartOf_39 (lv_at hl 4 rfl) ?_
                  refine sn_icmp_eq (tgt := 48) hx hb dX11_apartOf_41 (by decide) (by omega) (by omega) (fun c_41 => ?_) (fun c_41 => ?_)
                  · refine lv_iconst (v := nI 0) hx hb dX11_apartOf_48 (by decide) ?_
                    refine sn_top (y := bz (decide (gf a = f ∧ gf c1 = o ∧ a ≠ c1))) (by first | (rw [decide_eq_true ⟨c_26, c_35, c_41⟩]; rfl) | (rw [decide_eq_false (fun z => c_26 z.1)]; rfl) | (rw [decide_eq_false (fun z => c_35 z.2.1)]; rfl) | (rw [decide_eq_false (fun z => z.2.2 c_41)]; rfl)) ?_
                    exact J49   _ _ _ hM (lv_sub hl [0, 1, 2, 3, 4] rfl)
                  · refine lv_iconst (v := nI 1) hx hb dX11_apartOf_44 (by decide) ?_
                    refine sn_top (y := bz (decide (gf a = f ∧ gf c1 = o ∧ a ≠ c1))) (by first | (rw [decide_eq_true ⟨c_26, c_35, c_41⟩]; rfl) | (rw [decide_eq_false (fun z => c_26 z.1)]; rfl) | (rw [decide_eq_false (fun z => c_35 z.2.1)]; rfl) | (rw [decide_eq_false (fun z => z.2.2 c_41)]; rfl)) ?_
                    refine lv_goto (tgt := 49) hx hb dX11_apartOf_45 (by decide) ?_
                    exact J49   _ _ _ hM (lv_sub hl [0, 1, 2, 3, 4] rfl)
        exact L14 (_ + 1) 0 r1 (by omega) h1 (Nat.lt_succ_self _) _ _ _ hM (lv_sub hl [1, 2, 3, 4, 0] rfl)
  exact L5 (_ + 1) 0 (nI 99999999) (by omega) rfl (Nat.lt_succ_self _) _ _ _ hM (lv_sub hl [2, 3, 1, 0] rfl)
set_option maxHeartbeats 4000000 in
set_option maxRecDepth 100000 in
theorem m_turnedFamily (l : Launch) (G : GT) (b : Nat) (σ : Mem) (f : Nat) (hf : f < 4) : KI l G b yX11_turnedFamily cX11_turnedFamily 1 2 σ [.int (nI f)] (fun r σ' => r = nI (tf f) ∧ σ' = σ) := by
  refine sg_metI [.int (nI f)] (by decide) (Nat.le_of_ble_eq_true rfl) ?_
  intro vp ve vs vm args below meth vc ls Q hx hb hml hown hts hK hM hl hret
  have hl : lv_has ls 1 [(0, .int (nI f))] := hl
  refine lv_iload_n hx hb dX11_turnedFamily_0 rfl (lv_at hl 0 rfl) ?_
  refine lv_iconst (v := nI 0) hx hb dX11_turnedFamily_1 (by decide) ?_
  refine sg_ci (sg_runS (d := 1) (As := [.int (nI f), .int (nI 0)]) (rest := []) hx hb hml hts hown hK hM (m_memberOf l G b σ f 0 (by first | omega | exact fam_lt _ _ _ _ _ | exact gf_lt _ | exact tf_lt _ | exact pt_lt (by first | omega | exact fam_lt _ _ _ _ _) (by omega) | exact tn_lt (by first | omega | exact pt_lt (by omega) (by omega))) (by first | omega | exact fam_lt _ _ _ _ _ | exact gf_lt _ | exact tf_lt _ | exact pt_lt (by first | omega | exact fam_lt _ _ _ _ _) (by omega) | exact tn_lt (by first | omega | exact pt_lt (by omega) (by omega)))) mi_X11_memberOf wl_X11_62 rfl hl.1 rfl (Nat.le_of_ble_eq_true rfl) dX11_turnedFamily_2 ⟨by decide, by decide⟩ ⟨Nat.le_refl 0, Nat.le_refl 0⟩) hM sgA (fun r_2 σ_2 H locs hp_2 hM => ?_)
  obtain ⟨hr_2, hs_2⟩ := hp_2; subst r_2; subst σ_2
  refine sg_ci (sg_runS (d := 0) (As := [.int (nI (pt f 0))]) (rest := []) hx hb hml hts hown hK hM (c_m_turn l G b σ (pt f 0) (by first | omega | exact fam_lt _ _ _ _ _ | exact gf_lt _ | exact tf_lt _ | exact pt_lt (by first | omega | exact fam_lt _ _ _ _ _) (by omega) | exact tn_lt (by first | omega | exact pt_lt (by omega) (by omega)))) mi_X11_turn wl_X11_66 rfl hl.1 rfl (Nat.le_of_ble_eq_true rfl) dX11_turnedFamily_5 ⟨by decide, by decide⟩ ⟨Nat.le_refl 0, Nat.le_refl 0⟩) hM sgA (fun r_5 σ_5 H locs hp_5 hM => ?_)
  obtain ⟨hr_5, hs_5⟩ := hp_5; subst r_5; subst σ_5
  refine sg_ci (sg_runS (d := 0) (As := [.int (nI (tn (pt f 0)))]) (rest := []) hx hb hml hts hown hK hM (c_m_familyOf l G b σ (tn (pt f 0)) (by first | omega | exact fam_lt _ _ _ _ _ | exact gf_lt _ | exact tf_lt _ | exact pt_lt (by first | omega | exact fam_lt _ _ _ _ _) (by omega) | exact tn_lt (by first | omega | exact pt_lt (by omega) (by omega)))) mi_X11_familyOf wl_X11_47 rfl hl.1 rfl (Nat.le_of_ble_eq_true rfl) dX11_turnedFamily_8 ⟨by decide, by decide⟩ ⟨Nat.le_refl 0, Nat.le_refl 0⟩) hM sgA (fun r_8 σ_8 H locs hp_8 hM => ?_)
  obtain ⟨hr_8, hs_8⟩ := hp_8; subst r_8; subst σ_8
  exact hret _ _ _ _ _ _ dX11_turnedFamily_11 hM (⟨rfl, rfl⟩)
set_option maxHeartbeats 4000000 in
set_option maxRecDepth 100000 in
theorem m_odd (l : Launch) (G : GT) (b : Nat) (σ : Mem) (v : Nat) (hv : v < 16) : KI l G b yX11_odd cX11_odd 3 0 σ [.int (nI v)] (fun r σ' => r = nI (pc1 v % 2) ∧ σ' = σ) := by
  refine sg_metI [.int (nI v)] (by decide) (Nat.le_of_ble_eq_true rfl) ?_
  intro vp ve vs vm args below meth vc ls Q hx hb hml hown hts hK hM hl hret
  have hl : lv_has ls 3 [(0, .int (nI v))] := hl
  refine lv_iconst (v := nI 0) hx hb dX11_odd_0 (by decide) ?_
  refine lv_istore_n (lv' := [(1, .int (nI 0)), (0, .int (nI v))]) hx hb dX11_odd_1 rfl hl (by decide) rfl (fun ls hl => ?_)
  refine lv_iconst (v := nI 0) hx hb dX11_odd_2 (by decide) ?_
  refine lv_istore_n (lv' := [(2, .int (nI 0)), (1, .int (nI 0)), (0, .int (nI v))]) hx hb dX11_odd_3 rfl hl (by decide) rfl (fun ls hl => ?_)
  have L4 : ∀ (fuel : Nat) (k : Nat), (k ≤ 4) → (4 - k) < fuel → ∀ (H : Heap) (locs : List Loc) (ls : Array Slot), St G (Fr b) b σ vs H locs → lv_has ls 3 [(0, .int (nI v)), (1, .int (nI (od v k))), (2, .int (nI k))] → W vp l ve (RM 0) vs vm args below meth vc H locs 0 0 Q (F0 vm 4 ls []) := by
    intro fuel
    induction fuel with
    | zero => intro k hk hF; exact absurd hF (Nat.not_lt_zero _)
    | succ fuel ih4 =>
      intro k hk hF H locs ls hM hl
      refine lv_iload_n hx hb dX11_odd_4 rfl (lv_at hl 2 rfl) ?_
      refine lv_iconst (v := nI 4) hx hb dX11_odd_5 (by decide) ?_
      refine sn_icmp_ge (tgt := 23) hx hb dX11_odd_6 (by decide) (by omega) (by omega) (fun c_6 => ?_) (fun c_6 => ?_)
      · refine lv_iload_n hx hb dX11_odd_23 rfl (lv_at hl 1 rfl) ?_
        refine lv_iconst (v := nI 2) hx hb dX11_odd_24 (by decide) ?_
        refine sn_irem hx hb dX11_odd_25 (by have := od_le v k; omega) (by omega) (by omega) ?_
        exact hret _ _ _ _ _ _ dX11_odd_26 hM (⟨by rw [show k = 4 by omega, (od_ok v hv).1], rfl⟩)
      · refine lv_iload_n hx hb dX11_odd_9 rfl (lv_at hl 1 rfl) ?_
        refine lv_iload_n hx hb dX11_odd_10 rfl (lv_at hl 0 rfl) ?_
        refine lv_iload_n hx hb dX11_odd_11 rfl (lv_at hl 2 rfl) ?_
        refine sn_ishr hx hb dX11_odd_12 (by omega) (by omega) ?_
        refine lv_iconst (v := nI 1) hx hb dX11_odd_13 (by decide) ?_
        refine sn_iand hx hb dX11_odd_14 ?_
        refine sn_top (y := nI (v / 2 ^ k % 2)) (by rw [tb_and]) ?_
        refine sn_iadd hx hb dX11_odd_15 ?_
        refine sn_top (y := nI (od v (k + 1))) (rfl) ?_
        refine lv_istore_n (lv' := [(1, .int (nI (od v (k + 1)))), (0, .int (nI v)), (2, .int (nI k))]) hx hb dX11_odd_16 rfl hl (by decide) rfl (fun ls hl => ?_)
        refine lv_iinc (v := nI (k + 1)) (lv' := [(2, .int (nI (k + 1))), (1, .int (nI (od v (k + 1)))), (0, .int (nI v))]) hx hb dX11_odd_17 hl (k := 2) rfl (q_inc _) (by decide) rfl (fun ls hl => ?_)
        refine lv_goto (tgt := 4) hx hb dX11_odd_20 (by decide) ?_
        exact ih4 (k + 1) (by omega) (by omega) _ _ _ hM (lv_sub hl [2, 1, 0] rfl)
  exact L4 (_ + 1) 0 (by omega) (Nat.lt_succ_self _) _ _ _ hM (lv_sub hl [2, 1, 0] rfl)
set_option maxHeartbeats 4000000 in
set_option maxRecDepth 100000 in
theorem m_states (l : Launch) (G : GT) (b : Nat) (σ : Mem) (m g h : Nat) (hc : RCd σ m g h) : KI l G b yX11_manyStates cX11_manyStates 1 0 σ [.ref (b + 131)] (fun r σ' => r = nI (2 ^ m) ∧ σ' = σ) := by
  refine sg_metI [.ref (b + 131)] (by decide) (Nat.le_of_ble_eq_true rfl) ?_
  intro vp ve vs vm args below meth vc ls Q hx hb hml hown hts hK hM hl hret
  have hl : lv_has ls 1 [(0, .ref (b + 131))] := hl
  refine lv_iconst (v := nI 1) hx hb dX11_manyStates_0 (by decide) ?_
  refine lv_aload_n hx hb dX11_manyStates_1 rfl (lv_at hl 0 rfl) ?_
  refine sg_get (v := .ref (b + 132)) hx hb hts hown hK hM (sh18 kc_131) (kd_lt kc_131 (by decide)) rfl inX11 0 (by decide) wf_X11_7 rfl dX11_manyStates_2 ?_
  refine lv_iconst (v := nI 0) hx hb dX11_manyStates_5 (by decide) ?_
  refine sg_iald hx hb hK hM (sh19 kc_132) (kd_lt kc_132 (by decide)) (i := 0) (by omega) (by decide) dX11_manyStates_6 ?_
  refine sn_top (y := nI m) (hc.1) ?_
  refine sn_ishl hx hb dX11_manyStates_7 (by have := hc.m; omega) (by have := p2_le hc.m; omega) ?_
  refine sn_top (y := nI (2 ^ m)) (by rw [Nat.one_mul]) ?_
  exact hret _ _ _ _ _ _ dX11_manyStates_8 hM (⟨rfl, rfl⟩)
set_option maxHeartbeats 4000000 in
set_option maxRecDepth 100000 in
theorem m_fam (l : Launch) (G : GT) (b : Nat) (σ : Mem) (m g h s u : Nat) (hc : RCd σ m g h) (hu : u < 2) (hs : s < 2 ^ m) : KI l G b yX11_familyBy cX11_familyBy 4 1 σ [.ref (b + 131), .int (nI s), .int (nI u)] (fun r σ' => r = nI (fam m g h s u) ∧ σ' = σ) := by
  refine sg_metI [.ref (b + 131), .int (nI s), .int (nI u)] (by decide) (Nat.le_of_ble_eq_true rfl) ?_
  intro vp ve vs vm args below meth vc ls Q hx hb hml hown hts hK hM hl hret
  have hl : lv_has ls 4 [(0, .ref (b + 131)), (1, .int (nI s)), (2, .int (nI u))] := hl
  refine lv_iload_n hx hb dX11_familyBy_0 rfl (lv_at hl 2 rfl) ?_
  refine lv_aload_n hx hb dX11_familyBy_1 rfl (lv_at hl 0 rfl) ?_
  refine sg_get (v := .ref (b + 132)) hx hb hts hown hK hM (sh18 kc_131) (kd_lt kc_131 (by decide)) rfl inX11 0 (by decide) wf_X11_7 rfl dX11_familyBy_2 ?_
  refine lv_iconst (v := nI 0) hx hb dX11_familyBy_5 (by decide) ?_
  refine sg_iald hx hb hK hM (sh19 kc_132) (kd_lt kc_132 (by decide)) (i := 0) (by omega) (by decide) dX11_familyBy_6 ?_
  refine sn_top (y := nI m) (hc.1) ?_
  refine sn_ishl hx hb dX11_familyBy_7 (by have := hc.m; omega) (sh_ok hu hc.m) ?_
  refine lv_iload_n hx hb dX11_familyBy_8 rfl (lv_at hl 1 rfl) ?_
  refine sn_iadd hx hb dX11_familyBy_9 ?_
  refine sn_top (y := nI (rg m s u)) (rfl) ?_
  refine lv_istore_n (lv' := [(3, .int (nI (rg m s u))), (0, .ref (b + 131)), (1, .int (nI s)), (2, .int (nI u))]) hx hb dX11_familyBy_10 rfl hl (by decide) rfl (fun ls hl => ?_)
  refine lv_iconst (v := nI 2) hx hb dX11_familyBy_11 (by decide) ?_
  refine lv_iload_n hx hb dX11_familyBy_12 rfl (lv_at hl 0 rfl) ?_
  refine lv_aload_n hx hb dX11_familyBy_13 rfl (lv_at hl 1 rfl) ?_
  refine sg_get (v := .ref (b + 132)) hx hb hts hown hK hM (sh18 kc_131) (kd_lt kc_131 (by decide)) rfl inX11 0 (by decide) wf_X11_7 rfl dX11_familyBy_14 ?_
  refine lv_iconst (v := nI 1) hx hb dX11_familyBy_17 (by decide) ?_
  refine sg_iald hx hb hK hM (sh19 kc_132) (kd_lt kc_132 (by decide)) (i := 1) (by omega) (by decide) dX11_familyBy_18 ?_
  refine sn_top (y := nI g) (hc.2.1) ?_
  refine sn_iand hx hb dX11_familyBy_19 ?_
  refine sg_ci (sg_runS (d := 0) (As := [.int (nI ((rg m s u) &&& g))]) (rest := [.int (nI 2)]) hx hb hml hts hown hK hM (m_odd l G b σ (rg m s u &&& g) (and_16 (rg_16 hc.m hu hs))) mi_X11_odd wl_X11_77 rfl hl.1 rfl (Nat.le_of_ble_eq_true rfl) dX11_familyBy_20 ⟨by decide, by decide⟩ ⟨Nat.le_refl 0, Nat.le_refl 0⟩) hM sgA (fun r_20 σ_20 H locs hp_20 hM => ?_)
  obtain ⟨hr_20, hs_20⟩ := hp_20; subst r_20; subst σ_20
  refine sn_imul hx hb dX11_familyBy_23 ?_
  refine lv_iload_n hx hb dX11_familyBy_24 rfl (lv_at hl 0 rfl) ?_
  refine lv_aload_n hx hb dX11_familyBy_25 rfl (lv_at hl 1 rfl) ?_
  refine sg_get (v := .ref (b + 132)) hx hb hts hown hK hM (sh18 kc_131) (kd_lt kc_131 (by decide)) rfl inX11 0 (by decide) wf_X11_7 rfl dX11_familyBy_26 ?_
  refine lv_iconst (v := nI 2) hx hb dX11_familyBy_29 (by decide) ?_
  refine sg_iald hx hb hK hM (sh19 kc_132) (kd_lt kc_132 (by decide)) (i := 2) (by omega) (by decide) dX11_familyBy_30 ?_
  refine sn_top (y := nI h) (hc.2.2.1) ?_
  refine sn_iand hx hb dX11_familyBy_31 ?_
  refine sg_ci (sg_runS (d := 0) (As := [.int (nI ((rg m s u) &&& h))]) (rest := [.int (nI (2 * (pc1 (rg m s u &&& g) % 2)))]) hx hb hml hts hown hK hM (m_odd l G b σ (rg m s u &&& h) (and_16 (rg_16 hc.m hu hs))) mi_X11_odd wl_X11_77 rfl hl.1 rfl (Nat.le_of_ble_eq_true rfl) dX11_familyBy_32 ⟨by decide, by decide⟩ ⟨Nat.le_refl 0, Nat.le_refl 0⟩) hM sgA (fun r_32 σ_32 H locs hp_32 hM => ?_)
  obtain ⟨hr_32, hs_32⟩ := hp_32; subst r_32; subst σ_32
  refine sn_iadd hx hb dX11_familyBy_35 ?_
  exact hret _ _ _ _ _ _ dX11_familyBy_36 hM (⟨rfl, rfl⟩)
set_option maxHeartbeats 4000000 in
set_option maxRecDepth 100000 in
theorem m_next (l : Launch) (G : GT) (b : Nat) (σ : Mem) (m g h s u : Nat) (hc : RCd σ m g h) (hu : u < 2) (hs : s < 2 ^ m) : KI l G b yX11_stateBy cX11_stateBy 3 0 σ [.ref (b + 131), .int (nI s), .int (nI u)] (fun r σ' => r = nI (nx m s u) ∧ σ' = σ) := by
  refine sg_metI [.ref (b + 131), .int (nI s), .int (nI u)] (by decide) (Nat.le_of_ble_eq_true rfl) ?_
  intro vp ve vs vm args below meth vc ls Q hx hb hml hown hts hK hM hl hret
  have hl : lv_has ls 3 [(0, .ref (b + 131)), (1, .int (nI s)), (2, .int (nI u))] := hl
  refine lv_iload_n hx hb dX11_stateBy_0 rfl (lv_at hl 2 rfl) ?_
  refine lv_aload_n hx hb dX11_stateBy_1 rfl (lv_at hl 0 rfl) ?_
  refine sg_get (v := .ref (b + 132)) hx hb hts hown hK hM (sh18 kc_131) (kd_lt kc_131 (by decide)) rfl inX11 0 (by decide) wf_X11_7 rfl dX11_stateBy_2 ?_
  refine lv_iconst (v := nI 0) hx hb dX11_stateBy_5 (by decide) ?_
  refine sg_iald hx hb hK hM (sh19 kc_132) (kd_lt kc_132 (by decide)) (i := 0) (by omega) (by decide) dX11_stateBy_6 ?_
  refine sn_top (y := nI m) (hc.1) ?_
  refine sn_ishl hx hb dX11_stateBy_7 (by have := hc.m; omega) (sh_ok hu hc.m) ?_
  refine lv_iload_n hx hb dX11_stateBy_8 rfl (lv_at hl 1 rfl) ?_
  refine sn_iadd hx hb dX11_stateBy_9 ?_
  refine sn_top (y := nI (rg m s u)) (rfl) ?_
  refine lv_iconst (v := nI 2) hx hb dX11_stateBy_10 (by decide) ?_
  refine sn_idiv hx hb dX11_stateBy_11 (by have := rg_16 hc.m hu hs; omega) (by omega) (by omega) ?_
  exact hret _ _ _ _ _ _ dX11_stateBy_12 hM (⟨rfl, rfl⟩)
set_option maxHeartbeats 4000000 in
set_option maxRecDepth 100000 in
theorem m_isState (l : Launch) (G : GT) (b : Nat) (σ : Mem) (m g h : Nat) (x : Int32) (hc : RCd σ m g h) : KZ l G b yX11_isState cX11_isState 2 1 σ [.ref (b + 131), .int x] (fun r σ' => r = bz (stB x m) ∧ σ' = σ) := by
  refine sg_metZ [.ref (b + 131), .int x] (by decide) (Nat.le_of_ble_eq_true rfl) ?_
  intro vp ve vs vm args below meth vc ls Q hx hb hml hown hts hK hM hl hret
  have hl : lv_has ls 2 [(0, .ref (b + 131)), (1, .int x)] := hl
  refine lv_iload_n hx hb dX11_isState_0 rfl (lv_at hl 1 rfl) ?_
  refine lv_iconst (v := nI 0) hx hb dX11_isState_1 (by decide) ?_
  refine lv_aload_n hx hb dX11_isState_2 rfl (lv_at hl 0 rfl) ?_
  refine sg_ci (sg_runV (d := 0) (As := []) (rest := [.int (nI 0), .int x]) hx hb hml hts hown hK hM (m_states l G b σ m g h (hc)) mi_X11_manyStates wl_X11_73 (sh18 kc_131) (kd_lt kc_131 (by decide)) rfl rfl rfl hl.1 rfl (Nat.le_of_ble_eq_true rfl) dX11_isState_3 ⟨by decide, by decide⟩ ⟨Nat.le_refl 0, Nat.le_refl 0⟩) hM sgA (fun r_3 σ_3 H locs hp_3 hM => ?_)
  obtain ⟨hr_3, hs_3⟩ := hp_3; subst r_3; subst σ_3
  refine lv_iconst (v := nI 1) hx hb dX11_isState_6 (by decide) ?_
  refine sn_isub hx hb dX11_isState_7 (p2_pos m) ?_
  refine sg_ci (sg_runS (d := 0) (As := [.int x, .int (nI 0), .int (nI ((2 ^ m) - 1))]) (rest := []) hx hb hml hts hown hK hM (m_in l G b σ x (nI 0) (nI ((2 ^ m) - 1))) mi_X11_in wl_X11_69 rfl hl.1 rfl (Nat.le_of_ble_eq_true rfl) dX11_isState_8 ⟨by decide, by decide⟩ ⟨Nat.le_refl 0, Nat.le_refl 0⟩) hM sgA (fun r_8 σ_8 H locs hp_8 hM => ?_)
  obtain ⟨hr_8, hs_8⟩ := hp_8; subst r_8; subst σ_8
  exact hret _ _ (stB x m) _ _ _ _ dX11_isState_11 hM (rfl) (⟨rfl, rfl⟩)
set_option maxHeartbeats 4000000 in
set_option maxRecDepth 100000 in
theorem m_behind (l : Launch) (G : GT) (b : Nat) (σ : Mem) (A : Rec) (hR : ROk A) (hA : RecF (σ 132) A) (k : Nat) (hk : k ≤ rS A) : KI l G b yX11_stateBehind cX11_stateBehind 4 1 σ [.ref (b + 131), .int (nI k)] (fun r σ' => r = nI (stS A k) ∧ σ' = σ) := by
  refine sg_metI [.ref (b + 131), .int (nI k)] (by decide) (Nat.le_of_ble_eq_true rfl) ?_
  intro vp ve vs vm args below meth vc ls Q hx hb hml hown hts hK hM hl hret
  have hl : lv_has ls 4 [(0, .ref (b + 131)), (1, .int (nI k))] := hl
  have hS24 := hR.2.1.1
  refine lv_iconst (v := nI 0) hx hb dX11_stateBehind_0 (by decide) ?_
  refine lv_istore_n (lv' := [(2, .int (nI 0)), (0, .ref (b + 131)), (1, .int (nI k))]) hx hb dX11_stateBehind_1 rfl hl (by decide) rfl (fun ls hl => ?_)
  refine lv_iconst (v := nI 0) hx hb dX11_stateBehind_2 (by decide) ?_
  refine lv_istore_n (lv' := [(3, .int (nI 0)), (2, .int (nI 0)), (0, .ref (b + 131)), (1, .int (nI k))]) hx hb dX11_stateBehind_3 rfl hl (by decide) rfl (fun ls hl => ?_)
  have L4 : ∀ (fuel : Nat) (j : Nat), (j ≤ k) → (k - j) < fuel → ∀ (H : Heap) (locs : List Loc) (ls : Array Slot), St G (Fr b) b σ vs H locs → lv_has ls 4 [(0, .ref (b + 131)), (1, .int (nI k)), (2, .int (nI (stS A j))), (3, .int (nI j))] → W vp l ve (RM 1) vs vm args below meth vc H locs 0 0 Q (F0 vm 4 ls []) := by
    intro fuel
    induction fuel with
    | zero => intro j hj hF; exact absurd hF (Nat.not_lt_zero _)
    | succ fuel ih4 =>
      intro j hj hF H locs ls hM hl
      refine lv_iload_n hx hb dX11_stateBehind_4 rfl (lv_at hl 3 rfl) ?_
      refine lv_iload_n hx hb dX11_stateBehind_5 rfl (lv_at hl 1 rfl) ?_
      refine sn_icmp_ge (tgt := 32) hx hb dX11_stateBehind_6 (by decide) (by omega) (by omega) (fun c_6 => ?_) (fun c_6 => ?_)
      · refine lv_iload_n hx hb dX11_stateBehind_32 rfl (lv_at hl 2 rfl) ?_
        exact hret _ _ _ _ _ _ dX11_stateBehind_33 hM (⟨by rw [show j = k by omega], rfl⟩)
      · refine lv_aload_n hx hb dX11_stateBehind_9 rfl (lv_at hl 0 rfl) ?_
        refine lv_iload_n hx hb dX11_stateBehind_10 rfl (lv_at hl 2 rfl) ?_
        refine lv_aload_n hx hb dX11_stateBehind_11 rfl (lv_at hl 0 rfl) ?_
        refine sg_get (v := .ref (b + 132)) hx hb hts hown hK hM (sh18 kc_131) (kd_lt kc_131 (by decide)) rfl inX11 0 (by decide) wf_X11_7 rfl dX11_stateBehind_12 ?_
        refine lv_bipush (v := nI 6) hx hb dX11_stateBehind_15 (by decide) ?_
        refine lv_iconst (v := nI 2) hx hb dX11_stateBehind_17 (by decide) ?_
        refine lv_iload_n hx hb dX11_stateBehind_18 rfl (lv_at hl 3 rfl) ?_
        refine sn_imul hx hb dX11_stateBehind_19 ?_
        refine sn_iadd hx hb dX11_stateBehind_20 ?_
        refine sg_iald hx hb hK hM (sh19 kc_132) (kd_lt kc_132 (by decide)) (i := 6 + (2 * j)) (by omega) (by decide) dX11_stateBehind_21 ?_
        refine sn_top (y := nI (rU A j)) ((hA.2.1 j (by omega)).1) ?_
        refine sg_ci (sg_runV (d := 0) (As := [.int (nI (stS A j)), .int (nI (rU A j))]) (rest := []) hx hb hml hts hown hK hM (m_next l G b σ (rM A) (rG A) (rH A) (stS A j) (rU A j) (RCd.of hR hA) (hR.2.2.1 j (by omega)).1 (stS_lt hR j (by omega))) mi_X11_stateBy wl_X11_88 (sh18 kc_131) (kd_lt kc_131 (by decide)) rfl rfl rfl hl.1 rfl (Nat.le_of_ble_eq_true rfl) dX11_stateBehind_22 ⟨by decide, by decide⟩ ⟨Nat.le_refl 0, Nat.le_refl 0⟩) hM sgA (fun r_22 σ_22 H locs hp_22 hM => ?_)
        obtain ⟨hr_22, hs_22⟩ := hp_22; subst r_22; subst σ_22
        refine lv_istore_n (lv' := [(2, .int (nI (stS A (j + 1)))), (0, .ref (b + 131)), (1, .int (nI k)), (3, .int (nI j))]) hx hb dX11_stateBehind_25 rfl hl (by decide) rfl (fun ls hl => ?_)
        refine lv_iinc (v := nI (j + 1)) (lv' := [(3, .int (nI (j + 1))), (2, .int (nI (stS A (j + 1)))), (0, .ref (b + 131)), (1, .int (nI k))]) hx hb dX11_stateBehind_26 hl (k := 3) rfl (q_inc _) (by decide) rfl (fun ls hl => ?_)
        refine lv_goto (tgt := 4) hx hb dX11_stateBehind_29 (by decide) ?_
        exact ih4 (j + 1) (by omega) (by omega) _ _ _ hM (lv_sub hl [2, 3, 1, 0] rfl)
  exact L4 (_ + 1) 0 (Nat.zero_le _) (Nat.lt_succ_self _) _ _ _ hM (lv_sub hl [2, 3, 1, 0] rfl)
set_option maxHeartbeats 4000000 in
set_option maxRecDepth 100000 in
theorem m_pointSent (l : Launch) (G : GT) (b : Nat) (σ : Mem) (A : Rec) (hR : ROk A) (hA : RecF (σ 132) A) (k : Nat) (hk : k < rS A) : KI l G b yX11_pointSent cX11_pointSent 2 2 σ [.ref (b + 131), .int (nI k)] (fun r σ' => r = nI (ptS A k) ∧ σ' = σ) := by
  refine sg_metI [.ref (b + 131), .int (nI k)] (by decide) (Nat.le_of_ble_eq_true rfl) ?_
  intro vp ve vs vm args below meth vc ls Q hx hb hml hown hts hK hM hl hret
  have hl : lv_has ls 2 [(0, .ref (b + 131)), (1, .int (nI k))] := hl
  have hS24 := hR.2.1.1
  refine lv_aload_n hx hb dX11_pointSent_0 rfl (lv_at hl 0 rfl) ?_
  refine lv_aload_n hx hb dX11_pointSent_1 rfl (lv_at hl 0 rfl) ?_
  refine lv_iload_n hx hb dX11_pointSent_2 rfl (lv_at hl 1 rfl) ?_
  refine sg_ci (sg_runV (d := 1) (As := [.int (nI k)]) (rest := [.ref (b + 131)]) hx hb hml hts hown hK hM (m_behind l G b σ A hR hA k (by omega)) mi_X11_stateBehind wl_X11_91 (sh18 kc_131) (kd_lt kc_131 (by decide)) rfl rfl rfl hl.1 rfl (Nat.le_of_ble_eq_true rfl) dX11_pointSent_3 ⟨by decide, by decide⟩ ⟨Nat.le_refl 0, Nat.le_refl 0⟩) hM sgA (fun r_3 σ_3 H locs hp_3 hM => ?_)
  obtain ⟨hr_3, hs_3⟩ := hp_3; subst r_3; subst σ_3
  refine lv_aload_n hx hb dX11_pointSent_6 rfl (lv_at hl 0 rfl) ?_
  refine sg_get (v := .ref (b + 132)) hx hb hts hown hK hM (sh18 kc_131) (kd_lt kc_131 (by decide)) rfl inX11 0 (by decide) wf_X11_7 rfl dX11_pointSent_7 ?_
  refine lv_bipush (v := nI 6) hx hb dX11_pointSent_10 (by decide) ?_
  refine lv_iconst (v := nI 2) hx hb dX11_pointSent_12 (by decide) ?_
  refine lv_iload_n hx hb dX11_pointSent_13 rfl (lv_at hl 1 rfl) ?_
  refine sn_imul hx hb dX11_pointSent_14 ?_
  refine sn_iadd hx hb dX11_pointSent_15 ?_
  refine sg_iald hx hb hK hM (sh19 kc_132) (kd_lt kc_132 (by decide)) (i := 6 + (2 * k)) (by omega) (by decide) dX11_pointSent_16 ?_
  refine sn_top (y := nI (rU A k)) ((hA.2.1 k hk).1) ?_
  refine sg_ci (sg_runV (d := 1) (As := [.int (nI (stS A k)), .int (nI (rU A k))]) (rest := []) hx hb hml hts hown hK hM (m_fam l G b σ (rM A) (rG A) (rH A) (stS A k) (rU A k) (RCd.of hR hA) (hR.2.2.1 k hk).1 (stS_lt hR k (by omega))) mi_X11_familyBy wl_X11_94 (sh18 kc_131) (kd_lt kc_131 (by decide)) rfl rfl rfl hl.1 rfl (Nat.le_of_ble_eq_true rfl) dX11_pointSent_17 ⟨by decide, by decide⟩ ⟨Nat.le_refl 0, Nat.le_refl 0⟩) hM sgA (fun r_17 σ_17 H locs hp_17 hM => ?_)
  obtain ⟨hr_17, hs_17⟩ := hp_17; subst r_17; subst σ_17
  refine lv_aload_n hx hb dX11_pointSent_20 rfl (lv_at hl 0 rfl) ?_
  refine sg_get (v := .ref (b + 132)) hx hb hts hown hK hM (sh18 kc_131) (kd_lt kc_131 (by decide)) rfl inX11 0 (by decide) wf_X11_7 rfl dX11_pointSent_21 ?_
  refine lv_bipush (v := nI 6) hx hb dX11_pointSent_24 (by decide) ?_
  refine lv_iconst (v := nI 2) hx hb dX11_pointSent_26 (by decide) ?_
  refine lv_iload_n hx hb dX11_pointSent_27 rfl (lv_at hl 1 rfl) ?_
  refine sn_imul hx hb dX11_pointSent_28 ?_
  refine sn_iadd hx hb dX11_pointSent_29 ?_
  refine lv_iconst (v := nI 1) hx hb dX11_pointSent_30 (by decide) ?_
  refine sn_iadd hx hb dX11_pointSent_31 ?_
  refine sg_iald hx hb hK hM (sh19 kc_132) (kd_lt kc_132 (by decide)) (i := (6 + (2 * k)) + 1) (by omega) (by decide) dX11_pointSent_32 ?_
  refine sn_top (y := nI (rW A k)) ((hA.2.1 k hk).2) ?_
  refine sg_ci (sg_runS (d := 1) (As := [.int (nI (fmS A k)), .int (nI (rW A k))]) (rest := []) hx hb hml hts hown hK hM (m_memberOf l G b σ (fmS A k) (rW A k) (fam_lt _ _ _ _ _) (hR.2.2.1 k hk).2) mi_X11_memberOf wl_X11_62 rfl hl.1 rfl (Nat.le_of_ble_eq_true rfl) dX11_pointSent_33 ⟨by decide, by decide⟩ ⟨Nat.le_refl 0, Nat.le_refl 0⟩) hM sgA (fun r_33 σ_33 H locs hp_33 hM => ?_)
  obtain ⟨hr_33, hs_33⟩ := hp_33; subst r_33; subst σ_33
  exact hret _ _ _ _ _ _ dX11_pointSent_36 hM (⟨rfl, rfl⟩)
def sndM (σ : Mem) (n : Nat) (u w : Int32) : Mem := m2 (m2 (m2 σ 132 (6 + 2 * n) u) 132 (6 + 2 * n + 1) w) 132 4 (nI (n + 1))
def heaM (σ : Mem) (n : Nat) (x y : Int32) : Mem := m2 (m2 (m2 σ 132 (54 + 2 * n) x) 132 (54 + 2 * n + 1) y) 132 5 (nI (n + 1))
set_option maxHeartbeats 4000000 in
set_option maxRecDepth 100000 in
theorem m_sends (l : Launch) (G : GT) (b : Nat) (σ : Mem) (n : Nat) (u w : Int32) (h4 : σ 132 4 = nI n) (hn : n < 24) : KV l G b yX11_sends cX11_sends 4 0 σ [.ref (b + 131), .int u, .int w] (fun σ' => σ' = sndM σ n u w) := by
  refine sg_metV [.ref (b + 131), .int u, .int w] (by decide) (Nat.le_of_ble_eq_true rfl) ?_
  intro vp ve vs vm args below meth vc ls Q hx hb hml hown hts hK hM hl hret
  have hl : lv_has ls 4 [(0, .ref (b + 131)), (1, .int u), (2, .int w)] := hl
  refine lv_bipush (v := nI 6) hx hb dX11_sends_0 (by decide) ?_
  refine lv_iconst (v := nI 2) hx hb dX11_sends_2 (by decide) ?_
  refine lv_aload_n hx hb dX11_sends_3 rfl (lv_at hl 0 rfl) ?_
  refine sg_get (v := .ref (b + 132)) hx hb hts hown hK hM (sh18 kc_131) (kd_lt kc_131 (by decide)) rfl inX11 0 (by decide) wf_X11_7 rfl dX11_sends_4 ?_
  refine lv_iconst (v := nI 4) hx hb dX11_sends_7 (by decide) ?_
  refine sg_iald hx hb hK hM (sh19 kc_132) (kd_lt kc_132 (by decide)) (i := 4) (by omega) (by decide) dX11_sends_8 ?_
  refine sn_top (y := nI n) (h4) ?_
  refine sn_imul hx hb dX11_sends_9 ?_
  refine sn_iadd hx hb dX11_sends_10 ?_
  refine lv_istore_n (lv' := [(3, .int (nI (6 + (2 * n)))), (0, .ref (b + 131)), (1, .int u), (2, .int w)]) hx hb dX11_sends_11 rfl hl (by decide) rfl (fun ls hl => ?_)
  refine lv_aload_n hx hb dX11_sends_12 rfl (lv_at hl 1 rfl) ?_
  refine sg_get (v := .ref (b + 132)) hx hb hts hown hK hM (sh18 kc_131) (kd_lt kc_131 (by decide)) rfl inX11 0 (by decide) wf_X11_7 rfl dX11_sends_13 ?_
  refine lv_iload_n hx hb dX11_sends_16 rfl (lv_at hl 0 rfl) ?_
  refine lv_iload_n hx hb dX11_sends_17 rfl (lv_at hl 2 rfl) ?_
  refine sg_iast hx hb hK hM sgA (fun f => sh19 kc_132) (kd_lt kc_132 (by decide)) (i := 6 + (2 * n)) (by omega) (by decide) dX11_sends_18 (fun H locs hM => ?_)
  refine lv_aload_n hx hb dX11_sends_19 rfl (lv_at hl 1 rfl) ?_
  refine sg_get (v := .ref (b + 132)) hx hb hts hown hK hM (sh18 kc_131) (kd_lt kc_131 (by decide)) rfl inX11 0 (by decide) wf_X11_7 rfl dX11_sends_20 ?_
  refine lv_iload_n hx hb dX11_sends_23 rfl (lv_at hl 0 rfl) ?_
  refine lv_iconst (v := nI 1) hx hb dX11_sends_24 (by decide) ?_
  refine sn_iadd hx hb dX11_sends_25 ?_
  refine lv_iload_n hx hb dX11_sends_26 rfl (lv_at hl 3 rfl) ?_
  refine sg_iast hx hb hK hM sgA (fun f => sh19 kc_132) (kd_lt kc_132 (by decide)) (i := (6 + (2 * n)) + 1) (by omega) (by decide) dX11_sends_27 (fun H locs hM => ?_)
  refine lv_aload_n hx hb dX11_sends_28 rfl (lv_at hl 1 rfl) ?_
  refine sg_get (v := .ref (b + 132)) hx hb hts hown hK hM (sh18 kc_131) (kd_lt kc_131 (by decide)) rfl inX11 0 (by decide) wf_X11_7 rfl dX11_sends_29 ?_
  refine lv_iconst (v := nI 4) hx hb dX11_sends_32 (by decide) ?_
  refine lv_dup2_11 hx hb dX11_sends_33 rfl rfl ?_
  refine sg_iald hx hb hK hM (sh19 kc_132) (kd_lt kc_132 (by decide)) (i := 4) (by omega) (by decide) dX11_sends_34 ?_
  refine sn_top (y := nI n) (by rw [m2_sn (by omega), m2_sn (by omega)]; exact h4) ?_
  refine lv_iconst (v := nI 1) hx hb dX11_sends_35 (by decide) ?_
  refine sn_iadd hx hb dX11_sends_36 ?_
  refine sg_iast hx hb hK hM sgA (fun f => sh19 kc_132) (kd_lt kc_132 (by decide)) (i := 4) (by omega) (by decide) dX11_sends_37 (fun H locs hM => ?_)
  exact hret _ _ _ _ _ dX11_sends_38 hM (rfl)
set_option maxHeartbeats 4000000 in
set_option maxRecDepth 100000 in
theorem m_hears (l : Launch) (G : GT) (b : Nat) (σ : Mem) (n : Nat) (x y : Int32) (h4 : σ 132 5 = nI n) (hn : n < 24) : KV l G b yX11_hears cX11_hears 4 0 σ [.ref (b + 131), .int x, .int y] (fun σ' => σ' = heaM σ n x y) := by
  refine sg_metV [.ref (b + 131), .int x, .int y] (by decide) (Nat.le_of_ble_eq_true rfl) ?_
  intro vp ve vs vm args below meth vc ls Q hx hb hml hown hts hK hM hl hret
  have hl : lv_has ls 4 [(0, .ref (b + 131)), (1, .int x), (2, .int y)] := hl
  refine lv_bipush (v := nI 54) hx hb dX11_hears_0 (by decide) ?_
  refine lv_iconst (v := nI 2) hx hb dX11_hears_2 (by decide) ?_
  refine lv_aload_n hx hb dX11_hears_3 rfl (lv_at hl 0 rfl) ?_
  refine sg_get (v := .ref (b + 132)) hx hb hts hown hK hM (sh18 kc_131) (kd_lt kc_131 (by decide)) rfl inX11 0 (by decide) wf_X11_7 rfl dX11_hears_4 ?_
  refine lv_iconst (v := nI 5) hx hb dX11_hears_7 (by decide) ?_
  refine sg_iald hx hb hK hM (sh19 kc_132) (kd_lt kc_132 (by decide)) (i := 5) (by omega) (by decide) dX11_hears_8 ?_
  refine sn_top (y := nI n) (h4) ?_
  refine sn_imul hx hb dX11_hears_9 ?_
  refine sn_iadd hx hb dX11_hears_10 ?_
  refine lv_istore_n (lv' := [(3, .int (nI (54 + (2 * n)))), (0, .ref (b + 131)), (1, .int x), (2, .int y)]) hx hb dX11_hears_11 rfl hl (by decide) rfl (fun ls hl => ?_)
  refine lv_aload_n hx hb dX11_hears_12 rfl (lv_at hl 1 rfl) ?_
  refine sg_get (v := .ref (b + 132)) hx hb hts hown hK hM (sh18 kc_131) (kd_lt kc_131 (by decide)) rfl inX11 0 (by decide) wf_X11_7 rfl dX11_hears_13 ?_
  refine lv_iload_n hx hb dX11_hears_16 rfl (lv_at hl 0 rfl) ?_
  refine lv_iload_n hx hb dX11_hears_17 rfl (lv_at hl 2 rfl) ?_
  refine sg_iast hx hb hK hM sgA (fun f => sh19 kc_132) (kd_lt kc_132 (by decide)) (i := 54 + (2 * n)) (by omega) (by decide) dX11_hears_18 (fun H locs hM => ?_)
  refine lv_aload_n hx hb dX11_hears_19 rfl (lv_at hl 1 rfl) ?_
  refine sg_get (v := .ref (b + 132)) hx hb hts hown hK hM (sh18 kc_131) (kd_lt kc_131 (by decide)) rfl inX11 0 (by decide) wf_X11_7 rfl dX11_hears_20 ?_
  refine lv_iload_n hx hb dX11_hears_23 rfl (lv_at hl 0 rfl) ?_
  refine lv_iconst (v := nI 1) hx hb dX11_hears_24 (by decide) ?_
  refine sn_iadd hx hb dX11_hears_25 ?_
  refine lv_iload_n hx hb dX11_hears_26 rfl (lv_at hl 3 rfl) ?_
  refine sg_iast hx hb hK hM sgA (fun f => sh19 kc_132) (kd_lt kc_132 (by decide)) (i := (54 + (2 * n)) + 1) (by omega) (by decide) dX11_hears_27 (fun H locs hM => ?_)
  refine lv_aload_n hx hb dX11_hears_28 rfl (lv_at hl 1 rfl) ?_
  refine sg_get (v := .ref (b + 132)) hx hb hts hown hK hM (sh18 kc_131) (kd_lt kc_131 (by decide)) rfl inX11 0 (by decide) wf_X11_7 rfl dX11_hears_29 ?_
  refine lv_iconst (v := nI 5) hx hb dX11_hears_32 (by decide) ?_
  refine lv_dup2_11 hx hb dX11_hears_33 rfl rfl ?_
  refine sg_iald hx hb hK hM (sh19 kc_132) (kd_lt kc_132 (by decide)) (i := 5) (by omega) (by decide) dX11_hears_34 ?_
  refine sn_top (y := nI n) (by rw [m2_sn (by omega), m2_sn (by omega)]; exact h4) ?_
  refine lv_iconst (v := nI 1) hx hb dX11_hears_35 (by decide) ?_
  refine sn_iadd hx hb dX11_hears_36 ?_
  refine sg_iast hx hb hK hM sgA (fun f => sh19 kc_132) (kd_lt kc_132 (by decide)) (i := 5) (by omega) (by decide) dX11_hears_37 (fun H locs hM => ?_)
  exact hret _ _ _ _ _ dX11_hears_38 hM (rfl)

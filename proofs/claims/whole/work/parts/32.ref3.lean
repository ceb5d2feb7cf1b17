/-! the reference's way of the nearest row -/
def cst (v f : Nat → Nat) (x y : Int32) (p : Nat) : Nat := stp (v (p / 4)) (dN (pt (f (p / 4)) (p % 4)) x y)
def bW (v f : Nat → Nat) (x y : Int32) (p : Nat) : Nat := if p ≤ 4 then min NV (stp (v 0) (tlN (f 0) x y p)) else min (min NV (stp (v 0) (tlN (f 0) x y 4))) (stp (v 1) (tlN (f 1) x y (p - 4)))
theorem stp_min (v d t : Nat) : stp v (if d < t then d else t) = min (stp v t) (stp v d) := by
  unfold stp
  by_cases h : v = NV
  · rw [if_pos h, if_pos h, if_pos h, Nat.min_self]
  · rw [if_neg h, if_neg h, if_neg h]
    split <;> omega
theorem bW_0 (v f : Nat → Nat) (x y : Int32) : bW v f x y 0 = NV := by
  unfold bW
  rw [if_pos (by decide)]
  show min NV (stp (v 0) NV) = NV
  unfold stp
  split <;> omega
theorem bW_s {v f : Nat → Nat} {x y : Int32} {p : Nat} (hp : p < 8) : bW v f x y (p + 1) = min (bW v f x y p) (cst v f x y p) := by
  unfold cst
  by_cases h4 : p < 4
  · rw [show p / 4 = 0 by omega, show p % 4 = p by omega]
    unfold bW
    rw [if_pos (by omega), if_pos (by omega), tlN_s, stp_min]
    omega
  · rw [show p / 4 = 1 by omega, show p % 4 = p - 4 by omega]
    unfold bW
    rw [if_neg (by omega)]
    have e : tlN (f 1) x y (p + 1 - 4) = if dN (pt (f 1) (p - 4)) x y < tlN (f 1) x y (p - 4) then dN (pt (f 1) (p - 4)) x y else tlN (f 1) x y (p - 4) := by
      rw [show p + 1 - 4 = (p - 4) + 1 by omega]
      exact tlN_s _ _ _ _
    rw [e, stp_min]
    by_cases h5 : p = 4
    · subst h5
      rw [if_pos (by decide)]
      have z : tlN (f 1) x y (4 - 4) = NV := rfl
      rw [z]
      have q : NV ≤ stp (v 1) NV := by unfold stp; split <;> omega
      omega
    · rw [if_neg (by omega)]
      omega
theorem bW_8 {v f : Nat → Nat} {x y : Int32} (h : stp (v 0) (tl (f 0) x y) ≤ NV) : bW v f x y 8 = min (stp (v 0) (tl (f 0) x y)) (stp (v 1) (tl (f 1) x y)) := by
  unfold bW
  rw [if_neg (by decide)]
  show min (min NV (stp (v 0) (tl (f 0) x y))) (stp (v 1) (tl (f 1) x y)) = _
  omega
theorem bW_le (v f : Nat → Nat) (x y : Int32) (p : Nat) : bW v f x y p ≤ NV := by
  unfold bW
  split <;> omega
theorem tl_min (f : Nat) (x y : Int32) : ∀ n w, w < n → tlN f x y n ≤ dN (pt f w) x y
  | 0, w, h => absurd h (Nat.not_lt_zero _)
  | n + 1, w, h => by
    rw [tlN_s]
    by_cases e : w = n
    · subst e; split <;> omega
    · have := tl_min f x y n w (by omega)
      split <;> omega
theorem cw_fst {f : Nat} {x y : Int32} (hf : f < 4) (hx : hOK x y) : ∀ n, 0 < n → n ≤ 4 → dN (pt f (cwN f x y n)) x y = tlN f x y n ∧ ∀ w, w < cwN f x y n → tlN f x y n < dN (pt f w) x y
  | 0, h, _ => absurd h (by omega)
  | n + 1, _, h4 => by
    have hd := (far_dN hx (pt_lt hf (show n < 4 by omega))).2
    have hNV : NV = 99999999 := rfl
    rw [tlN_s, cwN_s]
    by_cases c : dN (pt f n) x y < tlN f x y n
    · rw [if_pos c, if_pos c]
      exact ⟨rfl, fun w hw => Nat.lt_of_lt_of_le c (tl_min f x y n w hw)⟩
    · rw [if_neg c, if_neg c]
      rcases Nat.eq_zero_or_pos n with z | z
      · subst z
        exact absurd (show dN (pt f 0) x y < NV by omega) c
      · exact cw_fst hf hx n z (by omega)
/-- the first of the eight ways that costs least is the nearest row's step -/
theorem way_ok {v f : Nat → Nat} {x y : Int32} (hf : ∀ u, f u < 4) (hx : hOK x y) (hv : ∀ u, u < 2 → v u = NV ∨ v u ≤ 1000000) (hR : min (stp (v 0) (tl (f 0) x y)) (stp (v 1) (tl (f 1) x y)) < NV) :
    ∀ u, u = (if stp (v 0) (tl (f 0) x y) ≤ stp (v 1) (tl (f 1) x y) then 0 else 1) → cst v f x y (4 * u + cw (f u) x y) = min (stp (v 0) (tl (f 0) x y)) (stp (v 1) (tl (f 1) x y)) ∧ (∀ p, p < 4 * u + cw (f u) x y → cst v f x y p ≠ min (stp (v 0) (tl (f 0) x y)) (stp (v 1) (tl (f 1) x y))) ∧ v u < NV := by
  intro u hu
  have hNV : NV = 99999999 := rfl
  have k : ∀ u, u < 2 → stp (v u) (tl (f u) x y) < NV → v u < NV ∧ stp (v u) (tl (f u) x y) = v u + tl (f u) x y ∧ ∀ w, stp (v u) (dN (pt (f u) w) x y) = v u + dN (pt (f u) w) x y := by
    intro u hu h
    have h1 : v u ≠ NV := by
      intro z
      unfold stp at h
      rw [if_pos z] at h
      omega
    have h2 := hv u hu
    refine ⟨by omega, ?_, fun w => ?_⟩
    · unfold stp; rw [if_neg h1]
    · unfold stp; rw [if_neg h1]
  have c4 := cw_lt (f u) x y
  have q := cw_fst (hf u) hx 4 (by decide) (by decide)
  have q1 : dN (pt (f u) (cw (f u) x y)) x y = tl (f u) x y := q.1
  have q2 : ∀ w, w < cw (f u) x y → tl (f u) x y < dN (pt (f u) w) x y := q.2
  by_cases c : stp (v 0) (tl (f 0) x y) ≤ stp (v 1) (tl (f 1) x y)
  · rw [if_pos c] at hu
    subst hu
    rw [Nat.min_eq_left c] at hR ⊢
    obtain ⟨k1, k2, k3⟩ := k 0 (by decide) hR
    refine ⟨?_, fun p hp => ?_, k1⟩
    · unfold cst
      rw [show (4 * 0 + cw (f 0) x y) / 4 = 0 by omega, show (4 * 0 + cw (f 0) x y) % 4 = cw (f 0) x y by omega, q1]
    · unfold cst
      rw [show p / 4 = 0 by omega, show p % 4 = p by omega, k3, k2]
      have := q2 p (by omega)
      omega
  · rw [if_neg c] at hu
    subst hu
    rw [Nat.min_eq_right (by omega)] at hR ⊢
    obtain ⟨k1, k2, k3⟩ := k 1 (by decide) hR
    refine ⟨?_, fun p hp => ?_, k1⟩
    · unfold cst
      rw [show (4 * 1 + cw (f 1) x y) / 4 = 1 by omega, show (4 * 1 + cw (f 1) x y) % 4 = cw (f 1) x y by omega, q1]
    · unfold cst
      by_cases c2 : p < 4
      · rw [show p / 4 = 0 by omega, show p % 4 = p by omega]
        have t1 : tl (f 0) x y ≤ dN (pt (f 0) p) x y := tl_min (f 0) x y 4 p c2
        have t2 : stp (v 0) (tl (f 0) x y) ≤ stp (v 0) (dN (pt (f 0) p) x y) := by
          unfold stp
          split <;> omega
        omega
      · rw [show p / 4 = 1 by omega, show p % 4 = p - 4 by omega, k3, k2]
        have := q2 (p - 4) (by omega)
        omega
def RowR (σ : Mem) (A : Rec) (n : Nat) (e : Int32) (i : Nat) : Prop := ∀ k, k < i → σ 137 k = nI (uA A n e k) ∧ σ 138 k = nI (wA A n e k) ∧ σ 139 k = nI (sA A n e (k + 1))
set_option maxHeartbeats 4000000 in
set_option maxRecDepth 100000 in
theorem m_costAt (l : Launch) (G : GT) (b : Nat) (σ : Mem) (A : Rec) (hR : ROk A) (hA : RecF (σ 132) A) (k q : Nat) (hk : k < rN A) (hq : q < 16) : KI l G b yX11_costAt cX11_costAt 3 2 σ [.ref (b + 131), .int (nI k), .int (nI q)] (fun r σ' => r = nI (dN q (rX A k) (rY A k)) ∧ σ' = σ) := by
  refine sg_metI [.ref (b + 131), .int (nI k), .int (nI q)] (by decide) (Nat.le_of_ble_eq_true rfl) ?_
  intro vp ve vs vm args below meth vc ls Q hx hb hml hown hts hK hM hl hret
  have hl : lv_has ls 3 [(0, .ref (b + 131)), (1, .int (nI k)), (2, .int (nI q))] := hl
  have hN24 := hR.2.1.2
  refine lv_iload_n hx hb dX11_costAt_0 rfl (lv_at hl 2 rfl) ?_
  refine lv_aload_n hx hb dX11_costAt_1 rfl (lv_at hl 0 rfl) ?_
  refine sg_get (v := .ref (b + 132)) hx hb hts hown hK hM (sh18 kc_131) (kd_lt kc_131 (by decide)) rfl inX11 0 (by decide) wf_X11_7 rfl dX11_costAt_2 ?_
  refine lv_bipush (v := nI 54) hx hb dX11_costAt_5 (by decide) ?_
  refine lv_iconst (v := nI 2) hx hb dX11_costAt_7 (by decide) ?_
  refine lv_iload_n hx hb dX11_costAt_8 rfl (lv_at hl 1 rfl) ?_
  refine sn_imul hx hb dX11_costAt_9 ?_
  refine sn_iadd hx hb dX11_costAt_10 ?_
  refine sg_iald hx hb hK hM (sh19 kc_132) (kd_lt kc_132 (by decide)) (i := 54 + (2 * k)) (by omega) (by decide) dX11_costAt_11 ?_
  refine sn_top (y := rX A k) ((hA.2.2 k hk).1) ?_
  refine lv_aload_n hx hb dX11_costAt_12 rfl (lv_at hl 0 rfl) ?_
  refine sg_get (v := .ref (b + 132)) hx hb hts hown hK hM (sh18 kc_131) (kd_lt kc_131 (by decide)) rfl inX11 0 (by decide) wf_X11_7 rfl dX11_costAt_13 ?_
  refine lv_bipush (v := nI 54) hx hb dX11_costAt_16 (by decide) ?_
  refine lv_iconst (v := nI 2) hx hb dX11_costAt_18 (by decide) ?_
  refine lv_iload_n hx hb dX11_costAt_19 rfl (lv_at hl 1 rfl) ?_
  refine sn_imul hx hb dX11_costAt_20 ?_
  refine sn_iadd hx hb dX11_costAt_21 ?_
  refine lv_iconst (v := nI 1) hx hb dX11_costAt_22 (by decide) ?_
  refine sn_iadd hx hb dX11_costAt_23 ?_
  refine sg_iald hx hb hK hM (sh19 kc_132) (kd_lt kc_132 (by decide)) (i := (54 + (2 * k)) + 1) (by omega) (by decide) dX11_costAt_24 ?_
  refine sn_top (y := rY A k) ((hA.2.2 k hk).2) ?_
  refine sg_ci (sg_runS (d := 1) (As := [.int (nI q), .int (rX A k), .int (rY A k)]) (rest := []) hx hb hml hts hown hK hM (c_m_far l G b σ q (rX A k) (rY A k) (by first | omega | exact fam_lt _ _ _ _ _ | exact gf_lt _ | exact tf_lt _ | exact pt_lt (by first | omega | exact fam_lt _ _ _ _ _) (by omega) | exact tn_lt (by first | omega | exact pt_lt (by omega) (by omega)))) mi_X11_far wl_X11_58 rfl hl.1 rfl (Nat.le_of_ble_eq_true rfl) dX11_costAt_25 ⟨by decide, by decide⟩ ⟨Nat.le_refl 0, Nat.le_refl 0⟩) hM sgA (fun r_25 σ_25 H locs hp_25 hM => ?_)
  obtain ⟨hr_25, hs_25⟩ := hp_25; subst r_25; subst σ_25
  exact hret _ _ _ _ _ _ dX11_costAt_28 hM (⟨(far_dN (hR.2.2.2.1 k hk) hq).1, rfl⟩)
set_option maxHeartbeats 4000000 in
set_option maxRecDepth 100000 in
theorem m_costFrom (l : Launch) (G : GT) (b : Nat) (σ : Mem) (A : Rec) (hR : ROk A) (hA : RecF (σ 132) A) (k s u w v : Nat) (hk : k < rN A) (hs : s < 2 ^ rM A) (hu : u < 2) (hw : w < 4) (hv : σ 136 (8 * (k + 1) + nx (rM A) s u) = nI v) (hv1 : v ≤ NV) : KI l G b yX11_costFrom cX11_costFrom 6 3 σ [.ref (b + 131), .int (nI k), .int (nI s), .int (nI u), .int (nI w)] (fun r σ' => r = nI (stp v (dN (pt (fam (rM A) (rG A) (rH A) s u) w) (rX A k) (rY A k))) ∧ σ' = σ) := by
  refine sg_metI [.ref (b + 131), .int (nI k), .int (nI s), .int (nI u), .int (nI w)] (by decide) (Nat.le_of_ble_eq_true rfl) ?_
  intro vp ve vs vm args below meth vc ls Q hx hb hml hown hts hK hM hl hret
  have hl : lv_has ls 6 [(0, .ref (b + 131)), (1, .int (nI k)), (2, .int (nI s)), (3, .int (nI u)), (4, .int (nI w))] := hl
  have hN24 := hR.2.1.2
  have hm8 := p2_le hR.1.1.2
  have hnx := nx_lt (m := rM A) hu hs
  have hNV : NV = 99999999 := rfl
  refine lv_aload_n hx hb dX11_costFrom_0 rfl (lv_at hl 0 rfl) ?_
  refine sg_get (v := .ref (b + 136)) hx hb hts hown hK hM (sh18 kc_131) (kd_lt kc_131 (by decide)) rfl inX11 5 (by decide) wf_X11_23 rfl dX11_costFrom_1 ?_
  refine lv_bipush (v := nI 8) hx hb dX11_costFrom_4 (by decide) ?_
  refine lv_iload_n hx hb dX11_costFrom_6 rfl (lv_at hl 1 rfl) ?_
  refine lv_iconst (v := nI 1) hx hb dX11_costFrom_7 (by decide) ?_
  refine sn_iadd hx hb dX11_costFrom_8 ?_
  refine sn_imul hx hb dX11_costFrom_9 ?_
  refine lv_aload_n hx hb dX11_costFrom_10 rfl (lv_at hl 0 rfl) ?_
  refine lv_iload_n hx hb dX11_costFrom_11 rfl (lv_at hl 2 rfl) ?_
  refine lv_iload_n hx hb dX11_costFrom_12 rfl (lv_at hl 3 rfl) ?_
  refine sg_ci (sg_runV (d := 0) (As := [.int (nI s), .int (nI u)]) (rest := [.int (nI (8 * (k + 1))), .ref (b + 136)]) hx hb hml hts hown hK hM (m_next l G b σ (rM A) (rG A) (rH A) s u (RCd.of hR hA) (hu) (hs)) mi_X11_stateBy wl_X11_88 (sh18 kc_131) (kd_lt kc_131 (by decide)) rfl rfl rfl hl.1 rfl (Nat.le_of_ble_eq_true rfl) dX11_costFrom_13 ⟨by decide, by decide⟩ ⟨Nat.le_refl 0, Nat.le_refl 0⟩) hM sgA (fun r_13 σ_13 H locs hp_13 hM => ?_)
  obtain ⟨hr_13, hs_13⟩ := hp_13; subst r_13; subst σ_13
  refine sn_iadd hx hb dX11_costFrom_16 ?_
  refine sg_iald hx hb hK hM (sh12 kc_136) (kd_lt kc_136 (by decide)) (i := (8 * (k + 1)) + (nx (rM A) s u)) (by omega) (by decide) dX11_costFrom_17 ?_
  refine sn_top (y := nI v) (hv) ?_
  refine lv_istore (lv' := [(5, .int (nI v)), (0, .ref (b + 131)), (1, .int (nI k)), (2, .int (nI s)), (3, .int (nI u)), (4, .int (nI w))]) hx hb dX11_costFrom_18 hl (by decide) rfl (fun ls hl => ?_)
  refine lv_iload hx hb dX11_costFrom_20 (lv_at hl 0 rfl) ?_
  refine lv_ldc (v := nI 99999999) hx hb hown (hts (Cond.constant RX11 57 (nI 99999999)) wk_X11_57) dX11_costFrom_22 ?_
  refine sn_icmp_ne (tgt := 32) hx hb dX11_costFrom_24 (by decide) (by omega) (by omega) (fun c_24 => ?_) (fun c_24 => ?_)
  · refine lv_iload hx hb dX11_costFrom_32 (lv_at hl 0 rfl) ?_
    refine lv_aload_n hx hb dX11_costFrom_34 rfl (lv_at hl 1 rfl) ?_
    refine lv_iload_n hx hb dX11_costFrom_35 rfl (lv_at hl 2 rfl) ?_
    refine lv_aload_n hx hb dX11_costFrom_36 rfl (lv_at hl 1 rfl) ?_
    refine lv_iload_n hx hb dX11_costFrom_37 rfl (lv_at hl 3 rfl) ?_
    refine lv_iload_n hx hb dX11_costFrom_38 rfl (lv_at hl 4 rfl) ?_
    refine sg_ci (sg_runV (d := 1) (As := [.int (nI s), .int (nI u)]) (rest := [.int (nI k), .ref (b + 131), .int (nI v)]) hx hb hml hts hown hK hM (m_fam l G b σ (rM A) (rG A) (rH A) s u (RCd.of hR hA) (hu) (hs)) mi_X11_familyBy wl_X11_94 (sh18 kc_131) (kd_lt kc_131 (by decide)) rfl rfl rfl hl.1 rfl (Nat.le_of_ble_eq_true rfl) dX11_costFrom_39 ⟨by decide, by decide⟩ ⟨Nat.le_refl 0, Nat.le_refl 0⟩) hM sgA (fun r_39 σ_39 H locs hp_39 hM => ?_)
    obtain ⟨hr_39, hs_39⟩ := hp_39; subst r_39; subst σ_39
    refine lv_iload hx hb dX11_costFrom_42 (lv_at hl 5 rfl) ?_
    refine sg_ci (sg_runS (d := 1) (As := [.int (nI (fam (rM A) (rG A) (rH A) s u)), .int (nI w)]) (rest := [.int (nI k), .ref (b + 131), .int (nI v)]) hx hb hml hts hown hK hM (m_memberOf l G b σ (fam (rM A) (rG A) (rH A) s u) w (fam_lt _ _ _ _ _) hw) mi_X11_memberOf wl_X11_62 rfl hl.1 rfl (Nat.le_of_ble_eq_true rfl) dX11_costFrom_44 ⟨by decide, by decide⟩ ⟨Nat.le_refl 0, Nat.le_refl 0⟩) hM sgA (fun r_44 σ_44 H locs hp_44 hM => ?_)
    obtain ⟨hr_44, hs_44⟩ := hp_44; subst r_44; subst σ_44
    refine sg_ci (sg_runV (d := 2) (As := [.int (nI k), .int (nI (pt (fam (rM A) (rG A) (rH A) s u) w))]) (rest := [.int (nI v)]) hx hb hml hts hown hK hM (m_costAt l G b σ A hR hA k (pt (fam (rM A) (rG A) (rH A) s u) w) hk (pt_lt (fam_lt _ _ _ _ _) hw)) mi_X11_costAt wl_X11_129 (sh18 kc_131) (kd_lt kc_131 (by decide)) rfl rfl rfl hl.1 rfl (Nat.le_of_ble_eq_true rfl) dX11_costFrom_47 ⟨by decide, by decide⟩ ⟨Nat.le_refl 0, Nat.le_refl 0⟩) hM sgA (fun r_47 σ_47 H locs hp_47 hM => ?_)
    obtain ⟨hr_47, hs_47⟩ := hp_47; subst r_47; subst σ_47
    refine sn_iadd hx hb dX11_costFrom_50 ?_
    exact hret _ _ _ _ _ _ dX11_costFrom_51 hM (⟨by unfold stp; first | rw [if_pos c_24] | rw [if_neg c_24], rfl⟩)
  · refine lv_ldc (v := nI 99999999) hx hb hown (hts (Cond.constant RX11 57 (nI 99999999)) wk_X11_57) dX11_costFrom_27 ?_
    refine lv_goto (tgt := 51) hx hb dX11_costFrom_29 (by decide) ?_
    exact hret _ _ _ _ _ _ dX11_costFrom_51 hM (⟨by unfold stp; first | rw [if_pos c_24] | rw [if_neg c_24], rfl⟩)
theorem way_A {A : Rec} (hR : ROk A) {n : Nat} (hn : n ≤ rN A) {e : Int32} {k : Nat} (hk : k < n) (h : dA A n e (n - k) (sA A n e k) < NV) :
    cst (fun u => dA A n e (n - 1 - k) (nx (rM A) (sA A n e k) u)) (fun u => fam (rM A) (rG A) (rH A) (sA A n e k) u) (rX A k) (rY A k) (4 * uA A n e k + wA A n e k) = dA A n e (n - k) (sA A n e k) ∧ (∀ p, p < 4 * uA A n e k + wA A n e k → cst (fun u => dA A n e (n - 1 - k) (nx (rM A) (sA A n e k) u)) (fun u => fam (rM A) (rG A) (rH A) (sA A n e k) u) (rX A k) (rY A k) p ≠ dA A n e (n - k) (sA A n e k)) ∧ dA A n e (n - 1 - k) (sA A n e (k + 1)) < NV := by
  have hN := hR.2.1.2
  rw [show n - k = n - 1 - k + 1 by omega, dA_s, show n - 1 - (n - 1 - k) = k by omega] at h ⊢
  exact way_ok (v := fun u => dA A n e (n - 1 - k) (nx (rM A) (sA A n e k) u)) (f := fun u => fam (rM A) (rG A) (rH A) (sA A n e k) u) (fun u => fam_lt _ _ _ _ _) (hR.2.2.2.1 k (by omega)) (fun u _ => by
    have : dA A n e (n - 1 - k) (nx (rM A) (sA A n e k) u) = NV ∨ dA A n e (n - 1 - k) (nx (rM A) (sA A n e k) u) ≤ 40000 * (n - 1 - k) := dp_b (m := rM A) (g := rG A) (h := rH A) (tc := tcA A) (n := n) (e := e) (by omega) (fun k hk f hf => tcA_le hR k (by omega) f hf) (n - 1 - k) (by omega) (nx (rM A) (sA A n e k) u)
    show dA A n e (n - 1 - k) (nx (rM A) (sA A n e k) u) = NV ∨ dA A n e (n - 1 - k) (nx (rM A) (sA A n e k) u) ≤ 1000000
    omega) h (uA A n e k) rfl
theorem cst_lt {A : Rec} (hR : ROk A) {n : Nat} (hn : n ≤ rN A) {e : Int32} {j k s p : Nat} (hj : j ≤ n) (hk : k < n) : cst (fun u => dA A n e j (nx (rM A) s u)) (fun u => fam (rM A) (rG A) (rH A) s u) (rX A k) (rY A k) p < 2 ^ 31 := by
  unfold cst
  have h1 := dA_le hR hn e j hj (nx (rM A) s (p / 4))
  have h2 := (far_dN (q := pt (fam (rM A) (rG A) (rH A) s (p / 4)) (p % 4)) (hR.2.2.2.1 k (by omega)) (pt_lt (fam_lt _ _ _ _ _) (by omega))).2
  exact stp_le h1 h2
theorem fin_row {σ : Mem} {A : Rec} {n : Nat} {e : Int32} {k : Nat} (h : RowR σ A n e k) (hk : k ≤ n) (c : n ≤ k ∨ dA A n e n 0 = 99999999) (q : dA A n e n 0 < NV) : RowR σ A n e n := by
  have hNV : NV = 99999999 := rfl
  have e1 : k = n := by omega
  subst e1
  exact h
theorem st_ok {A : Rec} (hR : ROk A) {n : Nat} (hn : n ≤ rN A) {e : Int32} {j k s : Nat} (hj : j ≤ n) (hk : k < n) : stp (dA A n e j (nx (rM A) s 0)) (tl (fam (rM A) (rG A) (rH A) s 0) (rX A k) (rY A k)) ≤ NV := by
  have hN := hR.2.1.2
  have h1 := dp_b (m := rM A) (g := rG A) (h := rH A) (tc := tcA A) (n := n) (e := e) (by omega) (fun k hk f hf => tcA_le hR k (by omega) f hf) j hj (nx (rM A) s 0)
  have h2 := tl_le (hR.2.2.2.1 k (by omega)) (fam_lt (rM A) (rG A) (rH A) s 0)
  have hNV : NV = 99999999 := rfl
  have h1 : dA A n e j (nx (rM A) s 0) = NV ∨ dA A n e j (nx (rM A) s 0) ≤ 40000 * j := h1
  unfold stp
  split <;> omega
set_option maxHeartbeats 4000000 in
set_option maxRecDepth 100000 in
theorem m_finds (l : Launch) (G : GT) (b : Nat) (σ : Mem) (A : Rec) (hR : ROk A) (hA : RecF (σ 132) A) (n : Nat) (e : Int32) (hn : n ≤ rN A) : KI l G b yX11_finds cX11_finds 8 4 σ [.ref (b + 131), .int (nI n), .int e] (fun r σ' => r = nI (dA A n e n 0) ∧ (dA A n e n 0 < NV → RowR σ' A n e n) ∧ ∀ c, c < 136 ∨ 140 ≤ c → σ' c = σ c) := by
  refine sg_metI [.ref (b + 131), .int (nI n), .int e] (by decide) (Nat.le_of_ble_eq_true rfl) ?_
  intro vp ve vs vm args below meth vc ls Q hx hb hml hown hts hK hM hl hret
  have hl : lv_has ls 8 [(0, .ref (b + 131)), (1, .int (nI n)), (2, .int e)] := hl
  have hN24 := hR.2.1.2
  have hm8 := p2_le hR.1.1.2
  have hNV : NV = 99999999 := rfl
  have hB : ∀ k, k < n → ∀ f, f < 4 → tcA A k f ≤ 40000 := fun k hk f hf => tcA_le hR k (by omega) f hf
  refine lv_iconst (v := nI 0) hx hb dX11_finds_0 (by decide) ?_
  refine lv_istore_n (lv' := [(3, .int (nI 0)), (0, .ref (b + 131)), (1, .int (nI n)), (2, .int e)]) hx hb dX11_finds_1 rfl hl (by decide) rfl (fun ls hl => ?_)
  have L2 : ∀ (fuel : Nat) (i : Nat) (σ1 : Mem), (i ≤ 2 ^ rM A) → (∀ i1, i1 < i → σ1 136 (8 * n + i1) = nI (dA A n e 0 i1)) → (∀ c, c ≠ 136 → σ1 c = σ c) → (2 ^ rM A - i) < fuel → ∀ (H : Heap) (locs : List Loc) (ls : Array Slot), St G (Fr b) b σ1 vs H locs → lv_has ls 8 [(0, .ref (b + 131)), (1, .int (nI n)), (2, .int e), (3, .int (nI i))] → W vp l ve (RM 4) vs vm args below meth vc H locs 0 0 Q (F0 vm 2 ls []) := by
    intro fuel
    induction fuel with
    | zero => intro i σ1 hi h1 h2 hF; exact absurd hF (Nat.not_lt_zero _)
    | succ fuel ih2 =>
      intro i σ1 hi h1 h2 hF H locs ls hM hl
      refine lv_iload_n hx hb dX11_finds_2 rfl (lv_at hl 3 rfl) ?_
      refine lv_aload_n hx hb dX11_finds_3 rfl (lv_at hl 0 rfl) ?_
      refine sg_ci (sg_runV (d := 0) (As := []) (rest := [.int (nI i)]) hx hb hml hts hown hK hM (m_states l G b σ1 (rM A) (rG A) (rH A) (RCd.of hR (by rw [h2 132 (by decide)]; exact hA))) mi_X11_manyStates wl_X11_73 (sh18 kc_131) (kd_lt kc_131 (by decide)) rfl rfl rfl hl.1 rfl (Nat.le_of_ble_eq_true rfl) dX11_finds_4 ⟨by decide, by decide⟩ ⟨Nat.le_refl 0, Nat.le_refl 0⟩) hM sgA (fun r_4 σ_4 H locs hp_4 hM => ?_)
      obtain ⟨hr_4, hs_4⟩ := hp_4; subst r_4; subst σ_4
      refine sn_icmp_ge (tgt := 43) hx hb dX11_finds_7 (by decide) (by omega) (by omega) (fun c_7 => ?_) (fun c_7 => ?_)
      · refine lv_iload_n hx hb dX11_finds_43 rfl (lv_at hl 1 rfl) ?_
        refine lv_iconst (v := nI 1) hx hb dX11_finds_44 (by decide) ?_
        refine lv_isub hx hb dX11_finds_45 ?_
        refine lv_istore_n (lv' := [(3, .int ((nI n) - (nI 1))), (0, .ref (b + 131)), (1, .int (nI n)), (2, .int e)]) hx hb dX11_finds_46 rfl hl (by decide) rfl (fun ls hl => ?_)
        have L47 : ∀ (fuel : Nat) (j : Nat) (σ2 : Mem), (j ≤ n) → (∀ k, j ≤ k → k ≤ n → ∀ s, s < 2 ^ rM A → σ2 136 (8 * k + s) = nI (dA A n e (n - k) s)) → (∀ c, c ≠ 136 → σ2 c = σ c) → (j) < fuel → ∀ (H : Heap) (locs : List Loc) (ls : Array Slot), St G (Fr b) b σ2 vs H locs → lv_has ls 8 [(0, .ref (b + 131)), (1, .int (nI n)), (2, .int e), (3, .int (nI j - nI 1))] → W vp l ve (RM 4) vs vm args below meth vc H locs 0 0 Q (F0 vm 47 ls []) := by
          intro fuel
          induction fuel with
          | zero => intro j σ2 hj h3 h4 hF; exact absurd hF (Nat.not_lt_zero _)
          | succ fuel ih47 =>
            intro j σ2 hj h3 h4 hF H locs ls hM hl
            refine lv_iload_n hx hb dX11_finds_47 rfl (lv_at hl 3 rfl) ?_
            refine lv_if_lt (tgt := 142) hx hb dX11_finds_48 (by decide) (fun c_48 => ?_) (fun c_48 => ?_)
            · have ej := q_neg (by omega) c_48
              refine lv_iconst (v := nI 0) hx hb dX11_finds_142 (by decide) ?_
              refine lv_istore_n (lv' := [(3, .int (nI 0)), (0, .ref (b + 131)), (1, .int (nI n)), (2, .int e)]) hx hb dX11_finds_143 rfl hl (by decide) rfl (fun ls hl => ?_)
              refine lv_iconst (v := nI 0) hx hb dX11_finds_144 (by decide) ?_
              refine lv_istore (lv' := [(4, .int (nI 0)), (3, .int (nI 0)), (0, .ref (b + 131)), (1, .int (nI n)), (2, .int e)]) hx hb dX11_finds_145 hl (by decide) rfl (fun ls hl => ?_)
              have L147 : ∀ (fuel : Nat) (k : Nat) (σ4 : Mem), (k ≤ n) → (∀ k, k ≤ n → ∀ s, s < 2 ^ rM A → σ4 136 (8 * k + s) = nI (dA A n e (n - k) s)) → (RowR σ4 A n e k) → (∀ c, c < 136 ∨ 140 ≤ c → σ4 c = σ c) → (dA A n e n 0 < NV → dA A n e (n - k) (sA A n e k) < NV) → (n - k) < fuel → ∀ (H : Heap) (locs : List Loc) (ls : Array Slot), St G (Fr b) b σ4 vs H locs → lv_has ls 8 [(0, .ref (b + 131)), (1, .int (nI n)), (2, .int e), (3, .int (nI (sA A n e k))), (4, .int (nI k))] → W vp l ve (RM 4) vs vm args below meth vc H locs 0 0 Q (F0 vm 147 ls []) := by
                intro fuel
                induction fuel with
                | zero => intro k σ4 hk w1 w2 w3 w4 hF; exact absurd hF (Nat.not_lt_zero _)
                | succ fuel ih147 =>
                  intro k σ4 hk w1 w2 w3 w4 hF H locs ls hM hl
                  refine lv_iload hx hb dX11_finds_147 (lv_at hl 4 rfl) ?_
                  refine lv_iload_n hx hb dX11_finds_149 rfl (lv_at hl 1 rfl) ?_
                  refine sn_icmp_ge (tgt := 249) hx hb dX11_finds_150 (by decide) (by omega) (by omega) (fun hlk => ?_) (fun hlk => ?_)
                  · refine lv_aload_n hx hb dX11_finds_249 rfl (lv_at hl 0 rfl) ?_
                    refine sg_get (v := .ref (b + 136)) hx hb hts hown hK hM (sh18 kc_131) (kd_lt kc_131 (by decide)) rfl inX11 5 (by decide) wf_X11_23 rfl dX11_finds_250 ?_
                    refine lv_iconst (v := nI 0) hx hb dX11_finds_253 (by decide) ?_
                    refine sg_iald hx hb hK hM (sh12 kc_136) (kd_lt kc_136 (by decide)) (i := 0) (by omega) (by decide) dX11_finds_254 ?_
                    refine sn_top (y := nI (dA A n e n 0)) (w1 0 (Nat.zero_le _) 0 (p2_pos _)) ?_
                    exact hret _ _ _ _ _ _ dX11_finds_255 hM (⟨rfl, fun q => fin_row w2 hk (by first | exact Or.inl hlk | exact Or.inr d5) q, w3⟩)
                  · refine lv_aload_n hx hb dX11_finds_153 rfl (lv_at hl 0 rfl) ?_
                    refine sg_get (v := .ref (b + 136)) hx hb hts hown hK hM (sh18 kc_131) (kd_lt kc_131 (by decide)) rfl inX11 5 (by decide) wf_X11_23 rfl dX11_finds_154 ?_
                    refine lv_iconst (v := nI 0) hx hb dX11_finds_157 (by decide) ?_
                    refine sg_iald hx hb hK hM (sh12 kc_136) (kd_lt kc_136 (by decide)) (i := 0) (by omega) (by decide) dX11_finds_158 ?_
                    refine sn_top (y := nI (dA A n e n 0)) (w1 0 (Nat.zero_le _) 0 (p2_pos _)) ?_
                    refine lv_ldc (v := nI 99999999) hx hb hown (hts (Cond.constant RX11 57 (nI 99999999)) wk_X11_57) dX11_finds_159 ?_
                    refine sn_icmp_eq (tgt := 249) hx hb dX11_finds_161 (by decide) (by have := dA_le hR hn e n (Nat.le_refl _) 0; omega) (by omega) (fun d5 => ?_) (fun d5 => ?_)
                    · refine lv_aload_n hx hb dX11_finds_249 rfl (lv_at hl 0 rfl) ?_
                      refine sg_get (v := .ref (b + 136)) hx hb hts hown hK hM (sh18 kc_131) (kd_lt kc_131 (by decide)) rfl inX11 5 (by decide) wf_X11_23 rfl dX11_finds_250 ?_
                      refine lv_iconst (v := nI 0) hx hb dX11_finds_253 (by decide) ?_
                      refine sg_iald hx hb hK hM (sh12 kc_136) (kd_lt kc_136 (by decide)) (i := 0) (by omega) (by decide) dX11_finds_254 ?_
                      refine sn_top (y := nI (dA A n e n 0)) (w1 0 (Nat.zero_le _) 0 (p2_pos _)) ?_
                      exact hret _ _ _ _ _ _ dX11_finds_255 hM (⟨rfl, fun q => fin_row w2 hk (by first | exact Or.inl hlk | exact Or.inr d5) q, w3⟩)
                    · have hd := Nat.lt_of_le_of_ne (dA_le hR hn e n (Nat.le_refl _) 0) d5
                      have hw := way_A hR hn hlk (w4 hd)
                      have hu2 : uA A n e k < 2 := du_lt _ _ _ _ _ _ _ _
                      have hw4 : wA A n e k < 4 := cw_lt _ _ _
                      refine lv_iconst (v := nI 0) hx hb dX11_finds_164 (by decide) ?_
                      refine lv_istore (lv' := [(5, .int (nI 0)), (0, .ref (b + 131)), (1, .int (nI n)), (2, .int e), (3, .int (nI (sA A n e k))), (4, .int (nI k))]) hx hb dX11_finds_165 hl (by decide) rfl (fun ls hl => ?_)
                      have L167 : ∀ (fuel : Nat) (p : Nat), (p ≤ 4 * uA A n e k + wA A n e k) → (8 - p) < fuel → ∀ (H : Heap) (locs : List Loc) (ls : Array Slot), St G (Fr b) b σ4 vs H locs → lv_has ls 8 [(0, .ref (b + 131)), (1, .int (nI n)), (2, .int e), (3, .int (nI (sA A n e k))), (4, .int (nI k)), (5, .int (nI p))] → W vp l ve (RM 4) vs vm args below meth vc H locs 0 0 Q (F0 vm 167 ls []) := by
                        intro fuel
                        induction fuel with
                        | zero => intro p hp hF; exact absurd hF (Nat.not_lt_zero _)
                        | succ fuel ih167 =>
                          intro p hp hF H locs ls hM hl
                          refine lv_aload_n hx hb dX11_finds_167 rfl (lv_at hl 0 rfl) ?_
                          refine lv_iload hx hb dX11_finds_168 (lv_at hl 4 rfl) ?_
                          refine lv_iload_n hx hb dX11_finds_170 rfl (lv_at hl 3 rfl) ?_
                          refine lv_iload hx hb dX11_finds_171 (lv_at hl 5 rfl) ?_
                          refine lv_iconst (v := nI 4) hx hb dX11_finds_173 (by decide) ?_
                          refine sn_idiv hx hb dX11_finds_174 (by omega) (by omega) (by omega) ?_
                          refine lv_iload hx hb dX11_finds_175 (lv_at hl 5 rfl) ?_
                          refine lv_iconst (v := nI 4) hx hb dX11_finds_177 (by decide) ?_
                          refine sn_irem hx hb dX11_finds_178 (by omega) (by omega) (by omega) ?_
                          refine sg_ci (sg_runV (d := 3) (As := [.int (nI k), .int (nI (sA A n e k)), .int (nI (p / 4)), .int (nI (p % 4))]) (rest := []) hx hb hml hts hown hK hM (m_costFrom l G b σ4 A hR (by rw [w3 132 (by omega)]; exact hA) k (sA A n e k) (p / 4) (p % 4) (dA A n e (n - 1 - k) (nx (rM A) (sA A n e k) (p / 4))) (by omega) (qS_lt _ _ _ _ _ _ _) (by omega) (by omega) (by have q := w1 (k + 1) (by omega) _ (nx_lt (m := rM A) (s := sA A n e k) (u := p / 4) (by omega) (qS_lt _ _ _ _ _ _ _)); rw [show n - (k + 1) = n - 1 - k by omega] at q; exact q) (dp_le (by omega) hB (by omega) _)) mi_X11_costFrom wl_X11_132 (sh18 kc_131) (kd_lt kc_131 (by decide)) rfl rfl rfl hl.1 rfl (Nat.le_of_ble_eq_true rfl) dX11_finds_179 ⟨by decide, by decide⟩ ⟨Nat.le_refl 0, Nat.le_refl 0⟩) hM sgA (fun r_179 σ_179 H locs hp_179 hM => ?_)
                          obtain ⟨hr_179, hs_179⟩ := hp_179; subst r_179; subst σ_179
                          refine lv_aload_n hx hb dX11_finds_182 rfl (lv_at hl 0 rfl) ?_
                          refine sg_get (v := .ref (b + 136)) hx hb hts hown hK hM (sh18 kc_131) (kd_lt kc_131 (by decide)) rfl inX11 5 (by decide) wf_X11_23 rfl dX11_finds_183 ?_
                          refine lv_bipush (v := nI 8) hx hb dX11_finds_186 (by decide) ?_
                          refine lv_iload hx hb dX11_finds_188 (lv_at hl 4 rfl) ?_
                          refine sn_imul hx hb dX11_finds_190 ?_
                          refine lv_iload_n hx hb dX11_finds_191 rfl (lv_at hl 3 rfl) ?_
                          refine sn_iadd hx hb dX11_finds_192 ?_
                          refine sg_iald hx hb hK hM (sh12 kc_136) (kd_lt kc_136 (by decide)) (i := (8 * k) + (sA A n e k)) (by have : sA A n e k < 2 ^ rM A := qS_lt _ _ _ _ _ _ _; omega) (by decide) dX11_finds_193 ?_
                          refine sn_top (y := nI (dA A n e (n - k) (sA A n e k))) (w1 k (by omega) _ (qS_lt _ _ _ _ _ _ _)) ?_
                          refine sn_icmp_eq (tgt := 203) hx hb dX11_finds_194 (by decide) (cst_lt hR hn (by omega) (by omega)) (by have := dA_le hR hn e (n - k) (by omega) (sA A n e k); omega) (fun d6 => ?_) (fun d6 => ?_)
                          · have hpe : p = 4 * uA A n e k + wA A n e k := by
                              apply Classical.byContradiction
                              intro q
                              exact hw.2.1 p (by omega) d6
                            have hpu : p / 4 = uA A n e k := by omega
                            have hpw : p % 4 = wA A n e k := by omega
                            refine lv_aload_n hx hb dX11_finds_203 rfl (lv_at hl 0 rfl) ?_
                            refine sg_get (v := .ref (b + 137)) hx hb hts hown hK hM (sh18 kc_131) (kd_lt kc_131 (by decide)) rfl inX11 6 (by decide) wf_X11_26 rfl dX11_finds_204 ?_
                            refine lv_iload hx hb dX11_finds_207 (lv_at hl 4 rfl) ?_
                            refine lv_iload hx hb dX11_finds_209 (lv_at hl 5 rfl) ?_
                            refine lv_iconst (v := nI 4) hx hb dX11_finds_211 (by decide) ?_
                            refine sn_idiv hx hb dX11_finds_212 (by omega) (by omega) (by omega) ?_
                            refine sg_iast hx hb hK hM sgA (fun f => sh4 kc_137) (kd_lt kc_137 (by decide)) (i := k) (by omega) (by decide) dX11_finds_213 (fun H locs hM => ?_)
                            refine lv_aload_n hx hb dX11_finds_214 rfl (lv_at hl 0 rfl) ?_
                            refine sg_get (v := .ref (b + 138)) hx hb hts hown hK hM (sh18 kc_131) (kd_lt kc_131 (by decide)) rfl inX11 7 (by decide) wf_X11_29 rfl dX11_finds_215 ?_
                            refine lv_iload hx hb dX11_finds_218 (lv_at hl 4 rfl) ?_
                            refine lv_iload hx hb dX11_finds_220 (lv_at hl 5 rfl) ?_
                            refine lv_iconst (v := nI 4) hx hb dX11_finds_222 (by decide) ?_
                            refine sn_irem hx hb dX11_finds_223 (by omega) (by omega) (by omega) ?_
                            refine sg_iast hx hb hK hM sgA (fun f => sh4 kc_138) (kd_lt kc_138 (by decide)) (i := k) (by omega) (by decide) dX11_finds_224 (fun H locs hM => ?_)
                            refine lv_aload_n hx hb dX11_finds_225 rfl (lv_at hl 0 rfl) ?_
                            refine lv_iload_n hx hb dX11_finds_226 rfl (lv_at hl 3 rfl) ?_
                            refine lv_iload hx hb dX11_finds_227 (lv_at hl 5 rfl) ?_
                            refine lv_iconst (v := nI 4) hx hb dX11_finds_229 (by decide) ?_
                            refine sn_idiv hx hb dX11_finds_230 (by omega) (by omega) (by omega) ?_
                            refine sg_ci (sg_runV (d := 0) (As := [.int (nI (sA A n e k)), .int (nI (p / 4))]) (rest := []) hx hb hml hts hown hK hM (m_next l G b (m2 (m2 σ4 137 k (nI (p / 4))) 138 k (nI (p % 4))) (rM A) (rG A) (rH A) (sA A n e k) (p / 4) (RCd.of hR (by rw [m2_o (by decide), m2_o (by decide), w3 132 (by omega)]; exact hA)) (by omega) (qS_lt _ _ _ _ _ _ _)) mi_X11_stateBy wl_X11_88 (sh18 kc_131) (kd_lt kc_131 (by decide)) rfl rfl rfl hl.1 rfl (Nat.le_of_ble_eq_true rfl) dX11_finds_231 ⟨by decide, by decide⟩ ⟨Nat.le_refl 0, Nat.le_refl 0⟩) hM sgA (fun r_231 σ_231 H locs hp_231 hM => ?_)
                            obtain ⟨hr_231, hs_231⟩ := hp_231; subst r_231; subst σ_231
                            refine sn_top (y := nI (sA A n e (k + 1))) (by rw [hpu]; rfl) ?_
                            refine lv_istore_n (lv' := [(3, .int (nI (sA A n e (k + 1)))), (0, .ref (b + 131)), (1, .int (nI n)), (2, .int e), (4, .int (nI k)), (5, .int (nI p))]) hx hb dX11_finds_234 rfl hl (by decide) rfl (fun ls hl => ?_)
                            refine lv_aload_n hx hb dX11_finds_235 rfl (lv_at hl 1 rfl) ?_
                            refine sg_get (v := .ref (b + 139)) hx hb hts hown hK hM (sh18 kc_131) (kd_lt kc_131 (by decide)) rfl inX11 8 (by decide) wf_X11_32 rfl dX11_finds_236 ?_
                            refine lv_iload hx hb dX11_finds_239 (lv_at hl 4 rfl) ?_
                            refine lv_iload_n hx hb dX11_finds_241 rfl (lv_at hl 0 rfl) ?_
                            refine sg_iast hx hb hK hM sgA (fun f => sh4 kc_139) (kd_lt kc_139 (by decide)) (i := k) (by omega) (by decide) dX11_finds_242 (fun H locs hM => ?_)
                            refine lv_iinc (v := nI (k + 1)) (lv' := [(4, .int (nI (k + 1))), (3, .int (nI (sA A n e (k + 1)))), (0, .ref (b + 131)), (1, .int (nI n)), (2, .int e), (5, .int (nI p))]) hx hb dX11_finds_243 hl (k := 4) rfl (q_inc _) (by decide) rfl (fun ls hl => ?_)
                            refine lv_goto (tgt := 147) hx hb dX11_finds_246 (by decide) ?_
                            exact ih147 (k + 1) (m2 (m2 (m2 σ4 137 k (nI (p / 4))) 138 k (nI (p % 4))) 139 k (nI (sA A n e (k + 1)))) (by omega) (fun k1 a s1 hs1 => by rw [m2_o (by decide), m2_o (by decide), m2_o (by decide)]; exact w1 k1 a s1 hs1) (fun k1 q => if e1 : k1 = k then (by subst e1; exact ⟨by rw [m2_o (by decide), m2_o (by decide), m2_ss, hpu], by rw [m2_o (by decide), m2_ss, hpw], m2_ss⟩) else (by have z := w2 k1 (by omega); exact ⟨by rw [m2_o (by decide), m2_o (by decide), m2_sn e1]; exact z.1, by rw [m2_o (by decide), m2_sn e1, m2_o (by decide)]; exact z.2.1, by rw [m2_sn e1, m2_o (by decide), m2_o (by decide)]; exact z.2.2⟩)) (fun c q => by rw [m2_o (by omega), m2_o (by omega), m2_o (by omega)]; exact w3 c q) (fun _ => by rw [show n - (k + 1) = n - 1 - k by omega]; exact hw.2.2) (by omega) _ _ _ hM (lv_sub hl [2, 3, 4, 1, 0] rfl)
                          · have hpne : p ≠ 4 * uA A n e k + wA A n e k := fun q => d6 (by rw [q]; exact hw.1)
                            refine lv_iinc (v := nI (p + 1)) (lv' := [(5, .int (nI (p + 1))), (0, .ref (b + 131)), (1, .int (nI n)), (2, .int e), (3, .int (nI (sA A n e k))), (4, .int (nI k))]) hx hb dX11_finds_197 hl (k := 5) rfl (q_inc _) (by decide) rfl (fun ls hl => ?_)
                            refine lv_goto (tgt := 167) hx hb dX11_finds_200 (by decide) ?_
                            exact ih167 (p + 1) (by omega) (by omega) _ _ _ hM (lv_sub hl [1, 2, 3, 4, 5, 0] rfl)
                      exact L167 (_ + 1) 0 (Nat.zero_le _) (Nat.lt_succ_self _) _ _ _ hM (lv_sub hl [1, 2, 3, 4, 5, 0] rfl)
              exact L147 (_ + 1) 0 σ2 (Nat.zero_le _) (by subst ej; exact fun k a s hs => h3 k (Nat.zero_le _) a s hs) (fun k q => absurd q (by omega)) (fun c q => h4 c (by omega)) (fun q => by rw [Nat.sub_zero]; exact q) (Nat.lt_succ_self _) _ _ _ hM (lv_sub hl [2, 3, 4, 1, 0] rfl)
            · have hj1 := q_nneg c_48
              rw [pk_sub (show 1 ≤ j from hj1)] at hl
              have hl : lv_has ls 8 [(0, .ref (b + 131)), (1, .int (nI n)), (2, .int e), (3, .int (nI (j - 1)))] := hl
              refine lv_iconst (v := nI 0) hx hb dX11_finds_51 (by decide) ?_
              refine lv_istore (lv' := [(4, .int (nI 0)), (0, .ref (b + 131)), (1, .int (nI n)), (2, .int e), (3, .int (nI (j - 1)))]) hx hb dX11_finds_52 hl (by decide) rfl (fun ls hl => ?_)
              have L54 : ∀ (fuel : Nat) (s : Nat) (σ3 : Mem), (s ≤ 2 ^ rM A) → (∀ k, j ≤ k → k ≤ n → ∀ s, s < 2 ^ rM A → σ3 136 (8 * k + s) = nI (dA A n e (n - k) s)) → (∀ s1, s1 < s → σ3 136 (8 * (j - 1) + s1) = nI (dA A n e (n - (j - 1)) s1)) → (∀ c, c ≠ 136 → σ3 c = σ c) → (2 ^ rM A - s) < fuel → ∀ (H : Heap) (locs : List Loc) (ls : Array Slot), St G (Fr b) b σ3 vs H locs → lv_has ls 8 [(0, .ref (b + 131)), (1, .int (nI n)), (2, .int e), (3, .int (nI (j - 1))), (4, .int (nI s))] → W vp l ve (RM 4) vs vm args below meth vc H locs 0 0 Q (F0 vm 54 ls []) := by
                intro fuel
                induction fuel with
                | zero => intro s σ3 hs h7 h8 h9 hF; exact absurd hF (Nat.not_lt_zero _)
                | succ fuel ih54 =>
                  intro s σ3 hs h7 h8 h9 hF H locs ls hM hl
                  refine lv_iload hx hb dX11_finds_54 (lv_at hl 4 rfl) ?_
                  refine lv_aload_n hx hb dX11_finds_56 rfl (lv_at hl 0 rfl) ?_
                  refine sg_ci (sg_runV (d := 0) (As := []) (rest := [.int (nI s)]) hx hb hml hts hown hK hM (m_states l G b σ3 (rM A) (rG A) (rH A) (RCd.of hR (by rw [h9 132 (by decide)]; exact hA))) mi_X11_manyStates wl_X11_73 (sh18 kc_131) (kd_lt kc_131 (by decide)) rfl rfl rfl hl.1 rfl (Nat.le_of_ble_eq_true rfl) dX11_finds_57 ⟨by decide, by decide⟩ ⟨Nat.le_refl 0, Nat.le_refl 0⟩) hM sgA (fun r_57 σ_57 H locs hp_57 hM => ?_)
                  obtain ⟨hr_57, hs_57⟩ := hp_57; subst r_57; subst σ_57
                  refine sn_icmp_ge (tgt := 136) hx hb dX11_finds_60 (by decide) (by omega) (by omega) (fun hls => ?_) (fun hls => ?_)
                  · refine lv_iinc (v := nI (j - 1) - nI 1) (lv' := [(3, .int (nI (j - 1) - nI 1)), (0, .ref (b + 131)), (1, .int (nI n)), (2, .int e), (4, .int (nI s))]) hx hb dX11_finds_136 hl (k := 3) rfl (q_dec1 _) (by decide) rfl (fun ls hl => ?_)
                    refine lv_goto (tgt := 47) hx hb dX11_finds_139 (by decide) ?_
                    exact ih47 (j - 1) σ3 (by omega) (fun k a1 a2 s1 hs1 => if e1 : k = j - 1 then (by subst e1; exact h8 s1 (by omega)) else h7 k (by omega) a2 s1 hs1) h9 (by omega) _ _ _ hM (lv_sub hl [1, 2, 3, 0] rfl)
                  · have hst : stp ((fun u => dA A n e (n - j) (nx (rM A) s u)) 0) (tl ((fun u => fam (rM A) (rG A) (rH A) s u) 0) (rX A (j - 1)) (rY A (j - 1))) ≤ NV := st_ok hR hn (by omega) (by omega)
                    refine lv_ldc (v := nI 99999999) hx hb hown (hts (Cond.constant RX11 57 (nI 99999999)) wk_X11_57) dX11_finds_63 ?_
                    refine lv_istore (lv' := [(5, .int (nI 99999999)), (0, .ref (b + 131)), (1, .int (nI n)), (2, .int e), (3, .int (nI (j - 1))), (4, .int (nI s))]) hx hb dX11_finds_65 hl (by decide) rfl (fun ls hl => ?_)
                    refine lv_iconst (v := nI 0) hx hb dX11_finds_67 (by decide) ?_
                    refine lv_istore (lv' := [(6, .int (nI 0)), (5, .int (nI 99999999)), (0, .ref (b + 131)), (1, .int (nI n)), (2, .int e), (3, .int (nI (j - 1))), (4, .int (nI s))]) hx hb dX11_finds_68 hl (by decide) rfl (fun ls hl => ?_)
                    have L70 : ∀ (fuel : Nat) (p : Nat) (b1 : Nat), (p ≤ 8) → (b1 = bW (fun u => dA A n e (n - j) (nx (rM A) s u)) (fun u => fam (rM A) (rG A) (rH A) s u) (rX A (j - 1)) (rY A (j - 1)) p) → (8 - p) < fuel → ∀ (H : Heap) (locs : List Loc) (ls : Array Slot), St G (Fr b) b σ3 vs H locs → lv_has ls 8 [(0, .ref (b + 131)), (1, .int (nI n)), (2, .int e), (3, .int (nI (j - 1))), (4, .int (nI s)), (5, .int (nI b1)), (6, .int (nI p))] → W vp l ve (RM 4) vs vm args below meth vc H locs 0 0 Q (F0 vm 70 ls []) := by
                      intro fuel
                      induction fuel with
                      | zero => intro p b1 hp hb1 hF; exact absurd hF (Nat.not_lt_zero _)
                      | succ fuel ih70 =>
                        intro p b1 hp hb1 hF H locs ls hM hl
                        refine lv_iload hx hb dX11_finds_70 (lv_at hl 6 rfl) ?_
                        refine lv_bipush (v := nI 8) hx hb dX11_finds_72 (by decide) ?_
                        refine sn_icmp_ge (tgt := 116) hx hb dX11_finds_74 (by decide) (by omega) (by omega) (fun hlp => ?_) (fun hlp => ?_)
                        · refine lv_aload_n hx hb dX11_finds_116 rfl (lv_at hl 0 rfl) ?_
                          refine sg_get (v := .ref (b + 136)) hx hb hts hown hK hM (sh18 kc_131) (kd_lt kc_131 (by decide)) rfl inX11 5 (by decide) wf_X11_23 rfl dX11_finds_117 ?_
                          refine lv_bipush (v := nI 8) hx hb dX11_finds_120 (by decide) ?_
                          refine lv_iload_n hx hb dX11_finds_122 rfl (lv_at hl 3 rfl) ?_
                          refine sn_imul hx hb dX11_finds_123 ?_
                          refine lv_iload hx hb dX11_finds_124 (lv_at hl 4 rfl) ?_
                          refine sn_iadd hx hb dX11_finds_126 ?_
                          refine lv_iload hx hb dX11_finds_127 (lv_at hl 5 rfl) ?_
                          refine sg_iast hx hb hK hM sgA (fun f => sh12 kc_136) (kd_lt kc_136 (by decide)) (i := (8 * (j - 1)) + s) (by omega) (by decide) dX11_finds_129 (fun H locs hM => ?_)
                          refine lv_iinc (v := nI (s + 1)) (lv' := [(4, .int (nI (s + 1))), (0, .ref (b + 131)), (1, .int (nI n)), (2, .int e), (3, .int (nI (j - 1))), (5, .int (nI b1)), (6, .int (nI p))]) hx hb dX11_finds_130 hl (k := 4) rfl (q_inc _) (by decide) rfl (fun ls hl => ?_)
                          refine lv_goto (tgt := 54) hx hb dX11_finds_133 (by decide) ?_
                          exact ih54 (s + 1) (m2 σ3 136 ((8 * (j - 1)) + s) (nI b1)) (by omega) (fun k a1 a2 s1 hs1 => by rw [m2_sn (by omega)]; exact h7 k a1 a2 s1 hs1) (fun s1 q => if e1 : s1 = s then (by subst e1; rw [m2_ss, hb1, show p = 8 by omega, bW_8 hst, show n - (j - 1) = n - j + 1 by omega, dA_s, show n - 1 - (n - j) = j - 1 by omega]; rfl) else (by rw [m2_sn (by omega)]; exact h8 s1 (by omega))) (fun c a1 => by rw [m2_o a1]; exact h9 c a1) (by omega) _ _ _ hM (lv_sub hl [1, 2, 3, 4, 0] rfl)
                        · refine lv_aload_n hx hb dX11_finds_77 rfl (lv_at hl 0 rfl) ?_
                          refine lv_iload_n hx hb dX11_finds_78 rfl (lv_at hl 3 rfl) ?_
                          refine lv_iload hx hb dX11_finds_79 (lv_at hl 4 rfl) ?_
                          refine lv_iload hx hb dX11_finds_81 (lv_at hl 6 rfl) ?_
                          refine lv_iconst (v := nI 4) hx hb dX11_finds_83 (by decide) ?_
                          refine sn_idiv hx hb dX11_finds_84 (by omega) (by omega) (by omega) ?_
                          refine lv_iload hx hb dX11_finds_85 (lv_at hl 6 rfl) ?_
                          refine lv_iconst (v := nI 4) hx hb dX11_finds_87 (by decide) ?_
                          refine sn_irem hx hb dX11_finds_88 (by omega) (by omega) (by omega) ?_
                          refine sg_ci (sg_runV (d := 3) (As := [.int (nI (j - 1)), .int (nI s), .int (nI (p / 4)), .int (nI (p % 4))]) (rest := []) hx hb hml hts hown hK hM (m_costFrom l G b σ3 A hR (by rw [h9 132 (by decide)]; exact hA) (j - 1) s (p / 4) (p % 4) (dA A n e (n - j) (nx (rM A) s (p / 4))) (by omega) hls (by omega) (by omega) (by rw [show j - 1 + 1 = j by omega]; exact h7 j (by omega) (by omega) _ (nx_lt (by omega) hls)) (dp_le (by omega) hB (by omega) _)) mi_X11_costFrom wl_X11_132 (sh18 kc_131) (kd_lt kc_131 (by decide)) rfl rfl rfl hl.1 rfl (Nat.le_of_ble_eq_true rfl) dX11_finds_89 ⟨by decide, by decide⟩ ⟨Nat.le_refl 0, Nat.le_refl 0⟩) hM sgA (fun r_89 σ_89 H locs hp_89 hM => ?_)
                          obtain ⟨hr_89, hs_89⟩ := hp_89; subst r_89; subst σ_89
                          refine lv_istore (lv' := [(7, .int (nI (cst (fun u => dA A n e (n - j) (nx (rM A) s u)) (fun u => fam (rM A) (rG A) (rH A) s u) (rX A (j - 1)) (rY A (j - 1)) p))), (0, .ref (b + 131)), (1, .int (nI n)), (2, .int e), (3, .int (nI (j - 1))), (4, .int (nI s)), (5, .int (nI b1)), (6, .int (nI p))]) hx hb dX11_finds_92 hl (by decide) rfl (fun ls hl => ?_)
                          refine lv_iload hx hb dX11_finds_94 (lv_at hl 0 rfl) ?_
                          refine lv_iload hx hb dX11_finds_96 (lv_at hl 6 rfl) ?_
                          refine sn_icmp_ge (tgt := 106) hx hb dX11_finds_98 (by decide) (cst_lt hR hn (by omega) (by omega)) (by have := bW_le (fun u => dA A n e (n - j) (nx (rM A) s u)) (fun u => fam (rM A) (rG A) (rH A) s u) (rX A (j - 1)) (rY A (j - 1)) p; omega) (fun c_98 => ?_) (fun c_98 => ?_)
                          · refine lv_iload hx hb dX11_finds_106 (lv_at hl 6 rfl) ?_
                            refine lv_istore (lv' := [(5, .int (nI b1)), (7, .int (nI (cst (fun u => dA A n e (n - j) (nx (rM A) s u)) (fun u => fam (rM A) (rG A) (rH A) s u) (rX A (j - 1)) (rY A (j - 1)) p))), (0, .ref (b + 131)), (1, .int (nI n)), (2, .int e), (3, .int (nI (j - 1))), (4, .int (nI s)), (6, .int (nI p))]) hx hb dX11_finds_108 hl (by decide) rfl (fun ls hl => ?_)
                            refine lv_iinc (v := nI (p + 1)) (lv' := [(6, .int (nI (p + 1))), (5, .int (nI b1)), (7, .int (nI (cst (fun u => dA A n e (n - j) (nx (rM A) s u)) (fun u => fam (rM A) (rG A) (rH A) s u) (rX A (j - 1)) (rY A (j - 1)) p))), (0, .ref (b + 131)), (1, .int (nI n)), (2, .int e), (3, .int (nI (j - 1))), (4, .int (nI s))]) hx hb dX11_finds_110 hl (k := 7) rfl (q_inc _) (by decide) rfl (fun ls hl => ?_)
                            refine lv_goto (tgt := 70) hx hb dX11_finds_113 (by decide) ?_
                            exact ih70 (p + 1) b1 (by omega) (by rw [bW_s hlp, ← hb1]; first | exact (Nat.min_eq_left c_98).symm | exact (Nat.min_eq_right (Nat.le_of_lt c_98)).symm) (by omega) _ _ _ hM (lv_sub hl [3, 4, 5, 6, 7, 1, 0] rfl)
                          · refine lv_iload hx hb dX11_finds_101 (lv_at hl 0 rfl) ?_
                            refine lv_goto (tgt := 108) hx hb dX11_finds_103 (by decide) ?_
                            refine lv_istore (lv' := [(5, .int (nI (cst (fun u => dA A n e (n - j) (nx (rM A) s u)) (fun u => fam (rM A) (rG A) (rH A) s u) (rX A (j - 1)) (rY A (j - 1)) p))), (7, .int (nI (cst (fun u => dA A n e (n - j) (nx (rM A) s u)) (fun u => fam (rM A) (rG A) (rH A) s u) (rX A (j - 1)) (rY A (j - 1)) p))), (0, .ref (b + 131)), (1, .int (nI n)), (2, .int e), (3, .int (nI (j - 1))), (4, .int (nI s)), (6, .int (nI p))]) hx hb dX11_finds_108 hl (by decide) rfl (fun ls hl => ?_)
                            refine lv_iinc (v := nI (p + 1)) (lv' := [(6, .int (nI (p + 1))), (5, .int (nI (cst (fun u => dA A n e (n - j) (nx (rM A) s u)) (fun u => fam (rM A) (rG A) (rH A) s u) (rX A (j - 1)) (rY A (j - 1)) p))), (7, .int (nI (cst (fun u => dA A n e (n - j) (nx (rM A) s u)) (fun u => fam (rM A) (rG A) (rH A) s u) (rX A (j - 1)) (rY A (j - 1)) p))), (0, .ref (b + 131)), (1, .int (nI n)), (2, .int e), (3, .int (nI (j - 1))), (4, .int (nI s))]) hx hb dX11_finds_110 hl (k := 7) rfl (q_inc _) (by decide) rfl (fun ls hl => ?_)
                            refine lv_goto (tgt := 70) hx hb dX11_finds_113 (by decide) ?_
                            exact ih70 (p + 1) (cst (fun u => dA A n e (n - j) (nx (rM A) s u)) (fun u => fam (rM A) (rG A) (rH A) s u) (rX A (j - 1)) (rY A (j - 1)) p) (by omega) (by rw [bW_s hlp, ← hb1]; first | exact (Nat.min_eq_left c_98).symm | exact (Nat.min_eq_right (Nat.le_of_lt c_98)).symm) (by omega) _ _ _ hM (lv_sub hl [3, 4, 5, 6, 7, 1, 0] rfl)
                    exact L70 (_ + 1) 0 NV (by omega) ((bW_0 _ _ _ _).symm) (Nat.lt_succ_self _) _ _ _ hM (lv_sub hl [2, 3, 4, 5, 6, 1, 0] rfl)
              exact L54 (_ + 1) 0 σ2 (Nat.zero_le _) h3 (fun s1 q => absurd q (by omega)) h4 (Nat.lt_succ_self _) _ _ _ hM (lv_sub hl [1, 2, 3, 4, 0] rfl)
        exact L47 (_ + 1) n σ1 (by omega) (fun k a1 a2 s hs => by rw [show k = n by omega, Nat.sub_self]; exact h1 s (by omega)) h2 (Nat.lt_succ_self _) _ _ _ hM (lv_sub hl [1, 2, 3, 0] rfl)
      · refine lv_aload_n hx hb dX11_finds_10 rfl (lv_at hl 0 rfl) ?_
        refine sg_get (v := .ref (b + 136)) hx hb hts hown hK hM (sh18 kc_131) (kd_lt kc_131 (by decide)) rfl inX11 5 (by decide) wf_X11_23 rfl dX11_finds_11 ?_
        refine lv_bipush (v := nI 8) hx hb dX11_finds_14 (by decide) ?_
        refine lv_iload_n hx hb dX11_finds_16 rfl (lv_at hl 1 rfl) ?_
        refine sn_imul hx hb dX11_finds_17 ?_
        refine lv_iload_n hx hb dX11_finds_18 rfl (lv_at hl 3 rfl) ?_
        refine sn_iadd hx hb dX11_finds_19 ?_
        refine lv_iload_n hx hb dX11_finds_20 rfl (lv_at hl 2 rfl) ?_
        refine lv_iconst (v := (-1)) hx hb dX11_finds_21 (by decide) ?_
        refine lv_icmp_eq (tgt := 30) hx hb dX11_finds_22 (by decide) (fun c_22 => ?_) (fun c_22 => ?_)
        · refine lv_iconst (v := nI 0) hx hb dX11_finds_30 (by decide) ?_
          refine lv_goto (tgt := 36) hx hb dX11_finds_31 (by decide) ?_
          refine sg_iast hx hb hK hM sgA (fun f => sh12 kc_136) (kd_lt kc_136 (by decide)) (i := (8 * n) + i) (by omega) (by decide) dX11_finds_36 (fun H locs hM => ?_)
          refine lv_iinc (v := nI (i + 1)) (lv' := [(3, .int (nI (i + 1))), (0, .ref (b + 131)), (1, .int (nI n)), (2, .int e)]) hx hb dX11_finds_37 hl (k := 3) rfl (q_inc _) (by decide) rfl (fun ls hl => ?_)
          refine lv_goto (tgt := 2) hx hb dX11_finds_40 (by decide) ?_
          exact ih2 (i + 1) (m2 σ1 136 ((8 * n) + i) (nI 0)) (by omega) (fun i1 q => if e1 : i1 = i then (by subst e1; rw [m2_ss]; unfold dp; first | rw [if_pos (Or.inl c_22)] | rw [if_pos (Or.inr c_27)] | rw [if_neg (fun q => q.elim c_22 c_27)]) else (by rw [m2_sn (by omega)]; exact h1 i1 (by omega))) (fun c a1 => by rw [m2_o a1]; exact h2 c a1) (by omega) _ _ _ hM (lv_sub hl [1, 2, 3, 0] rfl)
        · refine lv_iload_n hx hb dX11_finds_25 rfl (lv_at hl 2 rfl) ?_
          refine lv_iload_n hx hb dX11_finds_26 rfl (lv_at hl 3 rfl) ?_
          refine lv_icmp_ne (tgt := 34) hx hb dX11_finds_27 (by decide) (fun c_27 => ?_) (fun c_27 => ?_)
          · refine lv_ldc (v := nI 99999999) hx hb hown (hts (Cond.constant RX11 57 (nI 99999999)) wk_X11_57) dX11_finds_34 ?_
            refine sg_iast hx hb hK hM sgA (fun f => sh12 kc_136) (kd_lt kc_136 (by decide)) (i := (8 * n) + i) (by omega) (by decide) dX11_finds_36 (fun H locs hM => ?_)
            refine lv_iinc (v := nI (i + 1)) (lv' := [(3, .int (nI (i + 1))), (0, .ref (b + 131)), (1, .int (nI n)), (2, .int e)]) hx hb dX11_finds_37 hl (k := 3) rfl (q_inc _) (by decide) rfl (fun ls hl => ?_)
            refine lv_goto (tgt := 2) hx hb dX11_finds_40 (by decide) ?_
            exact ih2 (i + 1) (m2 σ1 136 ((8 * n) + i) (nI 99999999)) (by omega) (fun i1 q => if e1 : i1 = i then (by subst e1; rw [m2_ss]; unfold dp; first | rw [if_pos (Or.inl c_22)] | rw [if_pos (Or.inr c_27)] | rw [if_neg (fun q => q.elim c_22 c_27)]) else (by rw [m2_sn (by omega)]; exact h1 i1 (by omega))) (fun c a1 => by rw [m2_o a1]; exact h2 c a1) (by omega) _ _ _ hM (lv_sub hl [1, 2, 3, 0] rfl)
          · refine lv_iconst (v := nI 0) hx hb dX11_finds_30 (by decide) ?_
            refine lv_goto (tgt := 36) hx hb dX11_finds_31 (by decide) ?_
            refine sg_iast hx hb hK hM sgA (fun f => sh12 kc_136) (kd_lt kc_136 (by decide)) (i := (8 * n) + i) (by omega) (by decide) dX11_finds_36 (fun H locs hM => ?_)
            refine lv_iinc (v := nI (i + 1)) (lv' := [(3, .int (nI (i + 1))), (0, .ref (b + 131)), (1, .int (nI n)), (2, .int e)]) hx hb dX11_finds_37 hl (k := 3) rfl (q_inc _) (by decide) rfl (fun ls hl => ?_)
            refine lv_goto (tgt := 2) hx hb dX11_finds_40 (by decide) ?_
            exact ih2 (i + 1) (m2 σ1 136 ((8 * n) + i) (nI 0)) (by omega) (fun i1 q => if e1 : i1 = i then (by subst e1; rw [m2_ss]; unfold dp; first | rw [if_pos (Or.inl c_22)] | rw [if_pos (Or.inr c_27)] | rw [if_neg (fun q => q.elim c_22 c_27)]) else (by rw [m2_sn (by omega)]; exact h1 i1 (by omega))) (fun c a1 => by rw [m2_o a1]; exact h2 c a1) (by omega) _ _ _ hM (lv_sub hl [1, 2, 3, 0] rfl)
  exact L2 (_ + 1) 0 σ (Nat.zero_le _) (fun k1 q => absurd q (by omega)) (fun _ _ => rfl) (Nat.lt_succ_self _) _ _ _ hM (lv_sub hl [1, 2, 3, 0] rfl)
set_option maxHeartbeats 4000000 in
set_option maxRecDepth 100000 in
theorem m_pointOf (l : Launch) (G : GT) (b : Nat) (σ : Mem) (A : Rec) (hR : ROk A) (hA : RecF (σ 132) A) (n : Nat) (e : Int32) (k : Nat) (hn : n ≤ 24) (hk : k < n) (hw : RowR σ A n e n) : KI l G b yX11_pointOf cX11_pointOf 2 2 σ [.ref (b + 131), .int (nI k)] (fun r σ' => r = nI (pA A n e k) ∧ σ' = σ) := by
  refine sg_metI [.ref (b + 131), .int (nI k)] (by decide) (Nat.le_of_ble_eq_true rfl) ?_
  intro vp ve vs vm args below meth vc ls Q hx hb hml hown hts hK hM hl hret
  have hl : lv_has ls 2 [(0, .ref (b + 131)), (1, .int (nI k))] := hl
  refine lv_aload_n hx hb dX11_pointOf_0 rfl (lv_at hl 0 rfl) ?_
  refine lv_iload_n hx hb dX11_pointOf_1 rfl (lv_at hl 1 rfl) ?_
  refine sn_if_ne (tgt := 9) hx hb dX11_pointOf_2 (by decide) (by omega) (fun c_2 => ?_) (fun c_2 => ?_)
  · refine lv_aload_n hx hb dX11_pointOf_9 rfl (lv_at hl 0 rfl) ?_
    refine sg_get (v := .ref (b + 139)) hx hb hts hown hK hM (sh18 kc_131) (kd_lt kc_131 (by decide)) rfl inX11 8 (by decide) wf_X11_32 rfl dX11_pointOf_10 ?_
    refine lv_iload_n hx hb dX11_pointOf_13 rfl (lv_at hl 1 rfl) ?_
    refine lv_iconst (v := nI 1) hx hb dX11_pointOf_14 (by decide) ?_
    refine sn_isub hx hb dX11_pointOf_15 (by omega) ?_
    refine sg_iald hx hb hK hM (sh4 kc_139) (kd_lt kc_139 (by decide)) (i := k - 1) (by omega) (by decide) dX11_pointOf_16 ?_
    refine sn_top (y := nI (sA A n e k)) (by rw [(hw (k - 1) (by omega)).2.2, show k - 1 + 1 = k by omega]) ?_
    refine lv_aload_n hx hb dX11_pointOf_17 rfl (lv_at hl 0 rfl) ?_
    refine sg_get (v := .ref (b + 137)) hx hb hts hown hK hM (sh18 kc_131) (kd_lt kc_131 (by decide)) rfl inX11 6 (by decide) wf_X11_26 rfl dX11_pointOf_18 ?_
    refine lv_iload_n hx hb dX11_pointOf_21 rfl (lv_at hl 1 rfl) ?_
    refine sg_iald hx hb hK hM (sh4 kc_137) (kd_lt kc_137 (by decide)) (i := k) (by omega) (by decide) dX11_pointOf_22 ?_
    refine sn_top (y := nI (uA A n e k)) ((hw k hk).1) ?_
    refine sg_ci (sg_runV (d := 1) (As := [.int (nI (sA A n e k)), .int (nI (uA A n e k))]) (rest := []) hx hb hml hts hown hK hM (m_fam l G b σ (rM A) (rG A) (rH A) (sA A n e k) (uA A n e k) (RCd.of hR hA) (du_lt _ _ _ _ _ _ _ _) (qS_lt _ _ _ _ _ _ _)) mi_X11_familyBy wl_X11_94 (sh18 kc_131) (kd_lt kc_131 (by decide)) rfl rfl rfl hl.1 rfl (Nat.le_of_ble_eq_true rfl) dX11_pointOf_23 ⟨by decide, by decide⟩ ⟨Nat.le_refl 0, Nat.le_refl 0⟩) hM sgA (fun r_23 σ_23 H locs hp_23 hM => ?_)
    obtain ⟨hr_23, hs_23⟩ := hp_23; subst r_23; subst σ_23
    refine lv_aload_n hx hb dX11_pointOf_26 rfl (lv_at hl 0 rfl) ?_
    refine sg_get (v := .ref (b + 138)) hx hb hts hown hK hM (sh18 kc_131) (kd_lt kc_131 (by decide)) rfl inX11 7 (by decide) wf_X11_29 rfl dX11_pointOf_27 ?_
    refine lv_iload_n hx hb dX11_pointOf_30 rfl (lv_at hl 1 rfl) ?_
    refine sg_iald hx hb hK hM (sh4 kc_138) (kd_lt kc_138 (by decide)) (i := k) (by omega) (by decide) dX11_pointOf_31 ?_
    refine sn_top (y := nI (wA A n e k)) ((hw k hk).2.1) ?_
    refine sg_ci (sg_runS (d := 1) (As := [.int (nI (fA A n e k)), .int (nI (wA A n e k))]) (rest := []) hx hb hml hts hown hK hM (m_memberOf l G b σ (fA A n e k) (wA A n e k) (fam_lt _ _ _ _ _) (cw_lt _ _ _)) mi_X11_memberOf wl_X11_62 rfl hl.1 rfl (Nat.le_of_ble_eq_true rfl) dX11_pointOf_32 ⟨by decide, by decide⟩ ⟨Nat.le_refl 0, Nat.le_refl 0⟩) hM sgA (fun r_32 σ_32 H locs hp_32 hM => ?_)
    obtain ⟨hr_32, hs_32⟩ := hp_32; subst r_32; subst σ_32
    exact hret _ _ _ _ _ _ dX11_pointOf_35 hM (⟨rfl, rfl⟩)
  · refine lv_iconst (v := nI 0) hx hb dX11_pointOf_5 (by decide) ?_
    refine sn_top (y := nI (sA A n e k)) (by rw [c_2]; rfl) ?_
    refine lv_goto (tgt := 17) hx hb dX11_pointOf_6 (by decide) ?_
    refine lv_aload_n hx hb dX11_pointOf_17 rfl (lv_at hl 0 rfl) ?_
    refine sg_get (v := .ref (b + 137)) hx hb hts hown hK hM (sh18 kc_131) (kd_lt kc_131 (by decide)) rfl inX11 6 (by decide) wf_X11_26 rfl dX11_pointOf_18 ?_
    refine lv_iload_n hx hb dX11_pointOf_21 rfl (lv_at hl 1 rfl) ?_
    refine sg_iald hx hb hK hM (sh4 kc_137) (kd_lt kc_137 (by decide)) (i := k) (by omega) (by decide) dX11_pointOf_22 ?_
    refine sn_top (y := nI (uA A n e k)) ((hw k hk).1) ?_
    refine sg_ci (sg_runV (d := 1) (As := [.int (nI (sA A n e k)), .int (nI (uA A n e k))]) (rest := []) hx hb hml hts hown hK hM (m_fam l G b σ (rM A) (rG A) (rH A) (sA A n e k) (uA A n e k) (RCd.of hR hA) (du_lt _ _ _ _ _ _ _ _) (qS_lt _ _ _ _ _ _ _)) mi_X11_familyBy wl_X11_94 (sh18 kc_131) (kd_lt kc_131 (by decide)) rfl rfl rfl hl.1 rfl (Nat.le_of_ble_eq_true rfl) dX11_pointOf_23 ⟨by decide, by decide⟩ ⟨Nat.le_refl 0, Nat.le_refl 0⟩) hM sgA (fun r_23 σ_23 H locs hp_23 hM => ?_)
    obtain ⟨hr_23, hs_23⟩ := hp_23; subst r_23; subst σ_23
    refine lv_aload_n hx hb dX11_pointOf_26 rfl (lv_at hl 0 rfl) ?_
    refine sg_get (v := .ref (b + 138)) hx hb hts hown hK hM (sh18 kc_131) (kd_lt kc_131 (by decide)) rfl inX11 7 (by decide) wf_X11_29 rfl dX11_pointOf_27 ?_
    refine lv_iload_n hx hb dX11_pointOf_30 rfl (lv_at hl 1 rfl) ?_
    refine sg_iald hx hb hK hM (sh4 kc_138) (kd_lt kc_138 (by decide)) (i := k) (by omega) (by decide) dX11_pointOf_31 ?_
    refine sn_top (y := nI (wA A n e k)) ((hw k hk).2.1) ?_
    refine sg_ci (sg_runS (d := 1) (As := [.int (nI (fA A n e k)), .int (nI (wA A n e k))]) (rest := []) hx hb hml hts hown hK hM (m_memberOf l G b σ (fA A n e k) (wA A n e k) (fam_lt _ _ _ _ _) (cw_lt _ _ _)) mi_X11_memberOf wl_X11_62 rfl hl.1 rfl (Nat.le_of_ble_eq_true rfl) dX11_pointOf_32 ⟨by decide, by decide⟩ ⟨Nat.le_refl 0, Nat.le_refl 0⟩) hM sgA (fun r_32 σ_32 H locs hp_32 hM => ?_)
    obtain ⟨hr_32, hs_32⟩ := hp_32; subst r_32; subst σ_32
    exact hret _ _ _ _ _ _ dX11_pointOf_35 hM (⟨rfl, rfl⟩)

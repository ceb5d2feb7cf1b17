theorem fb_holes : ∀ (m n : Nat) (f : Nat → Nat), (∀ i, i < n → f i < m) → (∀ i j, i < j → j < n → f i ≠ f j) → n ≤ m := by
  intro m
  induction m with
  | zero =>
    intro n f h1 _
    rcases Nat.eq_zero_or_pos n with h | h
    · omega
    · exact absurd (h1 0 h) (Nat.not_lt_zero _)
  | succ m ih =>
    intro n f h1 h2
    by_cases hx : ∃ i, i < n ∧ f i = m
    · obtain ⟨a, ha, hfa⟩ := hx
      have hg := ih (n - 1) (fun i => if i < a then f i else f (i + 1)) (by
        intro i hi
        by_cases q : i < a
        · simp only [if_pos q]
          have b1 := h1 i (by omega)
          have b2 := h2 i a q ha
          omega
        · simp only [if_neg q]
          have b1 := h1 (i + 1) (by omega)
          have b2 := h2 a (i + 1) (by omega) (by omega)
          omega) (by
        intro i j hij hj
        by_cases q : i < a
        · by_cases r : j < a
          · simp only [if_pos q, if_pos r]
            exact h2 i j hij (by omega)
          · simp only [if_pos q, if_neg r]
            exact h2 i (j + 1) (by omega) (by omega)
        · have r : ¬ j < a := by omega
          simp only [if_neg q, if_neg r]
          exact h2 (i + 1) (j + 1) (by omega) (by omega))
      omega
    · have hg := ih n f (fun i hi => by
        have b1 := h1 i hi
        have b2 : f i ≠ m := fun e => hx ⟨i, hi, e⟩
        omega) h2
      omega
/-- the queue of pairs, and what was seen -/
def QS (σ : Mem) (m M : Nat) (q : Nat → Nat) : Prop := (∀ i, i < M → σ 143 i = nI (q i) ∧ q i < 2048 ∧ q i / 256 < 2 ^ m) ∧ (∀ x, x < 2048 → ∃ z : Bool, σ 142 x = bz z ∧ (z = true ↔ ∃ i, i < M ∧ q i = x)) ∧ ∀ i j, i < j → j < M → q i ≠ q j
theorem QS_lt {σ : Mem} {m M : Nat} {q : Nat → Nat} (h : QS σ m M q) {y : Nat} (hy : y < 2048) (hn : ∀ i, i < M → q i ≠ y) : M < 2048 := by
  have z := fb_holes 2048 (M + 1) (fun i => if i = M then y else q i) (fun i hi => by
    by_cases e : i = M
    · simp only [if_pos e]; exact hy
    · simp only [if_neg e]; exact (h.1 i (by omega)).2.1) (fun i j hij hj => by
    by_cases e : j = M
    · simp only [if_pos e, if_neg (show i ≠ M by omega)]; exact hn i (by omega)
    · simp only [if_neg e, if_neg (show i ≠ M by omega)]; exact h.2.2 i j hij (by omega))
  omega
theorem QS_add {σ σ' : Mem} {m M : Nat} {q : Nat → Nat} (h : QS σ m M q) {y : Nat} (hy : y < 2048) (hm : y / 256 < 2 ^ m) (hn : ∀ i, i < M → q i ≠ y) (e1 : σ' 142 = upd (σ 142) y (nI 1)) (e2 : σ' 143 = upd (σ 143) M (nI y)) : QS σ' m (M + 1) (fu q M y) := by
  refine ⟨fun i hi => ?_, fun x hx => ?_, fun i j hij hj => ?_⟩
  · rw [e2]
    unfold upd
    by_cases e : i = M
    · rw [if_pos e, e, fu_s]; exact ⟨rfl, hy, hm⟩
    · rw [if_neg e, fu_n _ e]; exact h.1 i (by omega)
  · rw [e1]
    unfold upd
    by_cases e : x = y
    · rw [if_pos e]
      exact ⟨true, rfl, fun _ => ⟨M, by omega, by rw [fu_s, e]⟩, fun _ => rfl⟩
    · rw [if_neg e]
      obtain ⟨z, h1, h2⟩ := h.2.1 x hx
      refine ⟨z, h1, fun w => ?_, fun ⟨i, hi, w⟩ => ?_⟩
      · obtain ⟨i, hi, w⟩ := h2.mp w
        exact ⟨i, by omega, by rw [fu_n _ (by omega)]; exact w⟩
      · by_cases e3 : i = M
        · subst e3; rw [fu_s] at w; exact absurd w.symm e
        · rw [fu_n _ e3] at w; exact h2.mpr ⟨i, by omega, w⟩
  · by_cases e : j = M
    · subst e; rw [fu_s, fu_n _ (by omega)]; exact hn i hij
    · rw [fu_n _ e, fu_n _ (by omega)]; exact h.2.2 i j hij (by omega)
theorem q_no {m g h M : Nat} {q : Nat → Nat} (hc : cOK m g h) (h0 : ∀ s, s < 2 ^ m → ∃ i, i < M ∧ q i = 256 * s + 2 ^ 2 ^ m - 1) (hcl : ∀ i, i < M → ∀ u, u < 2 → tt m g h (q i / 256) (q i % 256) u ≠ 0 ∧ ∃ j, j < M ∧ q j = 256 * nx m (q i / 256) u + tt m g h (q i / 256) (q i % 256) u) : False := by
  have hp := pp_pos m
  have hpp := pp_le hc.1.2
  refine bd_absurd hc (K := fun _ s S => S < 2 ^ 2 ^ m ∧ ∃ i, i < M ∧ q i = 256 * s + S) (fun s hs => ⟨by omega, ?_⟩) (fun d s S k hs u hu => ?_)
  · obtain ⟨i, hi, e⟩ := h0 s hs
    exact ⟨i, hi, by omega⟩
  · obtain ⟨hS, i, hi, e⟩ := k
    have z := hcl i hi u hu
    rw [show q i / 256 = s by omega, show q i % 256 = S by omega] at z
    exact ⟨z.1, fo_lt _ _ _ _ _, z.2⟩
theorem foN_s2 {m g h S f p : Nat} : foN m g h S f (p + 1) = if S / 2 ^ (p / 2) % 2 = 1 ∧ fam m g h (p / 2) (p % 2) = f then foN m g h S f p ||| 2 ^ nx m (p / 2) (p % 2) else foN m g h S f p := rfl
/-- of pair i, the ways below p are seen to -/
def Pr (m g h M : Nat) (q : Nat → Nat) (i p : Nat) : Prop := ∀ u, u < p → tt m g h (q i / 256) (q i % 256) u ≠ 0 ∧ ∃ j, j < M ∧ q j = 256 * nx m (q i / 256) u + tt m g h (q i / 256) (q i % 256) u
theorem Pr.up {m g h M i p y : Nat} {q : Nat → Nat} (H : Pr m g h M q i p) (hi : i < M) : Pr m g h (M + 1) (fu q M y) i p := by
  intro u hu
  rw [fu_n _ (show i ≠ M by omega)]
  obtain ⟨h1, j, hj, e⟩ := H u hu
  exact ⟨h1, j, by omega, by rw [fu_n _ (by omega)]; exact e⟩
set_option maxHeartbeats 4000000 in
set_option maxRecDepth 100000 in
theorem m_isTurning (l : Launch) (G : GT) (b : Nat) (σ : Mem) (m g h : Nat) (hc : RCd σ m g h) (hk : cOK m g h) : KZ l G b yX11_isTurning cX11_isTurning 11 3 σ [.ref (b + 131)] (fun r σ' => r = bz false ∧ ∀ c, c < 142 ∨ 144 ≤ c → σ' c = σ c) := by
  refine sg_metZ [.ref (b + 131)] (by decide) (Nat.le_of_ble_eq_true rfl) ?_
  intro vp ve vs vm args below meth vc ls Q hx hb hml hown hts hK hM hl hret
  have hl : lv_has ls 11 [(0, .ref (b + 131))] := hl
  have hm8 := p2_le hc.m
  have hpp := pp_le hc.m
  have hp2 := pp_pos m
  refine lv_aload_n hx hb dX11_isTurning_0 rfl (lv_at hl 0 rfl) ?_
  refine sg_ci (sg_runV (d := 0) (As := []) (rest := []) hx hb hml hts hown hK hM (m_states l G b σ m g h hc) mi_X11_manyStates wl_X11_73 (sh18 kc_131) (kd_lt kc_131 (by decide)) rfl rfl rfl hl.1 rfl (Nat.le_of_ble_eq_true rfl) dX11_isTurning_1 ⟨by decide, by decide⟩ ⟨Nat.le_refl 0, Nat.le_refl 0⟩) hM sgA (fun r_1 σ_1 H locs hp_1 hM => ?_)
  obtain ⟨hr_1, hs_1⟩ := hp_1; subst r_1; subst σ_1
  refine lv_istore_n (lv' := [(1, .int (nI (2 ^ m))), (0, .ref (b + 131))]) hx hb dX11_isTurning_4 rfl hl (by decide) rfl (fun ls hl => ?_)
  refine lv_iconst (v := nI 0) hx hb dX11_isTurning_5 (by decide) ?_
  refine lv_istore_n (lv' := [(2, .int (nI 0)), (1, .int (nI (2 ^ m))), (0, .ref (b + 131))]) hx hb dX11_isTurning_6 rfl hl (by decide) rfl (fun ls hl => ?_)
  have L7 : ∀ (fuel : Nat) (k0 : Nat) (σ1 : Mem), (k0 ≤ 2048) → (∀ i, i < k0 → σ1 142 i = nI 0) → (∀ c, c ≠ 142 → σ1 c = σ c) → (2048 - k0) < fuel → ∀ (H : Heap) (locs : List Loc) (ls : Array Slot), St G (Fr b) b σ1 vs H locs → lv_has ls 11 [(0, .ref (b + 131)), (1, .int (nI (2 ^ m))), (2, .int (nI k0))] → W vp l ve (RM 3) vs vm args below meth vc H locs 0 0 Q (F0 vm 7 ls []) := by
    intro fuel
    induction fuel with
    | zero => intro k0 σ1 hk0 a1 a2 hF; exact absurd hF (Nat.not_lt_zero _)
    | succ fuel ih7 =>
      intro k0 σ1 hk0 a1 a2 hF H locs ls hM hl
      refine lv_iload_n hx hb dX11_isTurning_7 rfl (lv_at hl 2 rfl) ?_
      refine lv_sipush (v := nI 2048) hx hb dX11_isTurning_8 (by decide) ?_
      refine sn_icmp_ge (tgt := 27) hx hb dX11_isTurning_11 (by decide) (by omega) (by omega) (fun c_11 => ?_) (fun c_11 => ?_)
      · refine lv_iconst (v := nI 0) hx hb dX11_isTurning_27 (by decide) ?_
        refine lv_istore_n (lv' := [(2, .int (nI 0)), (0, .ref (b + 131)), (1, .int (nI (2 ^ m)))]) hx hb dX11_isTurning_28 rfl hl (by decide) rfl (fun ls hl => ?_)
        refine lv_iconst (v := nI 0) hx hb dX11_isTurning_29 (by decide) ?_
        refine lv_istore_n (lv' := [(3, .int (nI 0)), (2, .int (nI 0)), (0, .ref (b + 131)), (1, .int (nI (2 ^ m)))]) hx hb dX11_isTurning_30 rfl hl (by decide) rfl (fun ls hl => ?_)
        have L31 : ∀ (fuel : Nat) (s1 : Nat) (σ2 : Mem) (q0 : Nat → Nat), (s1 ≤ 2 ^ m) → (QS σ2 m s1 q0) → (∀ i, i < s1 → q0 i = 256 * i + 2 ^ 2 ^ m - 1) → (∀ c, c ≠ 142 → c ≠ 143 → σ2 c = σ c) → (2 ^ m - s1) < fuel → ∀ (H : Heap) (locs : List Loc) (ls : Array Slot), St G (Fr b) b σ2 vs H locs → lv_has ls 11 [(0, .ref (b + 131)), (1, .int (nI (2 ^ m))), (2, .int (nI s1)), (3, .int (nI s1))] → W vp l ve (RM 3) vs vm args below meth vc H locs 0 0 Q (F0 vm 31 ls []) := by
          intro fuel
          induction fuel with
          | zero => intro s1 σ2 q0 hs1 b1 b2 b3 hF; exact absurd hF (Nat.not_lt_zero _)
          | succ fuel ih31 =>
            intro s1 σ2 q0 hs1 b1 b2 b3 hF H locs ls hM hl
            refine lv_iload_n hx hb dX11_isTurning_31 rfl (lv_at hl 3 rfl) ?_
            refine lv_iload_n hx hb dX11_isTurning_32 rfl (lv_at hl 1 rfl) ?_
            refine sn_icmp_ge (tgt := 74) hx hb dX11_isTurning_33 (by decide) (by omega) (by omega) (fun hls => ?_) (fun hls => ?_)
            · refine lv_iconst (v := nI 0) hx hb dX11_isTurning_74 (by decide) ?_
              refine lv_istore_n (lv' := [(3, .int (nI 0)), (0, .ref (b + 131)), (1, .int (nI (2 ^ m))), (2, .int (nI s1))]) hx hb dX11_isTurning_75 rfl hl (by decide) rfl (fun ls hl => ?_)
              have L76 : ∀ (fuel : Nat) (k1 : Nat) (M1 : Nat) (σ3 : Mem) (q1 : Nat → Nat), (k1 ≤ M1 ∧ M1 ≤ 2048) → (QS σ3 m M1 q1) → (∀ s, s < 2 ^ m → ∃ i, i < M1 ∧ q1 i = 256 * s + 2 ^ 2 ^ m - 1) → (∀ i, i < k1 → Pr m g h M1 q1 i 2) → (∀ c, c ≠ 142 → c ≠ 143 → σ3 c = σ c) → (2049 - k1) < fuel → ∀ (H : Heap) (locs : List Loc) (ls : Array Slot), St G (Fr b) b σ3 vs H locs → lv_has ls 11 [(0, .ref (b + 131)), (1, .int (nI (2 ^ m))), (2, .int (nI M1)), (3, .int (nI k1))] → W vp l ve (RM 3) vs vm args below meth vc H locs 0 0 Q (F0 vm 76 ls []) := by
                intro fuel
                induction fuel with
                | zero => intro k1 M1 σ3 q1 hk1 e1 e2 e3 e4 hF; exact absurd hF (Nat.not_lt_zero _)
                | succ fuel ih76 =>
                  intro k1 M1 σ3 q1 hk1 e1 e2 e3 e4 hF H locs ls hM hl
                  refine lv_iload_n hx hb dX11_isTurning_76 rfl (lv_at hl 3 rfl) ?_
                  refine lv_iload_n hx hb dX11_isTurning_77 rfl (lv_at hl 2 rfl) ?_
                  refine sn_icmp_ge (tgt := 277) hx hb dX11_isTurning_78 (by decide) (by omega) (by omega) (fun hlk => ?_) (fun hlk => ?_)
                  · exact (q_no hk e2 (fun i hi => e3 i (by omega))).elim
                  · refine lv_aload_n hx hb dX11_isTurning_81 rfl (lv_at hl 0 rfl) ?_
                    refine sg_get (v := .ref (b + 143)) hx hb hts hown hK hM (sh18 kc_131) (kd_lt kc_131 (by decide)) rfl inX11 12 (by decide) wf_X11_44 rfl dX11_isTurning_82 ?_
                    refine lv_iload_n hx hb dX11_isTurning_85 rfl (lv_at hl 3 rfl) ?_
                    refine sg_iald hx hb hK hM (sh23 kc_143) (kd_lt kc_143 (by decide)) (i := k1) (by omega) (by decide) dX11_isTurning_86 ?_
                    refine sn_top (y := nI (q1 k1)) ((e1.1 k1 hlk).1) ?_
                    refine lv_sipush (v := nI 256) hx hb dX11_isTurning_87 (by decide) ?_
                    refine sn_idiv hx hb dX11_isTurning_90 (by have := (e1.1 k1 hlk).2.1; omega) (by omega) (by omega) ?_
                    refine lv_istore (lv' := [(4, .int (nI ((q1 k1) / 256))), (0, .ref (b + 131)), (1, .int (nI (2 ^ m))), (2, .int (nI M1)), (3, .int (nI k1))]) hx hb dX11_isTurning_91 hl (by decide) rfl (fun ls hl => ?_)
                    refine lv_aload_n hx hb dX11_isTurning_93 rfl (lv_at hl 1 rfl) ?_
                    refine sg_get (v := .ref (b + 143)) hx hb hts hown hK hM (sh18 kc_131) (kd_lt kc_131 (by decide)) rfl inX11 12 (by decide) wf_X11_44 rfl dX11_isTurning_94 ?_
                    refine lv_iload_n hx hb dX11_isTurning_97 rfl (lv_at hl 4 rfl) ?_
                    refine sg_iald hx hb hK hM (sh23 kc_143) (kd_lt kc_143 (by decide)) (i := k1) (by omega) (by decide) dX11_isTurning_98 ?_
                    refine sn_top (y := nI (q1 k1)) ((e1.1 k1 hlk).1) ?_
                    refine lv_sipush (v := nI 256) hx hb dX11_isTurning_99 (by decide) ?_
                    refine sn_irem hx hb dX11_isTurning_102 (by have := (e1.1 k1 hlk).2.1; omega) (by omega) (by omega) ?_
                    refine lv_istore (lv' := [(5, .int (nI ((q1 k1) % 256))), (4, .int (nI ((q1 k1) / 256))), (0, .ref (b + 131)), (1, .int (nI (2 ^ m))), (2, .int (nI M1)), (3, .int (nI k1))]) hx hb dX11_isTurning_103 hl (by decide) rfl (fun ls hl => ?_)
                    refine lv_iconst (v := nI 0) hx hb dX11_isTurning_105 (by decide) ?_
                    refine lv_istore (lv' := [(6, .int (nI 0)), (5, .int (nI ((q1 k1) % 256))), (4, .int (nI ((q1 k1) / 256))), (0, .ref (b + 131)), (1, .int (nI (2 ^ m))), (2, .int (nI M1)), (3, .int (nI k1))]) hx hb dX11_isTurning_106 hl (by decide) rfl (fun ls hl => ?_)
                    have L108 : ∀ (fuel : Nat) (u1 : Nat) (M2 : Nat) (σ4 : Mem) (q2 : Nat → Nat), (u1 ≤ 2) → (k1 < M2 ∧ M2 ≤ 2048) → (QS σ4 m M2 q2) → (∀ s, s < 2 ^ m → ∃ i, i < M2 ∧ q2 i = 256 * s + 2 ^ 2 ^ m - 1) → (∀ i, i < k1 → Pr m g h M2 q2 i 2) → (Pr m g h M2 q2 k1 u1) → (∀ c, c ≠ 142 → c ≠ 143 → σ4 c = σ c) → (q2 k1 = q1 k1) → (2 - u1) < fuel → ∀ (H : Heap) (locs : List Loc) (ls : Array Slot), St G (Fr b) b σ4 vs H locs → lv_has ls 11 [(0, .ref (b + 131)), (1, .int (nI (2 ^ m))), (2, .int (nI M2)), (3, .int (nI k1)), (4, .int (nI (q1 k1 / 256))), (5, .int (nI (q1 k1 % 256))), (6, .int (nI u1))] → W vp l ve (RM 3) vs vm args below meth vc H locs 0 0 Q (F0 vm 108 ls []) := by
                      intro fuel
                      induction fuel with
                      | zero => intro u1 M2 σ4 q2 hu1 hk2 f1a f2 f3 f4 f5 hqe hF; exact absurd hF (Nat.not_lt_zero _)
                      | succ fuel ih108 =>
                        intro u1 M2 σ4 q2 hu1 hk2 f1a f2 f3 f4 f5 hqe hF H locs ls hM hl
                        refine lv_iload hx hb dX11_isTurning_108 (lv_at hl 6 rfl) ?_
                        refine lv_iconst (v := nI 2) hx hb dX11_isTurning_110 (by decide) ?_
                        refine sn_icmp_ge (tgt := 271) hx hb dX11_isTurning_111 (by decide) (by omega) (by omega) (fun hlu => ?_) (fun hlu => ?_)
                        · refine lv_iinc (v := nI (k1 + 1)) (lv' := [(3, .int (nI (k1 + 1))), (0, .ref (b + 131)), (1, .int (nI (2 ^ m))), (2, .int (nI M2)), (4, .int (nI (q1 k1 / 256))), (5, .int (nI (q1 k1 % 256))), (6, .int (nI u1))]) hx hb dX11_isTurning_271 hl (k := 3) rfl (q_inc _) (by decide) rfl (fun ls hl => ?_)
                          refine lv_goto (tgt := 76) hx hb dX11_isTurning_274 (by decide) ?_
                          exact ih76 (k1 + 1) M2 σ4 q2 (by omega) f1a f2 (fun i hi => if e9 : i = k1 then (by subst e9; rw [show 2 = u1 by omega]; exact f4) else f3 i (by omega)) f5 (by omega) _ _ _ hM (lv_sub hl [1, 2, 3, 0] rfl)
                        · have hqs := (f1a.1 k1 hk2.1).2
                          rw [hqe] at hqs
                          have n0 := nx_lt (m := m) hlu hqs.2
                          refine lv_aload_n hx hb dX11_isTurning_114 rfl (lv_at hl 0 rfl) ?_
                          refine lv_iload hx hb dX11_isTurning_115 (lv_at hl 4 rfl) ?_
                          refine lv_iload hx hb dX11_isTurning_117 (lv_at hl 6 rfl) ?_
                          refine sg_ci (sg_runV (d := 1) (As := [.int (nI (q1 k1 / 256)), .int (nI u1)]) (rest := []) hx hb hml hts hown hK hM (m_fam l G b σ4 m g h (q1 k1 / 256) u1 (hc.keep (f5 132 (by decide) (by decide))) hlu hqs.2) mi_X11_familyBy wl_X11_94 (sh18 kc_131) (kd_lt kc_131 (by decide)) rfl rfl rfl hl.1 rfl (Nat.le_of_ble_eq_true rfl) dX11_isTurning_119 ⟨by decide, by decide⟩ ⟨Nat.le_refl 0, Nat.le_refl 0⟩) hM sgA (fun r_119 σ_119 H locs hp_119 hM => ?_)
                          obtain ⟨hr_119, hs_119⟩ := hp_119; subst r_119; subst σ_119
                          refine sg_ci (sg_runS (d := 2) (As := [.int (nI (fam m g h (q1 k1 / 256) u1))]) (rest := []) hx hb hml hts hown hK hM (m_turnedFamily l G b σ4 (fam m g h (q1 k1 / 256) u1) (fam_lt _ _ _ _ _)) mi_X11_turnedFamily wl_X11_148 rfl hl.1 rfl (Nat.le_of_ble_eq_true rfl) dX11_isTurning_122 ⟨by decide, by decide⟩ ⟨Nat.le_refl 0, Nat.le_refl 0⟩) hM sgA (fun r_122 σ_122 H locs hp_122 hM => ?_)
                          obtain ⟨hr_122, hs_122⟩ := hp_122; subst r_122; subst σ_122
                          refine lv_istore (lv' := [(7, .int (nI (tf (fam m g h (q1 k1 / 256) u1)))), (0, .ref (b + 131)), (1, .int (nI (2 ^ m))), (2, .int (nI M2)), (3, .int (nI k1)), (4, .int (nI (q1 k1 / 256))), (5, .int (nI (q1 k1 % 256))), (6, .int (nI u1))]) hx hb dX11_isTurning_125 hl (by decide) rfl (fun ls hl => ?_)
                          refine lv_iconst (v := nI 0) hx hb dX11_isTurning_127 (by decide) ?_
                          refine lv_istore (lv' := [(8, .int (nI 0)), (7, .int (nI (tf (fam m g h (q1 k1 / 256) u1)))), (0, .ref (b + 131)), (1, .int (nI (2 ^ m))), (2, .int (nI M2)), (3, .int (nI k1)), (4, .int (nI (q1 k1 / 256))), (5, .int (nI (q1 k1 % 256))), (6, .int (nI u1))]) hx hb dX11_isTurning_128 hl (by decide) rfl (fun ls hl => ?_)
                          refine lv_iconst (v := nI 0) hx hb dX11_isTurning_130 (by decide) ?_
                          refine lv_istore (lv' := [(9, .int (nI 0)), (8, .int (nI 0)), (7, .int (nI (tf (fam m g h (q1 k1 / 256) u1)))), (0, .ref (b + 131)), (1, .int (nI (2 ^ m))), (2, .int (nI M2)), (3, .int (nI k1)), (4, .int (nI (q1 k1 / 256))), (5, .int (nI (q1 k1 % 256))), (6, .int (nI u1))]) hx hb dX11_isTurning_131 hl (by decide) rfl (fun ls hl => ?_)
                          have L133 : ∀ (fuel : Nat) (p1 : Nat), (p1 ≤ 2 * 2 ^ m) → (2 * 2 ^ m - p1) < fuel → ∀ (H : Heap) (locs : List Loc) (ls : Array Slot), St G (Fr b) b σ4 vs H locs → lv_has ls 11 [(0, .ref (b + 131)), (1, .int (nI (2 ^ m))), (2, .int (nI M2)), (3, .int (nI k1)), (4, .int (nI (q1 k1 / 256))), (5, .int (nI (q1 k1 % 256))), (6, .int (nI u1)), (7, .int (nI (tf (fam m g h (q1 k1 / 256) u1)))), (8, .int (nI (foN m g h (q1 k1 % 256) (tf (fam m g h (q1 k1 / 256) u1)) p1))), (9, .int (nI p1))] → W vp l ve (RM 3) vs vm args below meth vc H locs 0 0 Q (F0 vm 133 ls []) := by
                            intro fuel
                            induction fuel with
                            | zero => intro p1 hp1 hF; exact absurd hF (Nat.not_lt_zero _)
                            | succ fuel ih133 =>
                              intro p1 hp1 hF H locs ls hM hl
                              refine lv_iload hx hb dX11_isTurning_133 (lv_at hl 9 rfl) ?_
                              refine lv_iconst (v := nI 2) hx hb dX11_isTurning_135 (by decide) ?_
                              refine lv_iload_n hx hb dX11_isTurning_136 rfl (lv_at hl 1 rfl) ?_
                              refine sn_imul hx hb dX11_isTurning_137 ?_
                              refine sn_icmp_ge (tgt := 212) hx hb dX11_isTurning_138 (by decide) (by omega) (by omega) (fun hlp => ?_) (fun hlp => ?_)
                              · refine lv_iload hx hb dX11_isTurning_212 (lv_at hl 8 rfl) ?_
                                refine sn_if_ne (tgt := 219) hx hb dX11_isTurning_214 (by decide) (by rw [show p1 = 2 * 2 ^ m by omega]; have : tt m g h (q1 k1 / 256) (q1 k1 % 256) u1 < 2 ^ 2 ^ m := fo_lt _ _ _ _ _; exact Nat.lt_of_lt_of_le (Nat.lt_of_lt_of_le this hpp) (by decide)) (fun d214 => ?_) (fun d214 => ?_)
                                · have htl : tt m g h (q1 k1 / 256) (q1 k1 % 256) u1 < 2 ^ 2 ^ m := fo_lt _ _ _ _ _
                                  obtain rfl : p1 = 2 * 2 ^ m := by omega
                                  have d214 : tt m g h (q1 k1 / 256) (q1 k1 % 256) u1 ≠ 0 := d214
                                  have hits : 256 * nx m (q1 k1 / 256) u1 + tt m g h (q1 k1 / 256) (q1 k1 % 256) u1 < 2048 := by omega
                                  have hitm : (256 * nx m (q1 k1 / 256) u1 + tt m g h (q1 k1 / 256) (q1 k1 % 256) u1) / 256 < 2 ^ m := by omega
                                  have hl : lv_has ls 11 [(0, .ref (b + 131)), (1, .int (nI (2 ^ m))), (2, .int (nI M2)), (3, .int (nI k1)), (4, .int (nI (q1 k1 / 256))), (5, .int (nI (q1 k1 % 256))), (6, .int (nI u1)), (7, .int (nI (tf (fam m g h (q1 k1 / 256) u1)))), (8, .int (nI (tt m g h (q1 k1 / 256) (q1 k1 % 256) u1))), (9, .int (nI (2 * 2 ^ m)))] := hl
                                  refine lv_sipush (v := nI 256) hx hb dX11_isTurning_219 (by decide) ?_
                                  refine lv_aload_n hx hb dX11_isTurning_222 rfl (lv_at hl 0 rfl) ?_
                                  refine lv_iload hx hb dX11_isTurning_223 (lv_at hl 4 rfl) ?_
                                  refine lv_iload hx hb dX11_isTurning_225 (lv_at hl 6 rfl) ?_
                                  refine sg_ci (sg_runV (d := 0) (As := [.int (nI (q1 k1 / 256)), .int (nI u1)]) (rest := [.int (nI 256)]) hx hb hml hts hown hK hM (m_next l G b σ4 m g h (q1 k1 / 256) u1 (hc.keep (f5 132 (by decide) (by decide))) hlu hqs.2) mi_X11_stateBy wl_X11_88 (sh18 kc_131) (kd_lt kc_131 (by decide)) rfl rfl rfl hl.1 rfl (Nat.le_of_ble_eq_true rfl) dX11_isTurning_227 ⟨by decide, by decide⟩ ⟨Nat.le_refl 0, Nat.le_refl 0⟩) hM sgA (fun r_227 σ_227 H locs hp_227 hM => ?_)
                                  obtain ⟨hr_227, hs_227⟩ := hp_227; subst r_227; subst σ_227
                                  refine sn_imul hx hb dX11_isTurning_230 ?_
                                  refine lv_iload hx hb dX11_isTurning_231 (lv_at hl 8 rfl) ?_
                                  refine sn_iadd hx hb dX11_isTurning_233 ?_
                                  refine lv_istore (lv' := [(9, .int (nI ((256 * (nx m (q1 k1 / 256) u1)) + (tt m g h (q1 k1 / 256) (q1 k1 % 256) u1)))), (0, .ref (b + 131)), (1, .int (nI (2 ^ m))), (2, .int (nI M2)), (3, .int (nI k1)), (4, .int (nI (q1 k1 / 256))), (5, .int (nI (q1 k1 % 256))), (6, .int (nI u1)), (7, .int (nI (tf (fam m g h (q1 k1 / 256) u1)))), (8, .int (nI (tt m g h (q1 k1 / 256) (q1 k1 % 256) u1)))]) hx hb dX11_isTurning_234 hl (by decide) rfl (fun ls hl => ?_)
                                  refine lv_aload_n hx hb dX11_isTurning_236 rfl (lv_at hl 1 rfl) ?_
                                  refine sg_get (v := .ref (b + 142)) hx hb hts hown hK hM (sh18 kc_131) (kd_lt kc_131 (by decide)) rfl inX11 11 (by decide) wf_X11_41 rfl dX11_isTurning_237 ?_
                                  refine lv_iload hx hb dX11_isTurning_240 (lv_at hl 0 rfl) ?_
                                  obtain ⟨z1, hz1, hz2⟩ := f1a.2.1 (256 * nx m (q1 k1 / 256) u1 + tt m g h (q1 k1 / 256) (q1 k1 % 256) u1) hits
                                  refine sg_zald hx hb hK hM (sh22 kc_142) (kd_lt kc_142 (by decide)) (i := (256 * (nx m (q1 k1 / 256) u1)) + (tt m g h (q1 k1 / 256) (q1 k1 % 256) u1)) (by omega) (by decide) dX11_isTurning_242 ?_
                                  refine sn_top (y := bz z1) (hz1) ?_
                                  refine sn_ifz_ne (tgt := 265) hx hb dX11_isTurning_243 (by decide) (fun d243 => ?_) (fun d243 => ?_)
                                  · refine lv_iinc (v := nI (u1 + 1)) (lv' := [(6, .int (nI (u1 + 1))), (9, .int (nI ((256 * (nx m (q1 k1 / 256) u1)) + (tt m g h (q1 k1 / 256) (q1 k1 % 256) u1)))), (0, .ref (b + 131)), (1, .int (nI (2 ^ m))), (2, .int (nI M2)), (3, .int (nI k1)), (4, .int (nI (q1 k1 / 256))), (5, .int (nI (q1 k1 % 256))), (7, .int (nI (tf (fam m g h (q1 k1 / 256) u1)))), (8, .int (nI (tt m g h (q1 k1 / 256) (q1 k1 % 256) u1)))]) hx hb dX11_isTurning_265 hl (k := 7) rfl (q_inc _) (by decide) rfl (fun ls hl => ?_)
                                    refine lv_goto (tgt := 108) hx hb dX11_isTurning_268 (by decide) ?_
                                    exact ih108 (u1 + 1) M2 σ4 q2 (by omega) hk2 f1a f2 f3 (fun u hu => if e9 : u = u1 then (by subst e9; rw [hqe]; exact ⟨d214, hz2.mp d243⟩) else f4 u (by omega)) f5 hqe (by omega) _ _ _ hM (lv_sub hl [2, 3, 4, 5, 6, 7, 0] rfl)
                                  · have hnot : ∀ i, i < M2 → q2 i ≠ 256 * nx m (q1 k1 / 256) u1 + tt m g h (q1 k1 / 256) (q1 k1 % 256) u1 := fun i hi e9 => absurd (hz2.mpr ⟨i, hi, e9⟩) (by rw [d243]; decide)
                                    have hM2 := QS_lt f1a hits hnot
                                    refine lv_aload_n hx hb dX11_isTurning_246 rfl (lv_at hl 1 rfl) ?_
                                    refine sg_get (v := .ref (b + 142)) hx hb hts hown hK hM (sh18 kc_131) (kd_lt kc_131 (by decide)) rfl inX11 11 (by decide) wf_X11_41 rfl dX11_isTurning_247 ?_
                                    refine lv_iload hx hb dX11_isTurning_250 (lv_at hl 0 rfl) ?_
                                    refine lv_iconst (v := nI 1) hx hb dX11_isTurning_252 (by decide) ?_
                                    refine sg_zast hx hb hK hM sgA (fun f => sh22 kc_142) (kd_lt kc_142 (by decide)) (i := (256 * (nx m (q1 k1 / 256) u1)) + (tt m g h (q1 k1 / 256) (q1 k1 % 256) u1)) (rfl) (by omega) (by decide) dX11_isTurning_253 (fun H locs hM => ?_)
                                    refine lv_aload_n hx hb dX11_isTurning_254 rfl (lv_at hl 1 rfl) ?_
                                    refine sg_get (v := .ref (b + 143)) hx hb hts hown hK hM (sh18 kc_131) (kd_lt kc_131 (by decide)) rfl inX11 12 (by decide) wf_X11_44 rfl dX11_isTurning_255 ?_
                                    refine lv_iload_n hx hb dX11_isTurning_258 rfl (lv_at hl 3 rfl) ?_
                                    refine lv_iload hx hb dX11_isTurning_259 (lv_at hl 0 rfl) ?_
                                    refine sg_iast hx hb hK hM sgA (fun f => sh23 kc_143) (kd_lt kc_143 (by decide)) (i := M2) (by omega) (by decide) dX11_isTurning_261 (fun H locs hM => ?_)
                                    refine lv_iinc (v := nI (M2 + 1)) (lv' := [(2, .int (nI (M2 + 1))), (9, .int (nI ((256 * (nx m (q1 k1 / 256) u1)) + (tt m g h (q1 k1 / 256) (q1 k1 % 256) u1)))), (0, .ref (b + 131)), (1, .int (nI (2 ^ m))), (3, .int (nI k1)), (4, .int (nI (q1 k1 / 256))), (5, .int (nI (q1 k1 % 256))), (6, .int (nI u1)), (7, .int (nI (tf (fam m g h (q1 k1 / 256) u1)))), (8, .int (nI (tt m g h (q1 k1 / 256) (q1 k1 % 256) u1)))]) hx hb dX11_isTurning_262 hl (k := 3) rfl (q_inc _) (by decide) rfl (fun ls hl => ?_)
                                    refine lv_iinc (v := nI (u1 + 1)) (lv' := [(6, .int (nI (u1 + 1))), (2, .int (nI (M2 + 1))), (9, .int (nI ((256 * (nx m (q1 k1 / 256) u1)) + (tt m g h (q1 k1 / 256) (q1 k1 % 256) u1)))), (0, .ref (b + 131)), (1, .int (nI (2 ^ m))), (3, .int (nI k1)), (4, .int (nI (q1 k1 / 256))), (5, .int (nI (q1 k1 % 256))), (7, .int (nI (tf (fam m g h (q1 k1 / 256) u1)))), (8, .int (nI (tt m g h (q1 k1 / 256) (q1 k1 % 256) u1)))]) hx hb dX11_isTurning_265 hl (k := 7) rfl (q_inc _) (by decide) rfl (fun ls hl => ?_)
                                    refine lv_goto (tgt := 108) hx hb dX11_isTurning_268 (by decide) ?_
                                    exact ih108 (u1 + 1) (M2 + 1) (m2 (m2 σ4 142 ((256 * (nx m (q1 k1 / 256) u1)) + (tt m g h (q1 k1 / 256) (q1 k1 % 256) u1)) (nI 1)) 143 M2 (nI ((256 * (nx m (q1 k1 / 256) u1)) + (tt m g h (q1 k1 / 256) (q1 k1 % 256) u1)))) (fu q2 M2 (256 * nx m (q1 k1 / 256) u1 + tt m g h (q1 k1 / 256) (q1 k1 % 256) u1)) (by omega) (by omega) (QS_add f1a hits hitm hnot (by rw [m2_o (by decide), m2_s]) (by rw [m2_s, m2_o (by decide)])) (fun s hs => by obtain ⟨i, hi, e9⟩ := f2 s hs; exact ⟨i, by omega, by rw [fu_n _ (by omega)]; exact e9⟩) (fun i hi => (f3 i hi).up (by omega)) (fun u hu => if e9 : u = u1 then (by subst e9; rw [fu_n _ (show k1 ≠ M2 by omega), hqe]; exact ⟨d214, M2, by omega, fu_s _ _ _⟩) else (f4.up (by omega)) u (by omega)) (fun c z1 z2 => by rw [m2_o z2, m2_o z1]; exact f5 c z1 z2) (by rw [fu_n _ (show k1 ≠ M2 by omega)]; exact hqe) (by omega) _ _ _ hM (lv_sub hl [3, 4, 1, 5, 6, 7, 0] rfl)
                                · refine lv_iconst (v := nI 0) hx hb dX11_isTurning_217 (by decide) ?_
                                  exact hret _ _ (false) _ _ _ _ dX11_isTurning_218 hM (rfl) (⟨rfl, fun c z => f5 c (by omega) (by omega)⟩)
                              · have J176 : ∀ (H : Heap) (locs : List Loc) (ls : Array Slot), St G (Fr b) b σ4 vs H locs → lv_has ls 11 [(0, .ref (b + 131)), (1, .int (nI (2 ^ m))), (2, .int (nI M2)), (3, .int (nI k1)), (4, .int (nI (q1 k1 / 256))), (5, .int (nI (q1 k1 % 256))), (6, .int (nI u1)), (7, .int (nI (tf (fam m g h (q1 k1 / 256) u1)))), (8, .int (nI (foN m g h (q1 k1 % 256) (tf (fam m g h (q1 k1 / 256) u1)) p1))), (9, .int (nI p1))] → W vp l ve (RM 3) vs vm args below meth vc H locs 0 0 Q (F0 vm 176 ls [.int (bz (decide ((q1 k1 % 256) / 2 ^ (p1 / 2) % 2 = 1 ∧ fam m g h (p1 / 2) (p1 % 2) = tf (fam m g h (q1 k1 / 256) u1))))]) := by
                                  intro  H locs ls hM hl
                                  refine lv_istore (lv' := [(10, .int (bz (decide ((q1 k1 % 256) / 2 ^ (p1 / 2) % 2 = 1 ∧ fam m g h (p1 / 2) (p1 % 2) = tf (fam m g h (q1 k1 / 256) u1))))), (0, .ref (b + 131)), (1, .int (nI (2 ^ m))), (2, .int (nI M2)), (3, .int (nI k1)), (4, .int (nI (q1 k1 / 256))), (5, .int (nI (q1 k1 % 256))), (6, .int (nI u1)), (7, .int (nI (tf (fam m g h (q1 k1 / 256) u1)))), (8, .int (nI (foN m g h (q1 k1 % 256) (tf (fam m g h (q1 k1 / 256) u1)) p1))), (9, .int (nI p1))]) hx hb dX11_isTurning_176 hl (by decide) rfl (fun ls hl => ?_)
                                  refine lv_iload hx hb dX11_isTurning_178 (lv_at hl 9 rfl) ?_
                                  refine lv_iload hx hb dX11_isTurning_180 (lv_at hl 0 rfl) ?_
                                  refine sn_ifz_eq (tgt := 202) hx hb dX11_isTurning_182 (by decide) (fun d182 => ?_) (fun d182 => ?_)
                                  · have d182 := of_decide_eq_false d182
                                    refine lv_iconst (v := nI 0) hx hb dX11_isTurning_202 (by decide) ?_
                                    refine sn_ior hx hb dX11_isTurning_203 ?_
                                    refine sn_top (y := nI (foN m g h (q1 k1 % 256) (tf (fam m g h (q1 k1 / 256) u1)) (p1 + 1))) (by rw [foN_s2, if_neg d182, Nat.or_zero]) ?_
                                    refine lv_istore (lv' := [(8, .int (nI (foN m g h (q1 k1 % 256) (tf (fam m g h (q1 k1 / 256) u1)) (p1 + 1)))), (10, .int (bz (decide ((q1 k1 % 256) / 2 ^ (p1 / 2) % 2 = 1 ∧ fam m g h (p1 / 2) (p1 % 2) = tf (fam m g h (q1 k1 / 256) u1))))), (0, .ref (b + 131)), (1, .int (nI (2 ^ m))), (2, .int (nI M2)), (3, .int (nI k1)), (4, .int (nI (q1 k1 / 256))), (5, .int (nI (q1 k1 % 256))), (6, .int (nI u1)), (7, .int (nI (tf (fam m g h (q1 k1 / 256) u1)))), (9, .int (nI p1))]) hx hb dX11_isTurning_204 hl (by decide) rfl (fun ls hl => ?_)
                                    refine lv_iinc (v := nI (p1 + 1)) (lv' := [(9, .int (nI (p1 + 1))), (8, .int (nI (foN m g h (q1 k1 % 256) (tf (fam m g h (q1 k1 / 256) u1)) (p1 + 1)))), (10, .int (bz (decide ((q1 k1 % 256) / 2 ^ (p1 / 2) % 2 = 1 ∧ fam m g h (p1 / 2) (p1 % 2) = tf (fam m g h (q1 k1 / 256) u1))))), (0, .ref (b + 131)), (1, .int (nI (2 ^ m))), (2, .int (nI M2)), (3, .int (nI k1)), (4, .int (nI (q1 k1 / 256))), (5, .int (nI (q1 k1 % 256))), (6, .int (nI u1)), (7, .int (nI (tf (fam m g h (q1 k1 / 256) u1))))]) hx hb dX11_isTurning_206 hl (k := 10) rfl (q_inc _) (by decide) rfl (fun ls hl => ?_)
                                    refine lv_goto (tgt := 133) hx hb dX11_isTurning_209 (by decide) ?_
                                    exact ih133 (p1 + 1) (by omega) (by omega) _ _ _ hM (lv_sub hl [3, 4, 5, 6, 7, 8, 9, 10, 1, 0] rfl)
                                  · have d182 := of_decide_eq_true d182
                                    refine lv_iconst (v := nI 1) hx hb dX11_isTurning_185 (by decide) ?_
                                    refine lv_aload_n hx hb dX11_isTurning_186 rfl (lv_at hl 1 rfl) ?_
                                    refine lv_iload hx hb dX11_isTurning_187 (lv_at hl 10 rfl) ?_
                                    refine lv_iconst (v := nI 2) hx hb dX11_isTurning_189 (by decide) ?_
                                    refine sn_idiv hx hb dX11_isTurning_190 (by omega) (by omega) (by omega) ?_
                                    refine lv_iload hx hb dX11_isTurning_191 (lv_at hl 10 rfl) ?_
                                    refine lv_iconst (v := nI 2) hx hb dX11_isTurning_193 (by decide) ?_
                                    refine sn_irem hx hb dX11_isTurning_194 (by omega) (by omega) (by omega) ?_
                                    refine sg_ci (sg_runV (d := 0) (As := [.int (nI (p1 / 2)), .int (nI (p1 % 2))]) (rest := [.int (nI 1), .int (nI (foN m g h (q1 k1 % 256) (tf (fam m g h (q1 k1 / 256) u1)) p1))]) hx hb hml hts hown hK hM (m_next l G b σ4 m g h (p1 / 2) (p1 % 2) (hc.keep (f5 132 (by decide) (by decide))) (by omega) (by omega)) mi_X11_stateBy wl_X11_88 (sh18 kc_131) (kd_lt kc_131 (by decide)) rfl rfl rfl hl.1 rfl (Nat.le_of_ble_eq_true rfl) dX11_isTurning_195 ⟨by decide, by decide⟩ ⟨Nat.le_refl 0, Nat.le_refl 0⟩) hM sgA (fun r_195 σ_195 H locs hp_195 hM => ?_)
                                    obtain ⟨hr_195, hs_195⟩ := hp_195; subst r_195; subst σ_195
                                    refine sn_ishl hx hb dX11_isTurning_198 (by have := nx_lt (m := m) (s := p1 / 2) (u := p1 % 2) (by omega) (by omega); omega) (by rw [Nat.one_mul]; exact Nat.pow_lt_pow_right (by decide) (by have := nx_lt (m := m) (s := p1 / 2) (u := p1 % 2) (by omega) (by omega); omega)) ?_
                                    refine sn_top (y := nI (2 ^ nx m (p1 / 2) (p1 % 2))) (by rw [Nat.one_mul]) ?_
                                    refine lv_goto (tgt := 203) hx hb dX11_isTurning_199 (by decide) ?_
                                    refine sn_ior hx hb dX11_isTurning_203 ?_
                                    refine sn_top (y := nI (foN m g h (q1 k1 % 256) (tf (fam m g h (q1 k1 / 256) u1)) (p1 + 1))) (by rw [foN_s2, if_pos d182]) ?_
                                    refine lv_istore (lv' := [(8, .int (nI (foN m g h (q1 k1 % 256) (tf (fam m g h (q1 k1 / 256) u1)) (p1 + 1)))), (10, .int (bz (decide ((q1 k1 % 256) / 2 ^ (p1 / 2) % 2 = 1 ∧ fam m g h (p1 / 2) (p1 % 2) = tf (fam m g h (q1 k1 / 256) u1))))), (0, .ref (b + 131)), (1, .int (nI (2 ^ m))), (2, .int (nI M2)), (3, .int (nI k1)), (4, .int (nI (q1 k1 / 256))), (5, .int (nI (q1 k1 % 256))), (6, .int (nI u1)), (7, .int (nI (tf (fam m g h (q1 k1 / 256) u1)))), (9, .int (nI p1))]) hx hb dX11_isTurning_204 hl (by decide) rfl (fun ls hl => ?_)
                                    refine lv_iinc (v := nI (p1 + 1)) (lv' := [(9, .int (nI (p1 + 1))), (8, .int (nI (foN m g h (q1 k1 % 256) (tf (fam m g h (q1 k1 / 256) u1)) (p1 + 1)))), (10, .int (bz (decide ((q1 k1 % 256) / 2 ^ (p1 / 2) % 2 = 1 ∧ fam m g h (p1 / 2) (p1 % 2) = tf (fam m g h (q1 k1 / 256) u1))))), (0, .ref (b + 131)), (1, .int (nI (2 ^ m))), (2, .int (nI M2)), (3, .int (nI k1)), (4, .int (nI (q1 k1 / 256))), (5, .int (nI (q1 k1 % 256))), (6, .int (nI u1)), (7, .int (nI (tf (fam m g h (q1 k1 / 256) u1))))]) hx hb dX11_isTurning_206 hl (k := 10) rfl (q_inc _) (by decide) rfl (fun ls hl => ?_)
                                    refine lv_goto (tgt := 133) hx hb dX11_isTurning_209 (by decide) ?_
                                    exact ih133 (p1 + 1) (by omega) (by omega) _ _ _ hM (lv_sub hl [3, 4, 5, 6, 7, 8, 9, 10, 1, 0] rfl)
                                refine lv_iload hx hb dX11_isTurning_141 (lv_at hl 5 rfl) ?_
                                refine lv_iload hx hb dX11_isTurning_143 (lv_at hl 9 rfl) ?_
                                refine lv_iconst (v := nI 2) hx hb dX11_isTurning_145 (by decide) ?_
                                refine sn_idiv hx hb dX11_isTurning_146 (by omega) (by omega) (by omega) ?_
                                refine sn_ishr hx hb dX11_isTurning_147 (by omega) (by omega) ?_
                                refine lv_iconst (v := nI 1) hx hb dX11_isTurning_148 (by decide) ?_
                                refine sn_iand hx hb dX11_isTurning_149 ?_
                                refine sn_top (y := nI ((q1 k1 % 256) / 2 ^ (p1 / 2) % 2)) (by rw [tb_and]) ?_
                                refine lv_iconst (v := nI 1) hx hb dX11_isTurning_150 (by decide) ?_
                                refine sn_icmp_ne (tgt := 175) hx hb dX11_isTurning_151 (by decide) (by omega) (by omega) (fun c_151 => ?_) (fun c_151 => ?_)
                                · refine lv_iconst (v := nI 0) hx hb dX11_isTurning_175 (by decide) ?_
                                  refine sn_top (y := bz (decide ((q1 k1 % 256) / 2 ^ (p1 / 2) % 2 = 1 ∧ fam m g h (p1 / 2) (p1 % 2) = tf (fam m g h (q1 k1 / 256) u1)))) (by first | (rw [decide_eq_true (by omega)]; rfl) | (rw [decide_eq_false (by omega)]; rfl)) ?_
                                  exact J176   _ _ _ hM (lv_sub hl [0, 1, 2, 3, 4, 5, 6, 7, 8, 9] rfl)
                                · refine lv_aload_n hx hb dX11_isTurning_154 rfl (lv_at hl 0 rfl) ?_
                                  refine lv_iload hx hb dX11_isTurning_155 (lv_at hl 9 rfl) ?_
                                  refine lv_iconst (v := nI 2) hx hb dX11_isTurning_157 (by decide) ?_
                                  refine sn_idiv hx hb dX11_isTurning_158 (by omega) (by omega) (by omega) ?_
                                  refine lv_iload hx hb dX11_isTurning_159 (lv_at hl 9 rfl) ?_
                                  refine lv_iconst (v := nI 2) hx hb dX11_isTurning_161 (by decide) ?_
                                  refine sn_irem hx hb dX11_isTurning_162 (by omega) (by omega) (by omega) ?_
                                  refine sg_ci (sg_runV (d := 1) (As := [.int (nI (p1 / 2)), .int (nI (p1 % 2))]) (rest := []) hx hb hml hts hown hK hM (m_fam l G b σ4 m g h (p1 / 2) (p1 % 2) (hc.keep (f5 132 (by decide) (by decide))) (by omega) (by omega)) mi_X11_familyBy wl_X11_94 (sh18 kc_131) (kd_lt kc_131 (by decide)) rfl rfl rfl hl.1 rfl (Nat.le_of_ble_eq_true rfl) dX11_isTurning_163 ⟨by decide, by decide⟩ ⟨Nat.le_refl 0, Nat.le_refl 0⟩) hM sgA (fun r_163 σ_163 H locs hp_163 hM => ?_)
                                  obtain ⟨hr_163, hs_163⟩ := hp_163; subst r_163; subst σ_163
                                  refine lv_iload hx hb dX11_isTurning_166 (lv_at hl 7 rfl) ?_
                                  refine sn_icmp_ne (tgt := 175) hx hb dX11_isTurning_168 (by decide) (by have := fam_lt m g h (p1 / 2) (p1 % 2); omega) (by have := tf_lt (fam m g h (q1 k1 / 256) u1); omega) (fun c_168 => ?_) (fun c_168 => ?_)
                                  · refine lv_iconst (v := nI 0) hx hb dX11_isTurning_175 (by decide) ?_
                                    refine sn_top (y := bz (decide ((q1 k1 % 256) / 2 ^ (p1 / 2) % 2 = 1 ∧ fam m g h (p1 / 2) (p1 % 2) = tf (fam m g h (q1 k1 / 256) u1)))) (by first | (rw [decide_eq_true (by omega)]; rfl) | (rw [decide_eq_false (by omega)]; rfl)) ?_
                                    exact J176   _ _ _ hM (lv_sub hl [0, 1, 2, 3, 4, 5, 6, 7, 8, 9] rfl)
                                  · refine lv_iconst (v := nI 1) hx hb dX11_isTurning_171 (by decide) ?_
                                    refine sn_top (y := bz (decide ((q1 k1 % 256) / 2 ^ (p1 / 2) % 2 = 1 ∧ fam m g h (p1 / 2) (p1 % 2) = tf (fam m g h (q1 k1 / 256) u1)))) (by first | (rw [decide_eq_true (by omega)]; rfl) | (rw [decide_eq_false (by omega)]; rfl)) ?_
                                    refine lv_goto (tgt := 176) hx hb dX11_isTurning_172 (by decide) ?_
                                    exact J176   _ _ _ hM (lv_sub hl [0, 1, 2, 3, 4, 5, 6, 7, 8, 9] rfl)
                          exact L133 (_ + 1) 0 (Nat.zero_le _) (Nat.lt_succ_self _) _ _ _ hM (lv_sub hl [3, 4, 5, 6, 7, 8, 9, 2, 1, 0] rfl)
                    exact L108 (_ + 1) 0 M1 σ3 q1 (by omega) (by omega) e1 e2 e3 (fun u z => absurd z (by omega)) e4 rfl (Nat.lt_succ_self _) _ _ _ hM (lv_sub hl [3, 4, 5, 6, 2, 1, 0] rfl)
              exact L76 (_ + 1) 0 s1 σ2 q0 (⟨Nat.zero_le _, by omega⟩) b1 (fun s hs => ⟨s, by omega, b2 s (by omega)⟩) (fun i z => absurd z (by omega)) b3 (Nat.lt_succ_self _) _ _ _ hM (lv_sub hl [1, 2, 3, 0] rfl)
            · refine lv_aload_n hx hb dX11_isTurning_36 rfl (lv_at hl 0 rfl) ?_
              refine sg_get (v := .ref (b + 143)) hx hb hts hown hK hM (sh18 kc_131) (kd_lt kc_131 (by decide)) rfl inX11 12 (by decide) wf_X11_44 rfl dX11_isTurning_37 ?_
              refine lv_iload_n hx hb dX11_isTurning_40 rfl (lv_at hl 2 rfl) ?_
              refine lv_sipush (v := nI 256) hx hb dX11_isTurning_41 (by decide) ?_
              refine lv_iload_n hx hb dX11_isTurning_44 rfl (lv_at hl 3 rfl) ?_
              refine sn_imul hx hb dX11_isTurning_45 ?_
              refine lv_iconst (v := nI 1) hx hb dX11_isTurning_46 (by decide) ?_
              refine lv_iload_n hx hb dX11_isTurning_47 rfl (lv_at hl 1 rfl) ?_
              refine sn_ishl hx hb dX11_isTurning_48 (by omega) (by rw [Nat.one_mul]; omega) ?_
              refine sn_top (y := nI (2 ^ 2 ^ m)) (by rw [Nat.one_mul]) ?_
              refine sn_iadd hx hb dX11_isTurning_49 ?_
              refine lv_iconst (v := nI 1) hx hb dX11_isTurning_50 (by decide) ?_
              refine sn_isub hx hb dX11_isTurning_51 (by omega) ?_
              refine sg_iast hx hb hK hM sgA (fun f => sh23 kc_143) (kd_lt kc_143 (by decide)) (i := s1) (by omega) (by decide) dX11_isTurning_52 (fun H locs hM => ?_)
              refine lv_aload_n hx hb dX11_isTurning_53 rfl (lv_at hl 0 rfl) ?_
              refine sg_get (v := .ref (b + 142)) hx hb hts hown hK hM (sh18 kc_131) (kd_lt kc_131 (by decide)) rfl inX11 11 (by decide) wf_X11_41 rfl dX11_isTurning_54 ?_
              refine lv_aload_n hx hb dX11_isTurning_57 rfl (lv_at hl 0 rfl) ?_
              refine sg_get (v := .ref (b + 143)) hx hb hts hown hK hM (sh18 kc_131) (kd_lt kc_131 (by decide)) rfl inX11 12 (by decide) wf_X11_44 rfl dX11_isTurning_58 ?_
              refine lv_iload_n hx hb dX11_isTurning_61 rfl (lv_at hl 2 rfl) ?_
              refine sg_iald hx hb hK hM (sh23 kc_143) (kd_lt kc_143 (by decide)) (i := s1) (by omega) (by decide) dX11_isTurning_62 ?_
              refine sn_top (y := nI (256 * s1 + 2 ^ 2 ^ m - 1)) (m2_ss) ?_
              refine lv_iconst (v := nI 1) hx hb dX11_isTurning_63 (by decide) ?_
              refine sg_zast hx hb hK hM sgA (fun f => sh22 kc_142) (kd_lt kc_142 (by decide)) (i := 256 * s1 + 2 ^ 2 ^ m - 1) (rfl) (by omega) (by decide) dX11_isTurning_64 (fun H locs hM => ?_)
              refine lv_iinc (v := nI (s1 + 1)) (lv' := [(2, .int (nI (s1 + 1))), (0, .ref (b + 131)), (1, .int (nI (2 ^ m))), (3, .int (nI s1))]) hx hb dX11_isTurning_65 hl (k := 2) rfl (q_inc _) (by decide) rfl (fun ls hl => ?_)
              refine lv_iinc (v := nI (s1 + 1)) (lv' := [(3, .int (nI (s1 + 1))), (2, .int (nI (s1 + 1))), (0, .ref (b + 131)), (1, .int (nI (2 ^ m)))]) hx hb dX11_isTurning_68 hl (k := 3) rfl (q_inc _) (by decide) rfl (fun ls hl => ?_)
              refine lv_goto (tgt := 31) hx hb dX11_isTurning_71 (by decide) ?_
              exact ih31 (s1 + 1) (m2 (m2 σ2 143 s1 (nI (((256 * s1) + (2 ^ 2 ^ m)) - 1))) 142 (256 * s1 + 2 ^ 2 ^ m - 1) (nI 1)) (fu q0 s1 (256 * s1 + 2 ^ 2 ^ m - 1)) (by omega) (QS_add b1 (by omega) (by omega) (fun i hi => by rw [b2 i hi]; omega) (by rw [m2_s, m2_o (by decide)]) (by rw [m2_o (by decide), m2_s])) (fun i hi => if e1 : i = s1 then (by subst e1; rw [fu_s]) else (by rw [fu_n _ e1]; exact b2 i (by omega))) (fun c z1 z2 => by rw [m2_o z1, m2_o z2]; exact b3 c z1 z2) (by omega) _ _ _ hM (lv_sub hl [2, 3, 1, 0] rfl)
        exact L31 (_ + 1) 0 σ1 (fun _ => 0) (Nat.zero_le _) (⟨fun i z => absurd z (by omega), fun x hx => ⟨false, a1 x (by omega), fun z => absurd z (by decide), fun ⟨i, z, _⟩ => absurd z (by omega)⟩, fun i j _ z => absurd z (by omega)⟩) (fun i z => absurd z (by omega)) (fun c z1 _ => a2 c z1) (Nat.lt_succ_self _) _ _ _ hM (lv_sub hl [2, 3, 1, 0] rfl)
      · refine lv_aload_n hx hb dX11_isTurning_14 rfl (lv_at hl 0 rfl) ?_
        refine sg_get (v := .ref (b + 142)) hx hb hts hown hK hM (sh18 kc_131) (kd_lt kc_131 (by decide)) rfl inX11 11 (by decide) wf_X11_41 rfl dX11_isTurning_15 ?_
        refine lv_iload_n hx hb dX11_isTurning_18 rfl (lv_at hl 2 rfl) ?_
        refine lv_iconst (v := nI 0) hx hb dX11_isTurning_19 (by decide) ?_
        refine sg_zast hx hb hK hM sgA (fun f => sh22 kc_142) (kd_lt kc_142 (by decide)) (i := k0) (rfl) (by omega) (by decide) dX11_isTurning_20 (fun H locs hM => ?_)
        refine lv_iinc (v := nI (k0 + 1)) (lv' := [(2, .int (nI (k0 + 1))), (0, .ref (b + 131)), (1, .int (nI (2 ^ m)))]) hx hb dX11_isTurning_21 hl (k := 2) rfl (q_inc _) (by decide) rfl (fun ls hl => ?_)
        refine lv_goto (tgt := 7) hx hb dX11_isTurning_24 (by decide) ?_
        exact ih7 (k0 + 1) (m2 σ1 142 k0 (nI 0)) (by omega) (fun i z => if e1 : i = k0 then (by subst e1; exact m2_ss) else (by rw [m2_sn e1]; exact a1 i (by omega))) (fun c z => by rw [m2_o z]; exact a2 c z) (by omega) _ _ _ hM (lv_sub hl [1, 2, 0] rfl)
  exact L7 (_ + 1) 0 σ (by omega) (fun i z => absurd z (by omega)) (fun _ _ => rfl) (Nat.lt_succ_self _) _ _ _ hM (lv_sub hl [2, 1, 0] rfl)

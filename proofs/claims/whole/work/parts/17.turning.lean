/-- the pairs of a state and a set that d steps lead to -/
def Rc (m g h : Nat) : Nat → Nat → Nat → Prop
  | 0, s, S => s < 2 ^ m ∧ S = 2 ^ 2 ^ m - 1
  | d + 1, s, S => ∃ s0 S0 u, Rc m g h d s0 S0 ∧ u < 2 ∧ s = nx m s0 u ∧ S = tt m g h s0 S0 u
theorem Rc_in {m g h : Nat} : ∀ {d s S : Nat}, Rc m g h d s S → s < 2 ^ m ∧ S < 2 ^ 2 ^ m
  | 0, s, S, ⟨h1, h2⟩ => ⟨h1, by rw [h2]; have := pp_pos m; omega⟩
  | d + 1, s, S, ⟨s0, S0, u, k, hu, e1, e2⟩ => ⟨by rw [e1]; exact nx_lt hu (Rc_in k).1, by rw [e2]; exact fo_lt _ _ _ _ _⟩
def Nb (m g h r : Nat) : Prop := ∀ d s S, d < r → Rc m g h d s S → ∀ u, u < 2 → tt m g h s S u ≠ 0
def Mk (m g h r : Nat) (rt : Nat → Nat) : Prop := ∀ d s S, d ≤ r → Rc m g h d s S → (rt S).testBit s = true
def Cd (m g h : Nat) (rt : Nat → Nat) : Prop := ∀ s S, s < 2 ^ m → 1 ≤ S → S < 2 ^ 2 ^ m → (rt S).testBit s = true → ∀ u, u < 2 → tt m g h s S u ≠ 0 ∧ (rt (tt m g h s S u)).testBit (nx m s u) = true
theorem nb_no {m g h r : Nat} (hc : cOK m g h) (hr : 4 ≤ r) (hn : Nb m g h r) : False := by
  refine bd_absurd hc (K := fun j s S => j ≤ 4 ∧ Rc m g h (4 - j) s S) (fun s hs => ⟨Nat.le_refl _, by rw [Nat.sub_self]; exact ⟨hs, rfl⟩⟩) (fun d s S k hs u hu => ⟨hn (4 - (d + 1)) s S (by omega) k.2 u hu, by omega, ?_⟩)
  rw [show 4 - d = 4 - (d + 1) + 1 by omega]
  exact ⟨s, S, u, k.2, hu, rfl, rfl⟩
theorem cl_no {m g h : Nat} {rt : Nat → Nat} (hc : cOK m g h) (hst : ∀ s, s < 2 ^ m → (rt (2 ^ 2 ^ m - 1)).testBit s = true) (hcl : Cd m g h rt) : False := by
  have hp := pp_pos m
  refine bd_absurd hc (K := fun _ s S => (1 ≤ S ∧ S < 2 ^ 2 ^ m) ∧ (rt S).testBit s = true) (fun s hs => ⟨⟨by omega, by omega⟩, hst s hs⟩) (fun d s S k hs u hu => ?_)
  have q := hcl s S hs k.1.1 k.1.2 k.2 u hu
  exact ⟨q.1, ⟨Nat.pos_of_ne_zero q.1, fo_lt _ _ _ _ _⟩, q.2⟩
theorem Rc_pos {m g h r d s S : Nat} (hn : Nb m g h r) (hd : d ≤ r) (k : Rc m g h d s S) : 1 ≤ S := by
  have hp := pp_pos m
  cases d with
  | zero => rw [k.2]; omega
  | succ d =>
    obtain ⟨s0, S0, u, k0, hu, _, e⟩ := k
    rw [e]
    exact Nat.pos_of_ne_zero (hn d s0 S0 (by omega) k0 u hu)
theorem rd_nb {m g h r : Nat} {rt ru : Nat → Nat} (hn : Nb m g h r) (hm : Mk m g h r rt) (hC : ∀ S, 1 ≤ S → S < 2 ^ 2 ^ m → Cy m g h S rt ru (2 * 2 ^ m)) : Nb m g h (r + 1) := by
  intro d s S hd k u hu
  have hi := Rc_in k
  exact (hC S (Rc_pos hn (by omega) k) hi.2 s u hi.1 hu (by omega) (hm d s S (by omega) k)).1
theorem rd_mk {m g h r : Nat} {rt ru : Nat → Nat} (hn : Nb m g h r) (hm : Mk m g h r rt) (hG : Gw rt ru) (hC : ∀ S, 1 ≤ S → S < 2 ^ 2 ^ m → Cy m g h S rt ru (2 * 2 ^ m)) : Mk m g h (r + 1) ru := by
  intro d s S hd k
  by_cases e : d ≤ r
  · exact hG S s (hm d s S e k)
  · obtain rfl : d = r + 1 := by omega
    obtain ⟨s0, S0, u, k0, hu, e1, e2⟩ := k
    have hi := Rc_in k0
    rw [e1, e2]
    exact (hC S0 (Rc_pos hn (Nat.le_refl _) k0) hi.2 s0 u hi.1 hu (by omega) (hm r s0 S0 (Nat.le_refl _) k0)).2
theorem rd_cd {m g h : Nat} {rt : Nat → Nat} (hC : ∀ S, 1 ≤ S → S < 2 ^ 2 ^ m → Cy m g h S rt rt (2 * 2 ^ m)) : Cd m g h rt := fun s S hs h1 h2 hb u hu => hC S h1 h2 s u hs hu (by omega) hb
theorem Cy_skip {m g h S s : Nat} {rt ru : Nat → Nat} (H : Cy m g h S rt ru (2 * s)) (hG : Gw rt ru) (hb : ru S / 2 ^ s % 2 = 0) : Cy m g h S rt ru (2 * (s + 1)) := by
  intro s1 u h1 h2 h3 h4
  by_cases e : s1 = s
  · subst e
    have q := (tb_iff _ _).mpr (hG S s1 h4)
    omega
  · exact H s1 u h1 h2 (by omega) h4
theorem Cy_one {m g h S s v : Nat} {rt ru rv : Nat → Nat} (H : Cy m g h S rt ru (2 * s + v)) (hv : v < 2) (hG : Gw ru rv) (h0 : tt m g h s S v ≠ 0) (hb : (rv (tt m g h s S v)).testBit (nx m s v) = true) : Cy m g h S rt rv (2 * s + (v + 1)) := by
  intro s1 u h1 h2 h3 h4
  by_cases e : 2 * s1 + u = 2 * s + v
  · obtain ⟨rfl, rfl⟩ := uv_eq h2 hv e
    exact ⟨h0, hb⟩
  · exact H.up hG s1 u h1 h2 (by omega) h4
theorem Cy_0 {m g h S : Nat} {rt ru : Nat → Nat} : Cy m g h S rt ru (2 * 0) := fun _ _ _ _ q => absurd q (by omega)
theorem Cy_none {m g h S p : Nat} {rt ru : Nat → Nat} (hG : Gw rt ru) (h0 : ru S = 0) : Cy m g h S rt ru p := by
  intro s u _ _ _ q
  have := hG S s q
  rw [h0, Nat.zero_testBit] at this
  exact absurd this (by decide)
theorem st_bits {m s : Nat} (hs : s < 2 ^ m) : (fu (fun _ => 0) (2 ^ 2 ^ m - 1) (2 ^ 2 ^ m - 1) (2 ^ 2 ^ m - 1)).testBit s = true := by
  rw [fu_s, Nat.testBit_two_pow_sub_one, decide_eq_true_iff]
  exact hs
theorem mk_0 (m g h : Nat) : Mk m g h 0 (fu (fun _ => 0) (2 ^ 2 ^ m - 1) (2 ^ 2 ^ m - 1)) := by
  intro d s S hd k
  obtain rfl : d = 0 := by omega
  rw [k.2]
  exact st_bits k.1
set_option maxHeartbeats 4000000 in
set_option maxRecDepth 100000 in
theorem c_Tu_follow (l : Launch) (G : GT) (b : Nat) (σ : Mem) (m g h : Nat) (hc : CodeAt σ 2 m g h) (S f : Nat) (hS : S < 256) (hf : f < 4) : KI l G b yX9_follow cX9_follow 6 2 σ [.ref (b + 2), .int (nI S), .int (nI f)] (fun r σ' => r = nI (fo m g h S f) ∧ σ' = σ) := by
  refine sg_metI [.ref (b + 2), .int (nI S), .int (nI f)] (by decide) (Nat.le_of_ble_eq_true rfl) ?_
  intro vp ve vs vm args below meth vc ls Q hx hb hml hown hts hK hM hl hret
  have hl : lv_has ls 6 [(0, .ref (b + 2)), (1, .int (nI S)), (2, .int (nI f))] := hl
  have hm8 := p2_le hc.m
  refine lv_iconst (v := nI 0) hx hb dX9_follow_0 (by decide) ?_
  refine lv_istore_n (lv' := [(3, .int (nI 0)), (0, .ref (b + 2)), (1, .int (nI S)), (2, .int (nI f))]) hx hb dX9_follow_1 rfl hl (by decide) rfl (fun ls hl => ?_)
  refine lv_iconst (v := nI 0) hx hb dX9_follow_2 (by decide) ?_
  refine lv_istore (lv' := [(4, .int (nI 0)), (3, .int (nI 0)), (0, .ref (b + 2)), (1, .int (nI S)), (2, .int (nI f))]) hx hb dX9_follow_3 hl (by decide) rfl (fun ls hl => ?_)
  have L5 : ∀ (fuel : Nat) (s : Nat) (to1 : Nat), (s ≤ 2 ^ m) → (to1 = foN m g h S f (2 * s)) → (2 ^ m - s) < fuel → ∀ (H : Heap) (locs : List Loc) (ls : Array Slot), St G (Fr b) b σ vs H locs → lv_has ls 6 [(0, .ref (b + 2)), (1, .int (nI S)), (2, .int (nI f)), (3, .int (nI to1)), (4, .int (nI s))] → W vp l ve (RM 2) vs vm args below meth vc H locs 0 0 Q (F0 vm 5 ls []) := by
    intro fuel
    induction fuel with
    | zero => intro s to1 hs h1 hF; exact absurd hF (Nat.not_lt_zero _)
    | succ fuel ih5 =>
      intro s to1 hs h1 hF H locs ls hM hl
      refine lv_iload hx hb dX9_follow_5 (lv_at hl 4 rfl) ?_
      refine lv_aload_n hx hb dX9_follow_7 rfl (lv_at hl 0 rfl) ?_
      refine sg_ci (sg_runV (d := 0) (As := []) (rest := [.int (nI s)]) hx hb hml hts hown hK hM (c_Code_states l G b σ 2 m g h kc_2 (hc)) mi_X0_states wl_X9_15 (sh2 kc_2) (kd_lt kc_2 (by decide)) rfl rfl rfl hl.1 rfl (Nat.le_of_ble_eq_true rfl) dX9_follow_8 ⟨by decide, by decide⟩ ⟨Nat.le_refl 0, Nat.le_refl 0⟩) hM sgA (fun r_8 σ_8 H locs hp_8 hM => ?_)
      obtain ⟨hr_8, hs_8⟩ := hp_8; subst r_8; subst σ_8
      refine sn_icmp_ge (tgt := 70) hx hb dX9_follow_11 (by decide) (by omega) (by omega) (fun hls => ?_) (fun hls => ?_)
      · refine lv_iload_n hx hb dX9_follow_70 rfl (lv_at hl 3 rfl) ?_
        exact hret _ _ _ _ _ _ dX9_follow_71 hM (⟨by rw [h1, show s = 2 ^ m by omega]; rfl, rfl⟩)
      · refine lv_iconst (v := nI 0) hx hb dX9_follow_14 (by decide) ?_
        refine lv_istore (lv' := [(5, .int (nI 0)), (0, .ref (b + 2)), (1, .int (nI S)), (2, .int (nI f)), (3, .int (nI to1)), (4, .int (nI s))]) hx hb dX9_follow_15 hl (by decide) rfl (fun ls hl => ?_)
        have L17 : ∀ (fuel : Nat) (u : Nat) (to2 : Nat), (u ≤ 2) → (to2 = foN m g h S f (2 * s + u)) → (2 - u) < fuel → ∀ (H : Heap) (locs : List Loc) (ls : Array Slot), St G (Fr b) b σ vs H locs → lv_has ls 6 [(0, .ref (b + 2)), (1, .int (nI S)), (2, .int (nI f)), (3, .int (nI to2)), (4, .int (nI s)), (5, .int (nI u))] → W vp l ve (RM 2) vs vm args below meth vc H locs 0 0 Q (F0 vm 17 ls []) := by
          intro fuel
          induction fuel with
          | zero => intro u to2 hu h2 hF; exact absurd hF (Nat.not_lt_zero _)
          | succ fuel ih17 =>
            intro u to2 hu h2 hF H locs ls hM hl
            refine lv_iload hx hb dX9_follow_17 (lv_at hl 5 rfl) ?_
            refine lv_iconst (v := nI 2) hx hb dX9_follow_19 (by decide) ?_
            refine sn_icmp_ge (tgt := 64) hx hb dX9_follow_20 (by decide) (by omega) (by omega) (fun hlu => ?_) (fun hlu => ?_)
            · refine lv_iinc (v := nI (s + 1)) (lv' := [(4, .int (nI (s + 1))), (0, .ref (b + 2)), (1, .int (nI S)), (2, .int (nI f)), (3, .int (nI to2)), (5, .int (nI u))]) hx hb dX9_follow_64 hl (k := 4) rfl (q_inc _) (by decide) rfl (fun ls hl => ?_)
              refine lv_goto (tgt := 5) hx hb dX9_follow_67 (by decide) ?_
              exact ih5 (s + 1) to2 (by omega) (by rw [h2, show u = 2 by omega]; rfl) (by omega) _ _ _ hM (lv_sub hl [1, 2, 3, 4, 0] rfl)
            · have hn0 := nx_lt (m := m) hlu hls
              refine lv_iload_n hx hb dX9_follow_23 rfl (lv_at hl 1 rfl) ?_
              refine lv_iload hx hb dX9_follow_24 (lv_at hl 4 rfl) ?_
              refine sn_ishr hx hb dX9_follow_26 (by omega) (by omega) ?_
              refine lv_iconst (v := nI 1) hx hb dX9_follow_27 (by decide) ?_
              refine sn_iand hx hb dX9_follow_28 ?_
              refine sn_top (y := nI (S / 2 ^ s % 2)) (by rw [tb_and]) ?_
              refine lv_iconst (v := nI 1) hx hb dX9_follow_29 (by decide) ?_
              refine sn_icmp_ne (tgt := 58) hx hb dX9_follow_30 (by decide) (by omega) (by omega) (fun c_30 => ?_) (fun c_30 => ?_)
              · refine lv_iinc (v := nI (u + 1)) (lv' := [(5, .int (nI (u + 1))), (0, .ref (b + 2)), (1, .int (nI S)), (2, .int (nI f)), (3, .int (nI to2)), (4, .int (nI s))]) hx hb dX9_follow_58 hl (k := 5) rfl (q_inc _) (by decide) rfl (fun ls hl => ?_)
                refine lv_goto (tgt := 17) hx hb dX9_follow_61 (by decide) ?_
                exact ih17 (u + 1) to2 (by omega) (by rw [show 2 * s + (u + 1) = 2 * s + u + 1 by omega, foN_s hlu]; first | (rw [if_pos (by omega), ← h2]) | (rw [if_neg (by omega)]; exact h2)) (by omega) _ _ _ hM (lv_sub hl [1, 2, 3, 4, 5, 0] rfl)
              · refine lv_aload_n hx hb dX9_follow_33 rfl (lv_at hl 0 rfl) ?_
                refine lv_iload hx hb dX9_follow_34 (lv_at hl 4 rfl) ?_
                refine lv_iload hx hb dX9_follow_36 (lv_at hl 5 rfl) ?_
                refine sg_ci (sg_runV (d := 1) (As := [.int (nI s), .int (nI u)]) (rest := []) hx hb hml hts hown hK hM (c_Code_fam l G b σ 2 m g h s u kc_2 (hc) (hlu) (hls)) mi_X0_familyFrom wl_X9_35 (sh2 kc_2) (kd_lt kc_2 (by decide)) rfl rfl rfl hl.1 rfl (Nat.le_of_ble_eq_true rfl) dX9_follow_38 ⟨by decide, by decide⟩ ⟨Nat.le_refl 0, Nat.le_refl 0⟩) hM sgA (fun r_38 σ_38 H locs hp_38 hM => ?_)
                obtain ⟨hr_38, hs_38⟩ := hp_38; subst r_38; subst σ_38
                refine lv_iload_n hx hb dX9_follow_41 rfl (lv_at hl 2 rfl) ?_
                refine sn_icmp_ne (tgt := 58) hx hb dX9_follow_42 (by decide) (by have := fam_lt m g h s u; omega) (by omega) (fun c_42 => ?_) (fun c_42 => ?_)
                · refine lv_iinc (v := nI (u + 1)) (lv' := [(5, .int (nI (u + 1))), (0, .ref (b + 2)), (1, .int (nI S)), (2, .int (nI f)), (3, .int (nI to2)), (4, .int (nI s))]) hx hb dX9_follow_58 hl (k := 5) rfl (q_inc _) (by decide) rfl (fun ls hl => ?_)
                  refine lv_goto (tgt := 17) hx hb dX9_follow_61 (by decide) ?_
                  exact ih17 (u + 1) to2 (by omega) (by rw [show 2 * s + (u + 1) = 2 * s + u + 1 by omega, foN_s hlu]; first | (rw [if_pos (by omega), ← h2]) | (rw [if_neg (by omega)]; exact h2)) (by omega) _ _ _ hM (lv_sub hl [1, 2, 3, 4, 5, 0] rfl)
                · refine lv_iload_n hx hb dX9_follow_45 rfl (lv_at hl 3 rfl) ?_
                  refine lv_iconst (v := nI 1) hx hb dX9_follow_46 (by decide) ?_
                  refine lv_aload_n hx hb dX9_follow_47 rfl (lv_at hl 0 rfl) ?_
                  refine lv_iload hx hb dX9_follow_48 (lv_at hl 4 rfl) ?_
                  refine lv_iload hx hb dX9_follow_50 (lv_at hl 5 rfl) ?_
                  refine sg_ci (sg_runV (d := 1) (As := [.int (nI s), .int (nI u)]) (rest := [.int (nI 1), .int (nI to2)]) hx hb hml hts hown hK hM (c_Code_next l G b σ 2 m g h s u kc_2 (hc) (hlu) (hls)) mi_X0_stateAfter wl_X9_49 (sh2 kc_2) (kd_lt kc_2 (by decide)) rfl rfl rfl hl.1 rfl (Nat.le_of_ble_eq_true rfl) dX9_follow_52 ⟨by decide, by decide⟩ ⟨Nat.le_refl 0, Nat.le_refl 0⟩) hM sgA (fun r_52 σ_52 H locs hp_52 hM => ?_)
                  obtain ⟨hr_52, hs_52⟩ := hp_52; subst r_52; subst σ_52
                  refine sn_ishl hx hb dX9_follow_55 (by omega) (by rw [Nat.one_mul]; exact Nat.pow_lt_pow_right (by decide) (by omega)) ?_
                  refine sn_top (y := nI (2 ^ nx m s u)) (by rw [Nat.one_mul]) ?_
                  refine sn_ior hx hb dX9_follow_56 ?_
                  refine lv_istore_n (lv' := [(3, .int (nI (to2 ||| (2 ^ nx m s u)))), (0, .ref (b + 2)), (1, .int (nI S)), (2, .int (nI f)), (4, .int (nI s)), (5, .int (nI u))]) hx hb dX9_follow_57 rfl hl (by decide) rfl (fun ls hl => ?_)
                  refine lv_iinc (v := nI (u + 1)) (lv' := [(5, .int (nI (u + 1))), (3, .int (nI (to2 ||| (2 ^ nx m s u)))), (0, .ref (b + 2)), (1, .int (nI S)), (2, .int (nI f)), (4, .int (nI s))]) hx hb dX9_follow_58 hl (k := 5) rfl (q_inc _) (by decide) rfl (fun ls hl => ?_)
                  refine lv_goto (tgt := 17) hx hb dX9_follow_61 (by decide) ?_
                  exact ih17 (u + 1) (to2 ||| (2 ^ nx m s u)) (by omega) (by rw [show 2 * s + (u + 1) = 2 * s + u + 1 by omega, foN_s hlu]; first | (rw [if_pos (by omega), ← h2]) | (rw [if_neg (by omega)]; exact h2)) (by omega) _ _ _ hM (lv_sub hl [2, 3, 4, 1, 5, 0] rfl)
        exact L17 (_ + 1) 0 to1 (by omega) h1 (Nat.lt_succ_self _) _ _ _ hM (lv_sub hl [1, 2, 3, 4, 5, 0] rfl)
  exact L5 (_ + 1) 0 0 (Nat.zero_le _) rfl (Nat.lt_succ_self _) _ _ _ hM (lv_sub hl [2, 3, 4, 1, 0] rfl)
theorem tr_up {σ : Mem} {rt : Nat → Nat} {gr : Bool} {S s : Nat} (hT : Tr σ rt gr) (hs : s < 8) : ∀ i, i < 256 → m2 σ 130 S (nI (rt S ||| 2 ^ s)) 130 i = nI (fu rt S (rt S ||| 2 ^ s) i) ∧ fu rt S (rt S ||| 2 ^ s) i < 256 := by
  intro i hi
  by_cases e : i = S
  · subst e
    rw [m2_ss, fu_s]
    refine ⟨rfl, Nat.or_lt_two_pow (n := 8) (hT.1 i hi).2 ?_⟩
    exact Nat.pow_lt_pow_right (by decide) hs
  · rw [m2_sn e, fu_n _ e]
    exact hT.1 i hi
set_option maxHeartbeats 4000000 in
set_option maxRecDepth 100000 in
theorem c_Tu_mark (l : Launch) (G : GT) (b : Nat) (σ : Mem) (S s : Nat) (hS : S < 256) (hs : s < 8) (rt : Nat → Nat) (gr : Bool) (hT : Tr σ rt gr) : KV l G b yX9_mark cX9_mark 3 0 σ [.ref (b + 129), .int (nI S), .int (nI s)] (fun σ' => ∃ ru g2, Tr σ' ru g2 ∧ Gw rt ru ∧ (ru S).testBit s = true ∧ (g2 = true ∨ g2 = gr ∧ ru = rt) ∧ ∀ c, c ≠ 129 → c ≠ 130 → σ' c = σ c) := by
  refine sg_metV [.ref (b + 129), .int (nI S), .int (nI s)] (by decide) (Nat.le_of_ble_eq_true rfl) ?_
  intro vp ve vs vm args below meth vc ls Q hx hb hml hown hts hK hM hl hret
  have hl : lv_has ls 3 [(0, .ref (b + 129)), (1, .int (nI S)), (2, .int (nI s))] := hl
  refine lv_aload_n hx hb dX9_mark_0 rfl (lv_at hl 0 rfl) ?_
  refine sg_get (v := .ref (b + 130)) hx hb hts hown hK hM (sh16 kc_129) (kd_lt kc_129 (by decide)) rfl inX9 0 (by decide) wf_X9_11 rfl dX9_mark_1 ?_
  refine lv_iload_n hx hb dX9_mark_4 rfl (lv_at hl 1 rfl) ?_
  refine sg_iald hx hb hK hM (sh17 kc_130) (kd_lt kc_130 (by decide)) (i := S) (by omega) (by decide) dX9_mark_5 ?_
  refine sn_top (y := nI (rt S)) ((hT.1 S hS).1) ?_
  refine lv_iload_n hx hb dX9_mark_6 rfl (lv_at hl 2 rfl) ?_
  refine sn_ishr hx hb dX9_mark_7 (by omega) (by have := (hT.1 S hS).2; omega) ?_
  refine lv_iconst (v := nI 1) hx hb dX9_mark_8 (by decide) ?_
  refine sn_iand hx hb dX9_mark_9 ?_
  refine sn_top (y := nI (rt S / 2 ^ s % 2)) (by rw [tb_and]) ?_
  refine sn_if_ne (tgt := 30) hx hb dX9_mark_10 (by decide) (by omega) (fun c_10 => ?_) (fun c_10 => ?_)
  · exact hret _ _ _ _ _ dX9_mark_30 hM (⟨rt, gr, hT, Gw.rf _, (tb_iff _ _).mp (by omega), Or.inr ⟨rfl, rfl⟩, fun _ _ _ => rfl⟩)
  · refine lv_aload_n hx hb dX9_mark_13 rfl (lv_at hl 0 rfl) ?_
    refine sg_get (v := .ref (b + 130)) hx hb hts hown hK hM (sh16 kc_129) (kd_lt kc_129 (by decide)) rfl inX9 0 (by decide) wf_X9_11 rfl dX9_mark_14 ?_
    refine lv_iload_n hx hb dX9_mark_17 rfl (lv_at hl 1 rfl) ?_
    refine lv_dup2_11 hx hb dX9_mark_18 rfl rfl ?_
    refine sg_iald hx hb hK hM (sh17 kc_130) (kd_lt kc_130 (by decide)) (i := S) (by omega) (by decide) dX9_mark_19 ?_
    refine sn_top (y := nI (rt S)) ((hT.1 S hS).1) ?_
    refine lv_iconst (v := nI 1) hx hb dX9_mark_20 (by decide) ?_
    refine lv_iload_n hx hb dX9_mark_21 rfl (lv_at hl 2 rfl) ?_
    refine sn_ishl hx hb dX9_mark_22 (by omega) (by rw [Nat.one_mul]; exact Nat.pow_lt_pow_right (by decide) (by omega)) ?_
    refine sn_top (y := nI (2 ^ s)) (by rw [Nat.one_mul]) ?_
    refine sn_ior hx hb dX9_mark_23 ?_
    refine sg_iast hx hb hK hM sgA (fun f => sh17 kc_130) (kd_lt kc_130 (by decide)) (i := S) (by omega) (by decide) dX9_mark_24 (fun H locs hM => ?_)
    refine lv_aload_n hx hb dX9_mark_25 rfl (lv_at hl 0 rfl) ?_
    refine lv_iconst (v := nI 1) hx hb dX9_mark_26 (by decide) ?_
    refine sg_put (v := nI 1) (ty := .boolean) hx hb hts hown hK hM sgA (sh16 kc_129) (kd_lt kc_129 (by decide)) rfl inX9 tyX9 tyX9_ok nmX9 1 (by decide) wf_X9_27 rfl (by decide +kernel) rfl rfl (Nat.le_of_ble_eq_true rfl) (by rw [sh16 kc_129]; rfl) dX9_mark_27 (fun H locs hM => ?_)
    exact hret _ _ _ _ _ dX9_mark_30 hM (⟨fu rt S (rt S ||| 2 ^ s), true, ⟨fun i hi => by rw [m2_o (by decide)]; exact tr_up hT hs i hi, m2_ss⟩, gw_fu _ _ _, fu_bit _ _ _, Or.inl rfl, fun c a1 a2 => by rw [m2_o a1, m2_o a2]⟩)
set_option maxHeartbeats 4000000 in
set_option maxRecDepth 100000 in
theorem c_Tu_carry (l : Launch) (G : GT) (b : Nat) (σ : Mem) (m g h : Nat) (hc : CodeAt σ 2 m g h) (S : Nat) (hS : S < 256) (rt : Nat → Nat) (gr : Bool) (hT : Tr σ rt gr) : KZ l G b yX9_carryOn cX9_carryOn 6 3 σ [.ref (b + 129), .ref (b + 2), .int (nI S)] (fun r σ' => ∃ z ru g2, r = bz z ∧ Tr σ' ru g2 ∧ Gw rt ru ∧ (z = true → Cy m g h S rt ru (2 * 2 ^ m)) ∧ (g2 = true ∨ g2 = gr ∧ ru = rt) ∧ ∀ c, c ≠ 129 → c ≠ 130 → σ' c = σ c) := by
  refine sg_metZ [.ref (b + 129), .ref (b + 2), .int (nI S)] (by decide) (Nat.le_of_ble_eq_true rfl) ?_
  intro vp ve vs vm args below meth vc ls Q hx hb hml hown hts hK hM hl hret
  have hl : lv_has ls 6 [(0, .ref (b + 129)), (1, .ref (b + 2)), (2, .int (nI S))] := hl
  have hm8 := p2_le hc.m
  have hpp := pp_le hc.m
  refine lv_iconst (v := nI 0) hx hb dX9_carryOn_0 (by decide) ?_
  refine lv_istore_n (lv' := [(3, .int (nI 0)), (0, .ref (b + 129)), (1, .ref (b + 2)), (2, .int (nI S))]) hx hb dX9_carryOn_1 rfl hl (by decide) rfl (fun ls hl => ?_)
  have L2 : ∀ (fuel : Nat) (s : Nat) (σ1 : Mem) (ru : Nat → Nat) (g1 : Bool), (s ≤ 2 ^ m) → (Tr σ1 ru g1) → (Gw rt ru) → (Cy m g h S rt ru (2 * s)) → (g1 = true ∨ g1 = gr ∧ ru = rt) → (∀ c, c ≠ 129 → c ≠ 130 → σ1 c = σ c) → (2 ^ m - s) < fuel → ∀ (H : Heap) (locs : List Loc) (ls : Array Slot), St G (Fr b) b σ1 vs H locs → lv_has ls 6 [(0, .ref (b + 129)), (1, .ref (b + 2)), (2, .int (nI S)), (3, .int (nI s))] → W vp l ve (RM 3) vs vm args below meth vc H locs 0 0 Q (F0 vm 2 ls []) := by
    intro fuel
    induction fuel with
    | zero => intro s σ1 ru g1 hs a1 a2 a3 a4 a5 hF; exact absurd hF (Nat.not_lt_zero _)
    | succ fuel ih2 =>
      intro s σ1 ru g1 hs a1 a2 a3 a4 a5 hF H locs ls hM hl
      refine lv_iload_n hx hb dX9_carryOn_2 rfl (lv_at hl 3 rfl) ?_
      refine lv_aload_n hx hb dX9_carryOn_3 rfl (lv_at hl 1 rfl) ?_
      refine sg_ci (sg_runV (d := 0) (As := []) (rest := [.int (nI s)]) hx hb hml hts hown hK hM (c_Code_states l G b σ1 2 m g h kc_2 (hc.keep (a5 2 (by decide) (by decide)))) mi_X0_states wl_X9_15 (sh2 kc_2) (kd_lt kc_2 (by decide)) rfl rfl rfl hl.1 rfl (Nat.le_of_ble_eq_true rfl) dX9_carryOn_4 ⟨by decide, by decide⟩ ⟨Nat.le_refl 0, Nat.le_refl 0⟩) hM sgA (fun r_4 σ_4 H locs hp_4 hM => ?_)
      obtain ⟨hr_4, hs_4⟩ := hp_4; subst r_4; subst σ_4
      refine sn_icmp_ge (tgt := 84) hx hb dX9_carryOn_7 (by decide) (by omega) (by omega) (fun hls => ?_) (fun hls => ?_)
      · refine lv_iconst (v := nI 1) hx hb dX9_carryOn_84 (by decide) ?_
        exact hret _ _ (true) _ _ _ _ dX9_carryOn_85 hM (rfl) (⟨true, ru, g1, rfl, a1, a2, fun _ => by rw [show 2 ^ m = s by omega]; exact a3, a4, a5⟩)
      · refine lv_aload_n hx hb dX9_carryOn_10 rfl (lv_at hl 0 rfl) ?_
        refine sg_get (v := .ref (b + 130)) hx hb hts hown hK hM (sh16 kc_129) (kd_lt kc_129 (by decide)) rfl inX9 0 (by decide) wf_X9_11 rfl dX9_carryOn_11 ?_
        refine lv_iload_n hx hb dX9_carryOn_14 rfl (lv_at hl 2 rfl) ?_
        refine sg_iald hx hb hK hM (sh17 kc_130) (kd_lt kc_130 (by decide)) (i := S) (by omega) (by decide) dX9_carryOn_15 ?_
        refine sn_top (y := nI (ru S)) ((a1.1 S (by omega)).1) ?_
        refine lv_iload_n hx hb dX9_carryOn_16 rfl (lv_at hl 3 rfl) ?_
        refine sn_ishr hx hb dX9_carryOn_17 (by omega) (by have := (a1.1 S (by omega)).2; omega) ?_
        refine lv_iconst (v := nI 1) hx hb dX9_carryOn_18 (by decide) ?_
        refine sn_iand hx hb dX9_carryOn_19 ?_
        refine sn_top (y := nI (ru S / 2 ^ s % 2)) (by rw [tb_and]) ?_
        refine sn_if_ne (tgt := 26) hx hb dX9_carryOn_20 (by decide) (by omega) (fun c_20 => ?_) (fun c_20 => ?_)
        · refine lv_iconst (v := nI 0) hx hb dX9_carryOn_26 (by decide) ?_
          refine lv_istore (lv' := [(4, .int (nI 0)), (0, .ref (b + 129)), (1, .ref (b + 2)), (2, .int (nI S)), (3, .int (nI s))]) hx hb dX9_carryOn_27 hl (by decide) rfl (fun ls hl => ?_)
          have L29 : ∀ (fuel : Nat) (v : Nat) (σ2 : Mem) (rv : Nat → Nat) (g2 : Bool), (v ≤ 2) → (Tr σ2 rv g2) → (Gw rt rv) → (Cy m g h S rt rv (2 * s + v)) → (g2 = true ∨ g2 = gr ∧ rv = rt) → (∀ c, c ≠ 129 → c ≠ 130 → σ2 c = σ c) → (2 - v) < fuel → ∀ (H : Heap) (locs : List Loc) (ls : Array Slot), St G (Fr b) b σ2 vs H locs → lv_has ls 6 [(0, .ref (b + 129)), (1, .ref (b + 2)), (2, .int (nI S)), (3, .int (nI s)), (4, .int (nI v))] → W vp l ve (RM 3) vs vm args below meth vc H locs 0 0 Q (F0 vm 29 ls []) := by
            intro fuel
            induction fuel with
            | zero => intro v σ2 rv g2 hv b1 b2 b3 b4 b5 hF; exact absurd hF (Nat.not_lt_zero _)
            | succ fuel ih29 =>
              intro v σ2 rv g2 hv b1 b2 b3 b4 b5 hF H locs ls hM hl
              refine lv_iload hx hb dX9_carryOn_29 (lv_at hl 4 rfl) ?_
              refine lv_iconst (v := nI 2) hx hb dX9_carryOn_31 (by decide) ?_
              refine sn_icmp_ge (tgt := 78) hx hb dX9_carryOn_32 (by decide) (by omega) (by omega) (fun hlv => ?_) (fun hlv => ?_)
              · refine lv_iinc (v := nI (s + 1)) (lv' := [(3, .int (nI (s + 1))), (0, .ref (b + 129)), (1, .ref (b + 2)), (2, .int (nI S)), (4, .int (nI v))]) hx hb dX9_carryOn_78 hl (k := 3) rfl (q_inc _) (by decide) rfl (fun ls hl => ?_)
                refine lv_goto (tgt := 2) hx hb dX9_carryOn_81 (by decide) ?_
                exact ih2 (s + 1) σ2 rv g2 (by omega) b1 b2 (by rw [show 2 * (s + 1) = 2 * s + v by omega]; exact b3) b4 b5 (by omega) _ _ _ hM (lv_sub hl [1, 2, 3, 0] rfl)
              · have hn0 := nx_lt (m := m) hlv hls
                refine lv_aload_n hx hb dX9_carryOn_35 rfl (lv_at hl 1 rfl) ?_
                refine lv_iload_n hx hb dX9_carryOn_36 rfl (lv_at hl 2 rfl) ?_
                refine lv_aload_n hx hb dX9_carryOn_37 rfl (lv_at hl 1 rfl) ?_
                refine lv_iload_n hx hb dX9_carryOn_38 rfl (lv_at hl 3 rfl) ?_
                refine lv_iload hx hb dX9_carryOn_39 (lv_at hl 4 rfl) ?_
                refine sg_ci (sg_runV (d := 1) (As := [.int (nI s), .int (nI v)]) (rest := [.int (nI S), .ref (b + 2)]) hx hb hml hts hown hK hM (c_Code_fam l G b σ2 2 m g h s v kc_2 (hc.keep (b5 2 (by decide) (by decide))) (hlv) (hls)) mi_X0_familyFrom wl_X9_35 (sh2 kc_2) (kd_lt kc_2 (by decide)) rfl rfl rfl hl.1 rfl (Nat.le_of_ble_eq_true rfl) dX9_carryOn_41 ⟨by decide, by decide⟩ ⟨Nat.le_refl 0, Nat.le_refl 0⟩) hM sgA (fun r_41 σ_41 H locs hp_41 hM => ?_)
                obtain ⟨hr_41, hs_41⟩ := hp_41; subst r_41; subst σ_41
                refine sg_ci (sg_runS (d := 1) (As := [.int (nI (fam m g h s v))]) (rest := [.int (nI S), .ref (b + 2)]) hx hb hml hts hown hK hM (c_g_turnOfFamily l G b σ2 (fam m g h s v) (fam_lt _ _ _ _ _)) mi_X1_turnOfFamily wl_X9_39 rfl hl.1 rfl (Nat.le_of_ble_eq_true rfl) dX9_carryOn_44 ⟨by decide, by decide⟩ ⟨Nat.le_refl 0, Nat.le_refl 0⟩) hM sgA (fun r_44 σ_44 H locs hp_44 hM => ?_)
                obtain ⟨hr_44, hs_44⟩ := hp_44; subst r_44; subst σ_44
                refine sg_ci (sg_runS (d := 2) (As := [.ref (b + 2), .int (nI S), .int (nI (tf (fam m g h s v)))]) (rest := []) hx hb hml hts hown hK hM (c_Tu_follow l G b σ2 m g h (hc.keep (b5 2 (by decide) (by decide))) S (tf (fam m g h s v)) (by omega) (tf_lt _)) mi_X9_follow wl_X9_45 rfl hl.1 rfl (Nat.le_of_ble_eq_true rfl) dX9_carryOn_47 ⟨by decide, by decide⟩ ⟨Nat.le_refl 0, Nat.le_refl 0⟩) hM sgA (fun r_47 σ_47 H locs hp_47 hM => ?_)
                obtain ⟨hr_47, hs_47⟩ := hp_47; subst r_47; subst σ_47
                refine lv_istore (lv' := [(5, .int (nI (tt m g h s S v))), (0, .ref (b + 129)), (1, .ref (b + 2)), (2, .int (nI S)), (3, .int (nI s)), (4, .int (nI v))]) hx hb dX9_carryOn_50 hl (by decide) rfl (fun ls hl => ?_)
                refine lv_iload hx hb dX9_carryOn_52 (lv_at hl 0 rfl) ?_
                refine sn_if_ne (tgt := 59) hx hb dX9_carryOn_54 (by decide) (by have : tt m g h s S v < 2 ^ 2 ^ m := fo_lt _ _ _ _ _; omega) (fun c_54 => ?_) (fun c_54 => ?_)
                · refine lv_aload_n hx hb dX9_carryOn_59 rfl (lv_at hl 1 rfl) ?_
                  refine lv_iload hx hb dX9_carryOn_60 (lv_at hl 0 rfl) ?_
                  refine lv_aload_n hx hb dX9_carryOn_62 rfl (lv_at hl 2 rfl) ?_
                  refine lv_iload_n hx hb dX9_carryOn_63 rfl (lv_at hl 4 rfl) ?_
                  refine lv_iload hx hb dX9_carryOn_64 (lv_at hl 5 rfl) ?_
                  refine sg_ci (sg_runV (d := 1) (As := [.int (nI s), .int (nI v)]) (rest := [.int (nI (tt m g h s S v)), .ref (b + 129)]) hx hb hml hts hown hK hM (c_Code_next l G b σ2 2 m g h s v kc_2 (hc.keep (b5 2 (by decide) (by decide))) (hlv) (hls)) mi_X0_stateAfter wl_X9_49 (sh2 kc_2) (kd_lt kc_2 (by decide)) rfl rfl rfl hl.1 rfl (Nat.le_of_ble_eq_true rfl) dX9_carryOn_66 ⟨by decide, by decide⟩ ⟨Nat.le_refl 0, Nat.le_refl 0⟩) hM sgA (fun r_66 σ_66 H locs hp_66 hM => ?_)
                  obtain ⟨hr_66, hs_66⟩ := hp_66; subst r_66; subst σ_66
                  refine sg_cv (sg_runV (d := 0) (As := [.int (nI (tt m g h s S v)), .int (nI (nx m s v))]) (rest := []) hx hb hml hts hown hK hM (c_Tu_mark l G b σ2 (tt m g h s S v) (nx m s v) (by have : tt m g h s S v < 2 ^ 2 ^ m := fo_lt _ _ _ _ _; omega) (by omega) rv g2 b1) mi_X9_mark wl_X9_52 (sh16 kc_129) (kd_lt kc_129 (by decide)) rfl rfl rfl hl.1 rfl (Nat.le_of_ble_eq_true rfl) dX9_carryOn_69 ⟨by decide, by decide⟩ ⟨Nat.le_refl 0, Nat.le_refl 0⟩) hM sgA (fun σ3 H locs hq hM => ?_)
                  obtain ⟨rw2, g3, k1, k2, k3, k4, k5⟩ := hq
                  refine lv_iinc (v := nI (v + 1)) (lv' := [(4, .int (nI (v + 1))), (5, .int (nI (tt m g h s S v))), (0, .ref (b + 129)), (1, .ref (b + 2)), (2, .int (nI S)), (3, .int (nI s))]) hx hb dX9_carryOn_72 hl (k := 5) rfl (q_inc _) (by decide) rfl (fun ls hl => ?_)
                  refine lv_goto (tgt := 29) hx hb dX9_carryOn_75 (by decide) ?_
                  exact ih29 (v + 1) σ3 rw2 g3 (by omega) k1 (b2.tr k2) (Cy_one b3 hlv k2 c_54 k3) (k4.elim Or.inl (fun q => b4.elim (fun z => Or.inl (q.1.trans z)) (fun z => Or.inr ⟨q.1.trans z.1, q.2.trans z.2⟩))) (fun c q1 q2 => by rw [k5 c q1 q2]; exact b5 c q1 q2) (by omega) _ _ _ hM (lv_sub hl [2, 3, 4, 5, 0] rfl)
                · refine lv_iconst (v := nI 0) hx hb dX9_carryOn_57 (by decide) ?_
                  exact hret _ _ (false) _ _ _ _ dX9_carryOn_58 hM (rfl) (⟨false, rv, g2, rfl, b1, b2, fun q => absurd q (by decide), b4, b5⟩)
          exact L29 (_ + 1) 0 σ1 ru g1 (by omega) a1 a2 a3 a4 a5 (Nat.lt_succ_self _) _ _ _ hM (lv_sub hl [1, 2, 3, 4, 0] rfl)
        · refine lv_goto (tgt := 78) hx hb dX9_carryOn_23 (by decide) ?_
          refine lv_iinc (v := nI (s + 1)) (lv' := [(3, .int (nI (s + 1))), (0, .ref (b + 129)), (1, .ref (b + 2)), (2, .int (nI S))]) hx hb dX9_carryOn_78 hl (k := 3) rfl (q_inc _) (by decide) rfl (fun ls hl => ?_)
          refine lv_goto (tgt := 2) hx hb dX9_carryOn_81 (by decide) ?_
          exact ih2 (s + 1) σ1 ru g1 (by omega) a1 a2 (Cy_skip a3 a2 (by omega)) a4 a5 (by omega) _ _ _ hM (lv_sub hl [1, 2, 3, 0] rfl)
  exact L2 (_ + 1) 0 σ rt gr (Nat.zero_le _) hT (Gw.rf _) Cy_0 (Or.inr ⟨rfl, rfl⟩) (fun _ _ _ => rfl) (Nat.lt_succ_self _) _ _ _ hM (lv_sub hl [1, 2, 3, 0] rfl)
theorem tr_0 {σ : Mem} {m : Nat} (hm : m ≤ 3) (hz : ∀ j, j < 256 → σ 130 j = nI 0) : ∀ i, i < 256 → m2 σ 130 (2 ^ 2 ^ m - 1) (nI (2 ^ 2 ^ m - 1)) 130 i = nI (fu (fun _ => 0) (2 ^ 2 ^ m - 1) (2 ^ 2 ^ m - 1) i) ∧ fu (fun _ => 0) (2 ^ 2 ^ m - 1) (2 ^ 2 ^ m - 1) i < 256 := by
  have := pp_le hm
  have := pp_pos m
  intro i hi
  by_cases e : i = 2 ^ 2 ^ m - 1
  · rw [e, m2_ss, fu_s]; exact ⟨rfl, by omega⟩
  · rw [m2_sn e, fu_n _ e]; exact ⟨hz i hi, by decide⟩
set_option maxHeartbeats 4000000 in
set_option maxRecDepth 100000 in
theorem c_Tu_holds (l : Launch) (G : GT) (b : Nat) (σ : Mem) (m g h : Nat) (hc : CodeAt σ 2 m g h) (hk : cOK m g h) : KZ l G b yX9_holdsFor cX9_holdsFor 5 4 σ [.ref (b + 129), .ref (b + 2)] (fun r σ' => r = bz false ∧ ∀ c, c < 129 ∨ 131 ≤ c → σ' c = σ c) := by
  refine sg_metZ [.ref (b + 129), .ref (b + 2)] (by decide) (Nat.le_of_ble_eq_true rfl) ?_
  intro vp ve vs vm args below meth vc ls Q hx hb hml hown hts hK hM hl hret
  have hl : lv_has ls 5 [(0, .ref (b + 129)), (1, .ref (b + 2))] := hl
  have hm8 := p2_le hc.m
  have hpp := pp_le hc.m
  have hp2 := pp_pos m
  refine lv_iconst (v := nI 1) hx hb dX9_holdsFor_0 (by decide) ?_
  refine lv_aload_n hx hb dX9_holdsFor_1 rfl (lv_at hl 1 rfl) ?_
  refine sg_ci (sg_runV (d := 0) (As := []) (rest := [.int (nI 1)]) hx hb hml hts hown hK hM (c_Code_states l G b σ 2 m g h kc_2 (hc)) mi_X0_states wl_X9_15 (sh2 kc_2) (kd_lt kc_2 (by decide)) rfl rfl rfl hl.1 rfl (Nat.le_of_ble_eq_true rfl) dX9_holdsFor_2 ⟨by decide, by decide⟩ ⟨Nat.le_refl 0, Nat.le_refl 0⟩) hM sgA (fun r_2 σ_2 H locs hp_2 hM => ?_)
  obtain ⟨hr_2, hs_2⟩ := hp_2; subst r_2; subst σ_2
  refine sn_ishl hx hb dX9_holdsFor_5 (by omega) (by rw [Nat.one_mul]; omega) ?_
  refine sn_top (y := nI (2 ^ 2 ^ m)) (by rw [Nat.one_mul]) ?_
  refine lv_iconst (v := nI 1) hx hb dX9_holdsFor_6 (by decide) ?_
  refine sn_isub hx hb dX9_holdsFor_7 (by omega) ?_
  refine lv_istore_n (lv' := [(2, .int (nI ((2 ^ 2 ^ m) - 1))), (0, .ref (b + 129)), (1, .ref (b + 2))]) hx hb dX9_holdsFor_8 rfl hl (by decide) rfl (fun ls hl => ?_)
  refine lv_aload_n hx hb dX9_holdsFor_9 rfl (lv_at hl 1 rfl) ?_
  refine sg_get (v := .ref (b + 130)) hx hb hts hown hK hM (sh16 kc_129) (kd_lt kc_129 (by decide)) rfl inX9 0 (by decide) wf_X9_11 rfl dX9_holdsFor_10 ?_
  refine lv_iconst (v := nI 0) hx hb dX9_holdsFor_13 (by decide) ?_
  refine sg_cv (sg_runS (d := 0) (As := [.ref (b + 130), .int (nI 0)]) (rest := []) hx hb hml hts hown hK hM (c_fill256 l G b σ 130 (nI 0) kc_130) mi_J7_fill_53178 wl_X9_21 rfl hl.1 rfl (Nat.le_of_ble_eq_true rfl) dX9_holdsFor_14 ⟨by decide, by decide⟩ ⟨Nat.le_refl 0, Nat.le_refl 0⟩) hM sgA (fun σ_14 H locs hp_14 hM => ?_)
  refine lv_aload_n hx hb dX9_holdsFor_17 rfl (lv_at hl 1 rfl) ?_
  refine sg_get (v := .ref (b + 130)) hx hb hts hown hK hM (sh16 kc_129) (kd_lt kc_129 (by decide)) rfl inX9 0 (by decide) wf_X9_11 rfl dX9_holdsFor_18 ?_
  refine lv_iload_n hx hb dX9_holdsFor_21 rfl (lv_at hl 0 rfl) ?_
  refine lv_iload_n hx hb dX9_holdsFor_22 rfl (lv_at hl 0 rfl) ?_
  refine sg_iast hx hb hK hM sgA (fun f => sh17 kc_130) (kd_lt kc_130 (by decide)) (i := (2 ^ 2 ^ m) - 1) (by omega) (by decide) dX9_holdsFor_23 (fun H locs hM => ?_)
  refine lv_aload_n hx hb dX9_holdsFor_24 rfl (lv_at hl 1 rfl) ?_
  refine lv_iconst (v := nI 1) hx hb dX9_holdsFor_25 (by decide) ?_
  refine sg_put (v := nI 1) (ty := .boolean) hx hb hts hown hK hM sgA (sh16 kc_129) (kd_lt kc_129 (by decide)) rfl inX9 tyX9 tyX9_ok nmX9 1 (by decide) wf_X9_27 rfl (by decide +kernel) rfl rfl (Nat.le_of_ble_eq_true rfl) (by rw [sh16 kc_129]; rfl) dX9_holdsFor_26 (fun H locs hM => ?_)
  refine lv_iconst (v := nI 0) hx hb dX9_holdsFor_29 (by decide) ?_
  refine lv_istore_n (lv' := [(3, .int (nI 0)), (2, .int (nI ((2 ^ 2 ^ m) - 1))), (0, .ref (b + 129)), (1, .ref (b + 2))]) hx hb dX9_holdsFor_30 rfl hl (by decide) rfl (fun ls hl => ?_)
  have L31 : ∀ (fuel : Nat) (r1 : Nat) (σ1 : Mem) (rt : Nat → Nat) (gr : Bool), (r1 < 4) → (Tr σ1 rt gr) → (Nb m g h r1) → (Mk m g h r1 rt) → (gr = true ∨ Cd m g h rt) → (∀ c, c ≠ 129 → c ≠ 130 → σ1 c = σ c) → (5 - r1) < fuel → ∀ (H : Heap) (locs : List Loc) (ls : Array Slot), St G (Fr b) b σ1 vs H locs → lv_has ls 5 [(0, .ref (b + 129)), (1, .ref (b + 2)), (2, .int (nI (2 ^ 2 ^ m - 1))), (3, .int (nI r1))] → W vp l ve (RM 4) vs vm args below meth vc H locs 0 0 Q (F0 vm 31 ls []) := by
    intro fuel
    induction fuel with
    | zero => intro r1 σ1 rt gr hr4 a1 a2 a3 a4 a5 hF; exact absurd hF (Nat.not_lt_zero _)
    | succ fuel ih31 =>
      intro r1 σ1 rt gr hr4 a1 a2 a3 a4 a5 hF H locs ls hM hl
      refine lv_aload_n hx hb dX9_holdsFor_31 rfl (lv_at hl 0 rfl) ?_
      refine sg_get (v := .int (σ1 129 1)) hx hb hts hown hK hM (sh16 kc_129) (kd_lt kc_129 (by decide)) rfl inX9 1 (by decide) wf_X9_27 rfl dX9_holdsFor_32 ?_
      refine sn_top (y := bz gr) (a1.2) ?_
      refine sn_ifz_eq (tgt := 93) hx hb dX9_holdsFor_35 (by decide) (fun c_35 => ?_) (fun c_35 => ?_)
      · exact (cl_no hk (fun s hs => a3 0 s _ (Nat.zero_le _) ⟨hs, rfl⟩) (a4.resolve_left (by rw [c_35]; decide))).elim
      · refine lv_iload_n hx hb dX9_holdsFor_38 rfl (lv_at hl 3 rfl) ?_
        refine lv_sipush (v := nI 2048) hx hb dX9_holdsFor_39 (by decide) ?_
        refine sn_icmp_gt (tgt := 93) hx hb dX9_holdsFor_42 (by decide) (by omega) (by omega) (fun c_42 => ?_) (fun c_42 => ?_)
        · exact absurd c_42 (by omega)
        · refine lv_aload_n hx hb dX9_holdsFor_45 rfl (lv_at hl 0 rfl) ?_
          refine lv_iconst (v := nI 0) hx hb dX9_holdsFor_46 (by decide) ?_
          refine sg_put (v := nI 0) (ty := .boolean) hx hb hts hown hK hM sgA (sh16 kc_129) (kd_lt kc_129 (by decide)) rfl inX9 tyX9 tyX9_ok nmX9 1 (by decide) wf_X9_27 rfl (by decide +kernel) rfl rfl (Nat.le_of_ble_eq_true rfl) (by rw [sh16 kc_129]; rfl) dX9_holdsFor_47 (fun H locs hM => ?_)
          refine lv_iconst (v := nI 1) hx hb dX9_holdsFor_50 (by decide) ?_
          refine lv_istore (lv' := [(4, .int (nI 1)), (0, .ref (b + 129)), (1, .ref (b + 2)), (2, .int (nI (2 ^ 2 ^ m - 1))), (3, .int (nI r1))]) hx hb dX9_holdsFor_51 hl (by decide) rfl (fun ls hl => ?_)
          have L53 : ∀ (fuel : Nat) (S : Nat) (σ2 : Mem) (ru : Nat → Nat) (g2 : Bool), (1 ≤ S) → (S ≤ 2 ^ 2 ^ m) → (Tr σ2 ru g2) → (Gw rt ru) → (∀ S1, 1 ≤ S1 → S1 < S → Cy m g h S1 rt ru (2 * 2 ^ m)) → (g2 = true ∨ ru = rt) → (∀ c, c ≠ 129 → c ≠ 130 → σ2 c = σ c) → (2 ^ 2 ^ m - S) < fuel → ∀ (H : Heap) (locs : List Loc) (ls : Array Slot), St G (Fr b) b σ2 vs H locs → lv_has ls 5 [(0, .ref (b + 129)), (1, .ref (b + 2)), (2, .int (nI (2 ^ 2 ^ m - 1))), (3, .int (nI r1)), (4, .int (nI S))] → W vp l ve (RM 4) vs vm args below meth vc H locs 0 0 Q (F0 vm 53 ls []) := by
            intro fuel
            induction fuel with
            | zero => intro S σ2 ru g2 hS1 hS b1 b2 b3 b4 b5 hF; exact absurd hF (Nat.not_lt_zero _)
            | succ fuel ih53 =>
              intro S σ2 ru g2 hS1 hS b1 b2 b3 b4 b5 hF H locs ls hM hl
              refine lv_iload hx hb dX9_holdsFor_53 (lv_at hl 4 rfl) ?_
              refine lv_iload_n hx hb dX9_holdsFor_55 rfl (lv_at hl 2 rfl) ?_
              refine sn_icmp_gt (tgt := 87) hx hb dX9_holdsFor_56 (by decide) (by omega) (by omega) (fun c_56 => ?_) (fun c_56 => ?_)
              · refine lv_iinc (v := nI (r1 + 1)) (lv' := [(3, .int (nI (r1 + 1))), (0, .ref (b + 129)), (1, .ref (b + 2)), (2, .int (nI (2 ^ 2 ^ m - 1))), (4, .int (nI S))]) hx hb dX9_holdsFor_87 hl (k := 3) rfl (q_inc _) (by decide) rfl (fun ls hl => ?_)
                refine lv_goto (tgt := 31) hx hb dX9_holdsFor_90 (by decide) ?_
                exact ih31 (r1 + 1) σ2 ru g2 (Nat.lt_of_not_le (fun q => nb_no hk q (rd_nb a2 a3 (fun S q1 q2 => b3 S q1 (by omega))))) b1 (rd_nb a2 a3 (fun S q1 q2 => b3 S q1 (by omega))) (rd_mk a2 a3 b2 (fun S q1 q2 => b3 S q1 (by omega))) (b4.elim Or.inl (fun q => Or.inr (by rw [q]; exact rd_cd (fun S q1 q2 => by have := b3 S q1 (by omega); rw [q] at this; exact this)))) b5 (by omega) _ _ _ hM (lv_sub hl [1, 2, 3, 0] rfl)
              · refine lv_aload_n hx hb dX9_holdsFor_59 rfl (lv_at hl 0 rfl) ?_
                refine sg_get (v := .ref (b + 130)) hx hb hts hown hK hM (sh16 kc_129) (kd_lt kc_129 (by decide)) rfl inX9 0 (by decide) wf_X9_11 rfl dX9_holdsFor_60 ?_
                refine lv_iload hx hb dX9_holdsFor_63 (lv_at hl 4 rfl) ?_
                refine sg_iald hx hb hK hM (sh17 kc_130) (kd_lt kc_130 (by decide)) (i := S) (by omega) (by decide) dX9_holdsFor_65 ?_
                refine sn_top (y := nI (ru S)) ((b1.1 S (by omega)).1) ?_
                refine sn_if_eq (tgt := 81) hx hb dX9_holdsFor_66 (by decide) (by have := (b1.1 S (by omega)).2; omega) (fun c_66 => ?_) (fun c_66 => ?_)
                · refine lv_iinc (v := nI (S + 1)) (lv' := [(4, .int (nI (S + 1))), (0, .ref (b + 129)), (1, .ref (b + 2)), (2, .int (nI (2 ^ 2 ^ m - 1))), (3, .int (nI r1))]) hx hb dX9_holdsFor_81 hl (k := 4) rfl (q_inc _) (by decide) rfl (fun ls hl => ?_)
                  refine lv_goto (tgt := 53) hx hb dX9_holdsFor_84 (by decide) ?_
                  exact ih53 (S + 1) σ2 ru g2 (by omega) (by omega) b1 b2 (fun S1 q1 q2 => if e1 : S1 = S then (by subst e1; exact Cy_none b2 c_66) else b3 S1 q1 (by omega)) b4 b5 (by omega) _ _ _ hM (lv_sub hl [1, 2, 3, 4, 0] rfl)
                · refine lv_aload_n hx hb dX9_holdsFor_69 rfl (lv_at hl 0 rfl) ?_
                  refine lv_aload_n hx hb dX9_holdsFor_70 rfl (lv_at hl 1 rfl) ?_
                  refine lv_iload hx hb dX9_holdsFor_71 (lv_at hl 4 rfl) ?_
                  refine sg_ci (sg_runV (d := 3) (As := [.ref (b + 2), .int (nI S)]) (rest := []) hx hb hml hts hown hK hM (c_Tu_carry l G b σ2 m g h (hc.keep (b5 2 (by decide) (by decide))) S (by omega) ru g2 b1) mi_X9_carryOn wl_X9_31 (sh16 kc_129) (kd_lt kc_129 (by decide)) rfl rfl rfl hl.1 rfl (Nat.le_of_ble_eq_true rfl) dX9_holdsFor_73 ⟨by decide, by decide⟩ ⟨Nat.le_refl 0, Nat.le_refl 0⟩) hM sgA (fun r2 σ3 H locs hq hM => ?_)
                  obtain ⟨z, rv, g3, k1, k2, k3, k4, k5, k6⟩ := hq
                  subst k1
                  refine sn_ifz_ne (tgt := 81) hx hb dX9_holdsFor_76 (by decide) (fun c_76 => ?_) (fun c_76 => ?_)
                  · refine lv_iinc (v := nI (S + 1)) (lv' := [(4, .int (nI (S + 1))), (0, .ref (b + 129)), (1, .ref (b + 2)), (2, .int (nI (2 ^ 2 ^ m - 1))), (3, .int (nI r1))]) hx hb dX9_holdsFor_81 hl (k := 4) rfl (q_inc _) (by decide) rfl (fun ls hl => ?_)
                    refine lv_goto (tgt := 53) hx hb dX9_holdsFor_84 (by decide) ?_
                    exact ih53 (S + 1) σ3 rv g3 (by omega) (by omega) k2 (b2.tr k3) (fun S1 q1 q2 => if e1 : S1 = S then (by subst e1; exact fun s u x1 x2 x3 x4 => k4 c_76 s u x1 x2 x3 (b2 _ _ x4)) else (b3 S1 q1 (by omega)).up k3) (k5.elim Or.inl (fun q => b4.elim (fun z => Or.inl (q.1.trans z)) (fun z => Or.inr (q.2.trans z)))) (fun c q1 q2 => by rw [k6 c q1 q2]; exact b5 c q1 q2) (by omega) _ _ _ hM (lv_sub hl [1, 2, 3, 4, 0] rfl)
                  · refine lv_iconst (v := nI 0) hx hb dX9_holdsFor_79 (by decide) ?_
                    exact hret _ _ (false) _ _ _ _ dX9_holdsFor_80 hM (rfl) (⟨rfl, fun c q => by rw [k6 c (by omega) (by omega)]; exact b5 c (by omega) (by omega)⟩)
          exact L53 (_ + 1) 1 (m2 σ1 129 1 (nI 0)) rt false (by decide) (by omega) (⟨fun i hi => by rw [m2_o (by decide)]; exact a1.1 i hi, m2_ss⟩) (Gw.rf _) (fun S1 q1 q2 => absurd q1 (by omega)) (Or.inr rfl) (fun c q1 q2 => by rw [m2_o q1]; exact a5 c q1 q2) (Nat.lt_succ_self _) _ _ _ hM (lv_sub hl [1, 2, 3, 4, 0] rfl)
  exact L31 (_ + 1) 0 (m2 (m2 σ_14 130 ((2 ^ 2 ^ m) - 1) (nI ((2 ^ 2 ^ m) - 1))) 129 1 (nI 1)) (fu (fun _ => 0) (2 ^ 2 ^ m - 1) (2 ^ 2 ^ m - 1)) true (by decide) (⟨fun i hi => by rw [m2_o (by decide)]; exact tr_0 hc.m hp_14.1 i hi, m2_ss⟩) (fun d s S q => absurd q (by omega)) (mk_0 m g h) (Or.inl rfl) (fun c q1 q2 => by rw [m2_o q1, m2_o q2]; exact hp_14.2 c q2) (Nat.lt_succ_self _) _ _ _ hM (lv_sub hl [2, 3, 1, 0] rfl)

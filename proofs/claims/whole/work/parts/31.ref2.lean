theorem phN_le (n : Nat) : phN n ≤ 8 := by unfold phN; split <;> omega
theorem IRw.psh {σ σ1 σ2 : Mem} {w : World} (h : IRw σ w) (h1 : σ1 131 2 = nI (phN w.2.1)) (h2 : ∀ j, j < phN w.2.1 → ROk (phP w.2.1 w.2.2.1 w.1 j) ∧ RecF (fun i => σ1 133 (102 * j + i)) (phP w.2.1 w.2.2.1 w.1 j)) (h3 : ∀ c, c ≠ 131 → c ≠ 133 → σ1 c = σ c) {B : Rec} (hB : ROk B) (hC : RecF (σ2 132) B) (e : ∀ c, c ≠ 132 → σ2 c = σ1 c) : IRw σ2 (psh w B) := by
  obtain ⟨_, _, _, _, h5⟩ := h
  refine ⟨hB, hC, ⟨by rw [e 131 (by decide)]; exact h1, phN_le _⟩, fun j hj => ⟨(h2 j hj).1, by show RecF (fun i => σ2 133 _) _; rw [e 133 (by decide)]; exact (h2 j hj).2⟩, fun i hi => ?_⟩
  rw [e 135 (by decide), e 134 (by decide), h3 135 (by decide) (by decide), h3 134 (by decide) (by decide)]
  exact h5 i hi
theorem snd_RecF {σ : Mem} {A : Rec} (h : RecF (σ 132) A) (u w : Nat) (hn : rS A < 24) : RecF (sndM σ (rS A) (nI u) (nI w) 132) (sentR A u w) := by
  obtain ⟨⟨h0, h1, h2, h3, h4, h5⟩, h6, h7⟩ := h
  unfold sndM
  refine ⟨⟨?_, ?_, ?_, ?_, m2_ss, ?_⟩, fun k hk => ?_, fun k hk => ?_⟩
  · rw [m2_sn (by omega), m2_sn (by omega), m2_sn (by omega)]; exact h0
  · rw [m2_sn (by omega), m2_sn (by omega), m2_sn (by omega)]; exact h1
  · rw [m2_sn (by omega), m2_sn (by omega), m2_sn (by omega)]; exact h2
  · rw [m2_sn (by omega), m2_sn (by omega), m2_sn (by omega)]; exact h3
  · rw [m2_sn (by omega), m2_sn (by omega), m2_sn (by omega)]; exact h5
  · have hk : k < rS A + 1 := hk
    show m2 _ _ _ _ _ _ = nI (fu (rU A) (rS A) u k) ∧ m2 _ _ _ _ _ _ = nI (fu (rW A) (rS A) w k)
    by_cases e : k = rS A
    · subst e
      rw [fu_s, fu_s, m2_sn (by omega), m2_sn (by omega), m2_ss, m2_sn (by omega), m2_ss]
      exact ⟨rfl, rfl⟩
    · rw [fu_n _ e, fu_n _ e, m2_sn (by omega), m2_sn (by omega), m2_sn (by omega), m2_sn (by omega), m2_sn (by omega), m2_sn (by omega)]
      exact h6 k (by omega)
  · rw [m2_sn (by omega), m2_sn (by omega), m2_sn (by omega), m2_sn (by omega), m2_sn (by omega), m2_sn (by omega)]
    exact h7 k hk
theorem hea_RecF {σ : Mem} {A : Rec} (h : RecF (σ 132) A) (x y : Int32) (hs : rS A ≤ 24) : RecF (heaM σ (rN A) x y 132) (heardR A x y) := by
  obtain ⟨⟨h0, h1, h2, h3, h4, h5⟩, h6, h7⟩ := h
  unfold heaM
  refine ⟨⟨?_, ?_, ?_, ?_, ?_, m2_ss⟩, fun k hk => ?_, fun k hk => ?_⟩
  · rw [m2_sn (by omega), m2_sn (by omega), m2_sn (by omega)]; exact h0
  · rw [m2_sn (by omega), m2_sn (by omega), m2_sn (by omega)]; exact h1
  · rw [m2_sn (by omega), m2_sn (by omega), m2_sn (by omega)]; exact h2
  · rw [m2_sn (by omega), m2_sn (by omega), m2_sn (by omega)]; exact h3
  · rw [m2_sn (by omega), m2_sn (by omega), m2_sn (by omega)]; exact h4
  · have hk : k < rS A := hk
    rw [m2_sn (by omega), m2_sn (by omega), m2_sn (by omega), m2_sn (by omega), m2_sn (by omega), m2_sn (by omega)]
    exact h6 k hk
  · have hk : k < rN A + 1 := hk
    show m2 _ _ _ _ _ _ = upd (rX A) (rN A) x k ∧ m2 _ _ _ _ _ _ = upd (rY A) (rN A) y k
    unfold upd
    by_cases e : k = rN A
    · rw [if_pos e, if_pos e, e, m2_sn (by omega), m2_sn (by omega), m2_ss, m2_sn (by omega), m2_ss]
      exact ⟨rfl, rfl⟩
    · rw [if_neg e, if_neg e, m2_sn (by omega), m2_sn (by omega), m2_sn (by omega), m2_sn (by omega), m2_sn (by omega), m2_sn (by omega)]
      exact h7 k (by omega)
theorem snd_o {σ : Mem} {n : Nat} {u w : Int32} {c : Nat} (h : c ≠ 132) : sndM σ n u w c = σ c := by unfold sndM; rw [m2_o h, m2_o h, m2_o h]
theorem hea_o {σ : Mem} {n : Nat} {u w : Int32} {c : Nat} (h : c ≠ 132) : heaM σ n u w c = σ c := by unfold heaM; rw [m2_o h, m2_o h, m2_o h]
theorem nt_lt {σ : Mem} {n j : Nat} {P : Nat → Rec} {A : Rec} (hn : n < 8) (hj : j < n) (h : ROk (P j) ∧ RecF (fun i => σ 133 (102 * j + i)) (P j)) : ROk (phP n P A j) ∧ RecF (fun i => σ 133 (102 * j + i)) (phP n P A j) := by
  have e : phP n P A j = P j := by unfold phP; rw [if_pos hn, if_neg (by omega)]
  rw [e]
  exact h
theorem nt_ge {σ σ1 : Mem} {j : Nat} {P : Nat → Rec} {A : Rec} (hj : j < 7) (h : ROk (P (j + 1)) ∧ RecF (fun i => σ 133 (102 * (j + 1) + i)) (P (j + 1))) (e : ∀ i, i < 714 → σ1 133 i = σ 133 (i + 102)) : ROk (phP 8 P A j) ∧ RecF (fun i => σ1 133 (102 * j + i)) (phP 8 P A j) := by
  have e1 : phP 8 P A j = P (j + 1) := by unfold phP; rw [if_neg (by decide), if_neg (by omega)]
  rw [e1]
  refine ⟨h.1, h.2.cp h.1 (fun i hi => ?_)⟩
  show σ1 133 (102 * j + i) = σ 133 (102 * (j + 1) + i)
  rw [e _ (by omega), show 102 * j + i + 102 = 102 * (j + 1) + i by omega]
theorem nt_end {σ σ2 σ3 : Mem} {n a : Nat} {P : Nat → Rec} {A : Rec} (hR : ROk A) (hA : RecF (σ 132) A) (h7 : phP n P A a = A) (h5 : ∀ j, j < a → ROk (phP n P A j) ∧ RecF (fun i => σ2 133 (102 * j + i)) (phP n P A j)) (j1 : ∀ i, i < 102 → σ3 133 (102 * a + i) = σ 132 i) (j2 : ∀ i, i < 102 * a → σ3 133 i = σ2 133 i) : ∀ j, j < a + 1 → ROk (phP n P A j) ∧ RecF (fun i => σ3 133 (102 * j + i)) (phP n P A j) := by
  intro j hj
  by_cases e : j = a
  · subst e
    rw [h7]
    exact ⟨hR, hA.cp hR j1⟩
  · exact ⟨(h5 j (by omega)).1, (h5 j (by omega)).2.cp (h5 j (by omega)).1 (fun i hi => j2 _ (by omega))⟩
set_option maxHeartbeats 4000000 in
set_option maxRecDepth 100000 in
theorem m_notes (l : Launch) (G : GT) (b : Nat) (σ : Mem) (A : Rec) (n : Nat) (P : Nat → Rec) (hR : ROk A) (hA : RecF (σ 132) A) (hn : σ 131 2 = nI n ∧ n ≤ 8) (hP : ∀ j, j < n → ROk (P j) ∧ RecF (fun i => σ 133 (102 * j + i)) (P j)) : KV l G b yX11_notes cX11_notes 2 0 σ [.ref (b + 131)] (fun σ' => (σ' 131 2 = nI (phN n) ∧ ∀ j, j < phN n → ROk (phP n P A j) ∧ RecF (fun i => σ' 133 (102 * j + i)) (phP n P A j)) ∧ ∀ c, c ≠ 131 → c ≠ 133 → σ' c = σ c) := by
  refine sg_metV [.ref (b + 131)] (by decide) (Nat.le_of_ble_eq_true rfl) ?_
  intro vp ve vs vm args below meth vc ls Q hx hb hml hown hts hK hM hl hret
  have hl : lv_has ls 2 [(0, .ref (b + 131))] := hl
  have hn8 := hn.2
  refine lv_aload_n hx hb dX11_notes_0 rfl (lv_at hl 0 rfl) ?_
  refine sg_get (v := .int (σ 131 2)) hx hb hts hown hK hM (sh18 kc_131) (kd_lt kc_131 (by decide)) rfl inX11 2 (by decide) wf_X11_80 rfl dX11_notes_1 ?_
  refine sn_top (y := nI n) (hn.1) ?_
  refine lv_bipush (v := nI 8) hx hb dX11_notes_4 (by decide) ?_
  have J49 : ∀ (a : Nat) (σ2 : Mem), (a < 8 ∧ a + 1 = phN n) → (σ2 131 2 = nI a) → (∀ j, j < a → ROk (phP n P A j) ∧ RecF (fun i => σ2 133 (102 * j + i)) (phP n P A j)) → (∀ c, c ≠ 131 → c ≠ 133 → σ2 c = σ c) → (phP n P A a = A) → ∀ (H : Heap) (locs : List Loc) (ls : Array Slot), St G (Fr b) b σ2 vs H locs → lv_has ls 2 [(0, .ref (b + 131))] → W vp l ve (RM 0) vs vm args below meth vc H locs 0 0 Q (F0 vm 49 ls []) := by
    intro a σ2 ha h4 h5 h6 h7 H locs ls hM hl
    refine lv_iconst (v := nI 0) hx hb dX11_notes_49 (by decide) ?_
    refine lv_istore_n (lv' := [(1, .int (nI 0)), (0, .ref (b + 131))]) hx hb dX11_notes_50 rfl hl (by decide) rfl (fun ls hl => ?_)
    have L51 : ∀ (fuel : Nat) (k2 : Nat) (σ3 : Mem), (k2 ≤ 102) → (∀ i, i < k2 → σ3 133 (102 * a + i) = σ 132 i) → (∀ i, i < 102 * a → σ3 133 i = σ2 133 i) → (∀ c, c ≠ 133 → σ3 c = σ2 c) → (102 - k2) < fuel → ∀ (H : Heap) (locs : List Loc) (ls : Array Slot), St G (Fr b) b σ3 vs H locs → lv_has ls 2 [(0, .ref (b + 131)), (1, .int (nI k2))] → W vp l ve (RM 0) vs vm args below meth vc H locs 0 0 Q (F0 vm 51 ls []) := by
      intro fuel
      induction fuel with
      | zero => intro k2 σ3 hk2 j1 j2 j3 hF; exact absurd hF (Nat.not_lt_zero _)
      | succ fuel ih51 =>
        intro k2 σ3 hk2 j1 j2 j3 hF H locs ls hM hl
        refine lv_iload_n hx hb dX11_notes_51 rfl (lv_at hl 1 rfl) ?_
        refine lv_bipush (v := nI 102) hx hb dX11_notes_52 (by decide) ?_
        refine sn_icmp_ge (tgt := 83) hx hb dX11_notes_54 (by decide) (by omega) (by omega) (fun c_54 => ?_) (fun c_54 => ?_)
        · refine lv_aload_n hx hb dX11_notes_83 rfl (lv_at hl 0 rfl) ?_
          refine lv_dup hx hb dX11_notes_84 rfl ?_
          refine sg_get (v := .int (σ3 131 2)) hx hb hts hown hK hM (sh18 kc_131) (kd_lt kc_131 (by decide)) rfl inX11 2 (by decide) wf_X11_80 rfl dX11_notes_85 ?_
          refine sn_top (y := nI a) (by rw [j3 131 (by decide)]; exact h4) ?_
          refine lv_iconst (v := nI 1) hx hb dX11_notes_88 (by decide) ?_
          refine sn_iadd hx hb dX11_notes_89 ?_
          refine sg_put (v := nI (a + 1)) (ty := .int) hx hb hts hown hK hM sgA (sh18 kc_131) (kd_lt kc_131 (by decide)) rfl inX11 tyX11 tyX11_ok nmX11 2 (by decide) wf_X11_80 rfl (by decide +kernel) rfl rfl (Nat.le_of_ble_eq_true rfl) (by rw [sh18 kc_131]; rfl) dX11_notes_90 (fun H locs hM => ?_)
          obtain rfl : k2 = 102 := by omega
          exact hret _ _ _ _ _ dX11_notes_93 hM (⟨⟨by rw [m2_ss, ha.2], by rw [← ha.2]; exact fun j hj => by have q := nt_end hR hA h7 h5 j1 j2 j hj; exact ⟨q.1, q.2.cp q.1 (fun i _ => by rw [m2_o (by decide)])⟩⟩, fun c q1 q2 => by rw [m2_o q1, j3 c q2]; exact h6 c q1 q2⟩)
        · refine lv_aload_n hx hb dX11_notes_57 rfl (lv_at hl 0 rfl) ?_
          refine sg_get (v := .ref (b + 133)) hx hb hts hown hK hM (sh18 kc_131) (kd_lt kc_131 (by decide)) rfl inX11 1 (by decide) wf_X11_13 rfl dX11_notes_58 ?_
          refine lv_bipush (v := nI 102) hx hb dX11_notes_61 (by decide) ?_
          refine lv_aload_n hx hb dX11_notes_63 rfl (lv_at hl 0 rfl) ?_
          refine sg_get (v := .int (σ3 131 2)) hx hb hts hown hK hM (sh18 kc_131) (kd_lt kc_131 (by decide)) rfl inX11 2 (by decide) wf_X11_80 rfl dX11_notes_64 ?_
          refine sn_top (y := nI a) (by rw [j3 131 (by decide)]; exact h4) ?_
          refine sn_imul hx hb dX11_notes_67 ?_
          refine lv_iload_n hx hb dX11_notes_68 rfl (lv_at hl 1 rfl) ?_
          refine sn_iadd hx hb dX11_notes_69 ?_
          refine lv_aload_n hx hb dX11_notes_70 rfl (lv_at hl 0 rfl) ?_
          refine sg_get (v := .ref (b + 132)) hx hb hts hown hK hM (sh18 kc_131) (kd_lt kc_131 (by decide)) rfl inX11 0 (by decide) wf_X11_7 rfl dX11_notes_71 ?_
          refine lv_iload_n hx hb dX11_notes_74 rfl (lv_at hl 1 rfl) ?_
          refine sg_iald hx hb hK hM (sh19 kc_132) (kd_lt kc_132 (by decide)) (i := k2) (by omega) (by decide) dX11_notes_75 ?_
          refine sg_iast hx hb hK hM sgA (fun f => sh20 kc_133) (kd_lt kc_133 (by decide)) (i := (102 * a) + k2) (by omega) (by decide) dX11_notes_76 (fun H locs hM => ?_)
          refine lv_iinc (v := nI (k2 + 1)) (lv' := [(1, .int (nI (k2 + 1))), (0, .ref (b + 131))]) hx hb dX11_notes_77 hl (k := 1) rfl (q_inc _) (by decide) rfl (fun ls hl => ?_)
          refine lv_goto (tgt := 51) hx hb dX11_notes_80 (by decide) ?_
          exact ih51 (k2 + 1) (m2 σ3 133 ((102 * a) + k2) (σ3 132 k2)) (by omega) (fun i q => if e1 : i = k2 then (by subst e1; rw [m2_ss, j3 132 (by decide), h6 132 (by decide) (by decide)]) else (by rw [m2_sn (by omega)]; exact j1 i (by omega))) (fun i q => by rw [m2_sn (by omega)]; exact j2 i q) (fun c q => by rw [m2_o q]; exact j3 c q) (by omega) _ _ _ hM (lv_sub hl [1, 0] rfl)
    exact L51 (_ + 1) 0 σ2 (by omega) (fun i q => absurd q (by omega)) (fun _ _ => rfl) (fun _ _ => rfl) (Nat.lt_succ_self _) _ _ _ hM (lv_sub hl [1, 0] rfl)
  refine sn_icmp_ne (tgt := 49) hx hb dX11_notes_6 (by decide) (by have := hn.2; omega) (by omega) (fun d1 => ?_) (fun d1 => ?_)
  · exact J49 n σ (⟨by omega, by unfold phN; rw [if_pos (by omega)]⟩) hn.1 (fun j hj => nt_lt (by omega) hj (hP j hj)) (fun _ _ _ => rfl) (by unfold phP; rw [if_pos (by omega), if_pos rfl]) _ _ _ hM (lv_sub hl [0] rfl)
  · have e8 : n = 8 := d1
    refine lv_iconst (v := nI 0) hx hb dX11_notes_9 (by decide) ?_
    refine lv_istore_n (lv' := [(1, .int (nI 0)), (0, .ref (b + 131))]) hx hb dX11_notes_10 rfl hl (by decide) rfl (fun ls hl => ?_)
    have L11 : ∀ (fuel : Nat) (k : Nat) (σ1 : Mem), (k ≤ 714) → (∀ i, i < k → σ1 133 i = σ 133 (i + 102)) → (∀ i, k ≤ i → σ1 133 i = σ 133 i) → (∀ c, c ≠ 133 → σ1 c = σ c) → (714 - k) < fuel → ∀ (H : Heap) (locs : List Loc) (ls : Array Slot), St G (Fr b) b σ1 vs H locs → lv_has ls 2 [(0, .ref (b + 131)), (1, .int (nI k))] → W vp l ve (RM 0) vs vm args below meth vc H locs 0 0 Q (F0 vm 11 ls []) := by
      intro fuel
      induction fuel with
      | zero => intro k σ1 hk h1 h2 h3 hF; exact absurd hF (Nat.not_lt_zero _)
      | succ fuel ih11 =>
        intro k σ1 hk h1 h2 h3 hF H locs ls hM hl
        refine lv_iload_n hx hb dX11_notes_11 rfl (lv_at hl 1 rfl) ?_
        refine lv_sipush (v := nI 714) hx hb dX11_notes_12 (by decide) ?_
        refine sn_icmp_ge (tgt := 39) hx hb dX11_notes_15 (by decide) (by omega) (by omega) (fun c_15 => ?_) (fun c_15 => ?_)
        · obtain rfl : k = 714 := by omega
          have hl : lv_has ls 2 [(0, .ref (b + 131)), (1, .int (nI 714))] := hl
          refine lv_aload_n hx hb dX11_notes_39 rfl (lv_at hl 0 rfl) ?_
          refine lv_dup hx hb dX11_notes_40 rfl ?_
          refine sg_get (v := .int (σ1 131 2)) hx hb hts hown hK hM (sh18 kc_131) (kd_lt kc_131 (by decide)) rfl inX11 2 (by decide) wf_X11_80 rfl dX11_notes_41 ?_
          refine sn_top (y := nI n) (by rw [h3 131 (by decide)]; exact hn.1) ?_
          refine lv_iconst (v := nI 1) hx hb dX11_notes_44 (by decide) ?_
          refine sn_isub hx hb dX11_notes_45 (by omega) ?_
          refine sn_top (y := nI 7) (by rw [e8]) ?_
          refine sg_put (v := nI 7) (ty := .int) hx hb hts hown hK hM sgA (sh18 kc_131) (kd_lt kc_131 (by decide)) rfl inX11 tyX11 tyX11_ok nmX11 2 (by decide) wf_X11_80 rfl (by decide +kernel) rfl rfl (Nat.le_of_ble_eq_true rfl) (by rw [sh18 kc_131]; rfl) dX11_notes_46 (fun H locs hM => ?_)
          exact J49 7 (m2 σ1 131 2 (nI 7)) (⟨by decide, by rw [e8]; rfl⟩) (by rw [m2_ss]) (fun j hj => by rw [e8]; exact nt_ge hj (by rw [e8] at hP; exact hP (j + 1) (by omega)) (fun i hi => by rw [m2_o (by decide)]; exact h1 i hi)) (fun c q1 q2 => by rw [m2_o q1]; exact h3 c q2) (by rw [e8]; rfl) _ _ _ hM (lv_sub hl [0] rfl)
        · refine lv_aload_n hx hb dX11_notes_18 rfl (lv_at hl 0 rfl) ?_
          refine sg_get (v := .ref (b + 133)) hx hb hts hown hK hM (sh18 kc_131) (kd_lt kc_131 (by decide)) rfl inX11 1 (by decide) wf_X11_13 rfl dX11_notes_19 ?_
          refine lv_iload_n hx hb dX11_notes_22 rfl (lv_at hl 1 rfl) ?_
          refine lv_aload_n hx hb dX11_notes_23 rfl (lv_at hl 0 rfl) ?_
          refine sg_get (v := .ref (b + 133)) hx hb hts hown hK hM (sh18 kc_131) (kd_lt kc_131 (by decide)) rfl inX11 1 (by decide) wf_X11_13 rfl dX11_notes_24 ?_
          refine lv_iload_n hx hb dX11_notes_27 rfl (lv_at hl 1 rfl) ?_
          refine lv_bipush (v := nI 102) hx hb dX11_notes_28 (by decide) ?_
          refine sn_iadd hx hb dX11_notes_30 ?_
          refine sg_iald hx hb hK hM (sh20 kc_133) (kd_lt kc_133 (by decide)) (i := k + 102) (by omega) (by decide) dX11_notes_31 ?_
          refine sg_iast hx hb hK hM sgA (fun f => sh20 kc_133) (kd_lt kc_133 (by decide)) (i := k) (by omega) (by decide) dX11_notes_32 (fun H locs hM => ?_)
          refine lv_iinc (v := nI (k + 1)) (lv' := [(1, .int (nI (k + 1))), (0, .ref (b + 131))]) hx hb dX11_notes_33 hl (k := 1) rfl (q_inc _) (by decide) rfl (fun ls hl => ?_)
          refine lv_goto (tgt := 11) hx hb dX11_notes_36 (by decide) ?_
          exact ih11 (k + 1) (m2 σ1 133 k (σ1 133 (k + 102))) (by omega) (fun i q => if e1 : i = k then (by subst e1; rw [m2_ss]; exact h2 _ (by omega)) else (by rw [m2_sn e1]; exact h1 i (by omega))) (fun i q => by rw [m2_sn (by omega)]; exact h2 i (by omega)) (fun c q => by rw [m2_o q]; exact h3 c q) (by omega) _ _ _ hM (lv_sub hl [1, 0] rfl)
    exact L11 (_ + 1) 0 σ (by omega) (fun i q => absurd q (by omega)) (fun _ _ => rfl) (fun _ _ => rfl) (Nat.lt_succ_self _) _ _ _ hM (lv_sub hl [1, 0] rfl)
theorem cod_RecF {A : Rec} {m g h : Nat} (σ : Mem) : RecF (m2 (m2 (m2 (m2 (m2 (m2 σ 132 0 (nI m)) 132 1 (nI g)) 132 2 (nI h)) 132 3 (-1)) 132 4 (nI 0)) 132 5 (nI 0) 132) (coded A m g h) := by
  refine ⟨⟨?_, ?_, ?_, ?_, ?_, m2_ss⟩, fun k q => absurd q (Nat.not_lt_zero _), fun k q => absurd q (Nat.not_lt_zero _)⟩
  · rw [m2_sn (by decide), m2_sn (by decide), m2_sn (by decide), m2_sn (by decide), m2_sn (by decide), m2_ss]; rfl
  · rw [m2_sn (by decide), m2_sn (by decide), m2_sn (by decide), m2_sn (by decide), m2_ss]; rfl
  · rw [m2_sn (by decide), m2_sn (by decide), m2_sn (by decide), m2_ss]; rfl
  · rw [m2_sn (by decide), m2_sn (by decide), m2_ss]; rfl
  · rw [m2_sn (by decide), m2_ss]; rfl
theorem clr_RecF {σ : Mem} {A : Rec} (h : RecF (σ 132) A) : RecF (m2 (m2 σ 132 4 (nI 0)) 132 5 (nI 0) 132) (cleared A) := by
  obtain ⟨⟨h0, h1, h2, h3, h4, h5⟩, h6, h7⟩ := h
  refine ⟨⟨?_, ?_, ?_, ?_, ?_, m2_ss⟩, fun k q => absurd q (Nat.not_lt_zero _), fun k q => absurd q (Nat.not_lt_zero _)⟩
  · rw [m2_sn (by decide), m2_sn (by decide)]; exact h0
  · rw [m2_sn (by decide), m2_sn (by decide)]; exact h1
  · rw [m2_sn (by decide), m2_sn (by decide)]; exact h2
  · rw [m2_sn (by decide), m2_sn (by decide)]; exact h3
  · rw [m2_sn (by decide), m2_ss]; rfl
theorem end_RecF {σ : Mem} {A : Rec} (h : RecF (σ 132) A) (e : Int32) : RecF (m2 σ 132 3 e 132) (endedR A e) := by
  obtain ⟨⟨h0, h1, h2, h3, h4, h5⟩, h6, h7⟩ := h
  refine ⟨⟨?_, ?_, ?_, m2_ss, ?_, ?_⟩, fun k q => ?_, fun k q => ?_⟩
  · rw [m2_sn (by decide)]; exact h0
  · rw [m2_sn (by decide)]; exact h1
  · rw [m2_sn (by decide)]; exact h2
  · rw [m2_sn (by decide)]; exact h4
  · rw [m2_sn (by decide)]; exact h5
  · rw [m2_sn (by omega), m2_sn (by omega)]; exact h6 k q
  · rw [m2_sn (by omega), m2_sn (by omega)]; exact h7 k q
set_option maxHeartbeats 4000000 in
set_option maxRecDepth 100000 in
theorem y_code (l : Launch) (G : GT) (b : Nat) (σ : Mem) (w : World) (hI : IRw σ w) (x y z : Int32) : KI l G b yX11_code cX11_code 4 1 σ [.ref (b + 131), .int x, .int y, .int z] (fun r σ' => r = (S_code w x y z).1 ∧ IRw σ' (S_code w x y z).2 ∧ ∀ k, k < 131 → σ' k = σ k) := by
  refine sg_metI [.ref (b + 131), .int x, .int y, .int z] (by decide) (Nat.le_of_ble_eq_true rfl) ?_
  intro vp ve vs vm args below meth vc ls Q hx hb hml hown hts hK hM hl hret
  have hl : lv_has ls 4 [(0, .ref (b + 131)), (1, .int x), (2, .int y), (3, .int z)] := hl
  obtain ⟨hR, hA, hn, hP, hJ⟩ := id hI
  have hc := RCd.of hR hA
  have hS24 := hR.2.1.1
  have hN24 := hR.2.1.2
  have hm8 := p2_le hR.1.1.2
  refine lv_iload_n hx hb dX11_code_0 rfl (lv_at hl 1 rfl) ?_
  refine lv_iconst (v := nI 1) hx hb dX11_code_1 (by decide) ?_
  refine lv_iconst (v := nI 3) hx hb dX11_code_2 (by decide) ?_
  refine sg_ci (sg_runS (d := 0) (As := [.int x, .int (nI 1), .int (nI 3)]) (rest := []) hx hb hml hts hown hK hM (m_in l G b σ x (nI 1) (nI 3)) mi_X11_in wl_X11_69 rfl hl.1 rfl (Nat.le_of_ble_eq_true rfl) dX11_code_3 ⟨by decide, by decide⟩ ⟨Nat.le_refl 0, Nat.le_refl 0⟩) hM sgA (fun r_3 σ_3 H locs hp_3 hM => ?_)
  obtain ⟨hr_3, hs_3⟩ := hp_3; subst r_3; subst σ_3
  refine sn_ifz_eq (tgt := 35) hx hb dX11_code_6 (by decide) (fun d1 => ?_) (fun d1 => ?_)
  · refine lv_ldc (v := (-1000000002)) hx hb hown (hts (Cond.constant RX11 84 ((-1000000002))) wk_X11_84) dX11_code_35 ?_
    exact hret _ _ _ _ _ _ dX11_code_37 hM (⟨by rw [S_code_o (cokB_o1 d1)], by rw [S_code_o (cokB_o1 d1)]; exact hI, fun _ _ => rfl⟩)
  · obtain ⟨m, hm1, hm2, rfl⟩ := inR_nat1 (by decide) d1
    have hm8 := p2_le hm2
    have hp2 := p2_pos m
    have hl : lv_has ls 4 [(0, .ref (b + 131)), (1, .int (nI m)), (2, .int y), (3, .int z)] := hl
    refine lv_iload_n hx hb dX11_code_9 rfl (lv_at hl 2 rfl) ?_
    refine lv_iconst (v := nI 1) hx hb dX11_code_10 (by decide) ?_
    refine lv_iconst (v := nI 2) hx hb dX11_code_11 (by decide) ?_
    refine lv_iload_n hx hb dX11_code_12 rfl (lv_at hl 1 rfl) ?_
    refine sn_ishl hx hb dX11_code_13 (by omega) (by omega) ?_
    refine lv_iconst (v := nI 1) hx hb dX11_code_14 (by decide) ?_
    refine sn_isub hx hb dX11_code_15 (by omega) ?_
    refine sg_ci (sg_runS (d := 0) (As := [.int y, .int (nI 1), .int (nI ((2 * 2 ^ m) - 1))]) (rest := []) hx hb hml hts hown hK hM (m_in l G b σ y (nI 1) (nI ((2 * 2 ^ m) - 1))) mi_X11_in wl_X11_69 rfl hl.1 rfl (Nat.le_of_ble_eq_true rfl) dX11_code_16 ⟨by decide, by decide⟩ ⟨Nat.le_refl 0, Nat.le_refl 0⟩) hM sgA (fun r_16 σ_16 H locs hp_16 hM => ?_)
    obtain ⟨hr_16, hs_16⟩ := hp_16; subst r_16; subst σ_16
    refine sn_ifz_eq (tgt := 35) hx hb dX11_code_19 (by decide) (fun d2 => ?_) (fun d2 => ?_)
    · refine lv_ldc (v := (-1000000002)) hx hb hown (hts (Cond.constant RX11 84 ((-1000000002))) wk_X11_84) dX11_code_35 ?_
      exact hret _ _ _ _ _ _ dX11_code_37 hM (⟨by rw [S_code_o (cokB_o2 ⟨hm1, hm2⟩ d2)], by rw [S_code_o (cokB_o2 ⟨hm1, hm2⟩ d2)]; exact hI, fun _ _ => rfl⟩)
    · obtain ⟨g, hg1, hg2, rfl⟩ := inR_nat1 (by omega) d2
      have hl : lv_has ls 4 [(0, .ref (b + 131)), (1, .int (nI m)), (2, .int (nI g)), (3, .int z)] := hl
      refine lv_iload_n hx hb dX11_code_22 rfl (lv_at hl 3 rfl) ?_
      refine lv_iconst (v := nI 1) hx hb dX11_code_23 (by decide) ?_
      refine lv_iconst (v := nI 2) hx hb dX11_code_24 (by decide) ?_
      refine lv_iload_n hx hb dX11_code_25 rfl (lv_at hl 1 rfl) ?_
      refine sn_ishl hx hb dX11_code_26 (by omega) (by omega) ?_
      refine lv_iconst (v := nI 1) hx hb dX11_code_27 (by decide) ?_
      refine sn_isub hx hb dX11_code_28 (by omega) ?_
      refine sg_ci (sg_runS (d := 0) (As := [.int z, .int (nI 1), .int (nI ((2 * 2 ^ m) - 1))]) (rest := []) hx hb hml hts hown hK hM (m_in l G b σ z (nI 1) (nI ((2 * 2 ^ m) - 1))) mi_X11_in wl_X11_69 rfl hl.1 rfl (Nat.le_of_ble_eq_true rfl) dX11_code_29 ⟨by decide, by decide⟩ ⟨Nat.le_refl 0, Nat.le_refl 0⟩) hM sgA (fun r_29 σ_29 H locs hp_29 hM => ?_)
      obtain ⟨hr_29, hs_29⟩ := hp_29; subst r_29; subst σ_29
      refine sn_ifz_ne (tgt := 38) hx hb dX11_code_32 (by decide) (fun d3 => ?_) (fun d3 => ?_)
      · obtain ⟨h, hh1, hh2, rfl⟩ := inR_nat1 (by omega) d3
        have hck : cOK m g h := ⟨⟨hm1, hm2⟩, ⟨hg1, by omega⟩, hh1, by omega⟩
        have hl : lv_has ls 4 [(0, .ref (b + 131)), (1, .int (nI m)), (2, .int (nI g)), (3, .int (nI h))] := hl
        refine lv_aload_n hx hb dX11_code_38 rfl (lv_at hl 0 rfl) ?_
        refine sg_cv (sg_runV (d := 0) (As := []) (rest := []) hx hb hml hts hown hK hM (m_notes l G b σ w.1 w.2.1 w.2.2.1 hR hA hn hP) mi_X11_notes wl_X11_85 (sh18 kc_131) (kd_lt kc_131 (by decide)) rfl rfl rfl hl.1 rfl (Nat.le_of_ble_eq_true rfl) dX11_code_39 ⟨by decide, by decide⟩ ⟨Nat.le_refl 0, Nat.le_refl 0⟩) hM sgA (fun σ1 H locs hp1 hM => ?_)
        obtain ⟨⟨k1, k2⟩, k3⟩ := hp1
        have hA1 : RecF (σ1 132) w.1 := by rw [k3 132 (by decide) (by decide)]; exact hA
        refine lv_aload_n hx hb dX11_code_42 rfl (lv_at hl 0 rfl) ?_
        refine sg_get (v := .ref (b + 132)) hx hb hts hown hK hM (sh18 kc_131) (kd_lt kc_131 (by decide)) rfl inX11 0 (by decide) wf_X11_7 rfl dX11_code_43 ?_
        refine lv_iconst (v := nI 0) hx hb dX11_code_46 (by decide) ?_
        refine lv_iload_n hx hb dX11_code_47 rfl (lv_at hl 1 rfl) ?_
        refine sg_iast hx hb hK hM sgA (fun f => sh19 kc_132) (kd_lt kc_132 (by decide)) (i := 0) (by omega) (by decide) dX11_code_48 (fun H locs hM => ?_)
        refine lv_aload_n hx hb dX11_code_49 rfl (lv_at hl 0 rfl) ?_
        refine sg_get (v := .ref (b + 132)) hx hb hts hown hK hM (sh18 kc_131) (kd_lt kc_131 (by decide)) rfl inX11 0 (by decide) wf_X11_7 rfl dX11_code_50 ?_
        refine lv_iconst (v := nI 1) hx hb dX11_code_53 (by decide) ?_
        refine lv_iload_n hx hb dX11_code_54 rfl (lv_at hl 2 rfl) ?_
        refine sg_iast hx hb hK hM sgA (fun f => sh19 kc_132) (kd_lt kc_132 (by decide)) (i := 1) (by omega) (by decide) dX11_code_55 (fun H locs hM => ?_)
        refine lv_aload_n hx hb dX11_code_56 rfl (lv_at hl 0 rfl) ?_
        refine sg_get (v := .ref (b + 132)) hx hb hts hown hK hM (sh18 kc_131) (kd_lt kc_131 (by decide)) rfl inX11 0 (by decide) wf_X11_7 rfl dX11_code_57 ?_
        refine lv_iconst (v := nI 2) hx hb dX11_code_60 (by decide) ?_
        refine lv_iload_n hx hb dX11_code_61 rfl (lv_at hl 3 rfl) ?_
        refine sg_iast hx hb hK hM sgA (fun f => sh19 kc_132) (kd_lt kc_132 (by decide)) (i := 2) (by omega) (by decide) dX11_code_62 (fun H locs hM => ?_)
        refine lv_aload_n hx hb dX11_code_63 rfl (lv_at hl 0 rfl) ?_
        refine sg_get (v := .ref (b + 132)) hx hb hts hown hK hM (sh18 kc_131) (kd_lt kc_131 (by decide)) rfl inX11 0 (by decide) wf_X11_7 rfl dX11_code_64 ?_
        refine lv_iconst (v := nI 3) hx hb dX11_code_67 (by decide) ?_
        refine lv_iconst (v := (-1)) hx hb dX11_code_68 (by decide) ?_
        refine sg_iast hx hb hK hM sgA (fun f => sh19 kc_132) (kd_lt kc_132 (by decide)) (i := 3) (by omega) (by decide) dX11_code_69 (fun H locs hM => ?_)
        refine lv_aload_n hx hb dX11_code_70 rfl (lv_at hl 0 rfl) ?_
        refine sg_get (v := .ref (b + 132)) hx hb hts hown hK hM (sh18 kc_131) (kd_lt kc_131 (by decide)) rfl inX11 0 (by decide) wf_X11_7 rfl dX11_code_71 ?_
        refine lv_iconst (v := nI 4) hx hb dX11_code_74 (by decide) ?_
        refine lv_iconst (v := nI 0) hx hb dX11_code_75 (by decide) ?_
        refine sg_iast hx hb hK hM sgA (fun f => sh19 kc_132) (kd_lt kc_132 (by decide)) (i := 4) (by omega) (by decide) dX11_code_76 (fun H locs hM => ?_)
        refine lv_aload_n hx hb dX11_code_77 rfl (lv_at hl 0 rfl) ?_
        refine sg_get (v := .ref (b + 132)) hx hb hts hown hK hM (sh18 kc_131) (kd_lt kc_131 (by decide)) rfl inX11 0 (by decide) wf_X11_7 rfl dX11_code_78 ?_
        refine lv_iconst (v := nI 5) hx hb dX11_code_81 (by decide) ?_
        refine lv_iconst (v := nI 0) hx hb dX11_code_82 (by decide) ?_
        refine sg_iast hx hb hK hM sgA (fun f => sh19 kc_132) (kd_lt kc_132 (by decide)) (i := 5) (by omega) (by decide) dX11_code_83 (fun H locs hM => ?_)
        obtain ⟨σ2, hσ2⟩ : ∃ z : Mem, z = m2 (m2 (m2 (m2 (m2 (m2 σ1 132 0 (nI m)) 132 1 (nI g)) 132 2 (nI h)) 132 3 (-1)) 132 4 (nI 0)) 132 5 (nI 0) := ⟨_, rfl⟩
        rw [← hσ2] at hM
        refine lv_aload_n hx hb dX11_code_84 rfl (lv_at hl 0 rfl) ?_
        have hC2 : RecF (σ2 132) (coded w.1 m g h) := by rw [hσ2]; exact cod_RecF _
        refine sg_ci (sg_runV (d := 0) (As := []) (rest := []) hx hb hml hts hown hK hM (m_states l G b σ2 m g h ⟨hC2.1.1, hC2.1.2.1, hC2.1.2.2.1, hck.1, hck.lt.1, hck.lt.2⟩) mi_X11_manyStates wl_X11_73 (sh18 kc_131) (kd_lt kc_131 (by decide)) rfl rfl rfl hl.1 rfl (Nat.le_of_ble_eq_true rfl) dX11_code_85 ⟨by decide, by decide⟩ ⟨Nat.le_refl 0, Nat.le_refl 0⟩) hM sgA (fun r_85 σ_85 H locs hp_85 hM => ?_)
        obtain ⟨hr_85, hs_85⟩ := hp_85; subst r_85; subst σ_85
        exact hret _ _ _ _ _ _ dX11_code_88 hM (⟨by rw [S_code_ok hck], by rw [S_code_ok hck]; exact hI.psh k1 k2 k3 (coded_ok hck) hC2 (fun c q => by rw [hσ2, m2_o q, m2_o q, m2_o q, m2_o q, m2_o q, m2_o q]), fun k hk => by rw [hσ2, m2_o (by omega), m2_o (by omega), m2_o (by omega), m2_o (by omega), m2_o (by omega), m2_o (by omega), k3 k (by omega) (by omega)]⟩)
      · refine lv_ldc (v := (-1000000002)) hx hb hown (hts (Cond.constant RX11 84 ((-1000000002))) wk_X11_84) dX11_code_35 ?_
        exact hret _ _ _ _ _ _ dX11_code_37 hM (⟨by rw [S_code_o (cokB_o3 ⟨hm1, hm2⟩ d3)], by rw [S_code_o (cokB_o3 ⟨hm1, hm2⟩ d3)]; exact hI, fun _ _ => rfl⟩)
set_option maxHeartbeats 4000000 in
set_option maxRecDepth 100000 in
theorem y_send (l : Launch) (G : GT) (b : Nat) (σ : Mem) (w : World) (hI : IRw σ w) (x y : Int32) : KI l G b yX11_send cX11_send 3 3 σ [.ref (b + 131), .int x, .int y] (fun r σ' => r = (S_send w x y).1 ∧ IRw σ' (S_send w x y).2 ∧ ∀ k, k < 131 → σ' k = σ k) := by
  refine sg_metI [.ref (b + 131), .int x, .int y] (by decide) (Nat.le_of_ble_eq_true rfl) ?_
  intro vp ve vs vm args below meth vc ls Q hx hb hml hown hts hK hM hl hret
  have hl : lv_has ls 3 [(0, .ref (b + 131)), (1, .int x), (2, .int y)] := hl
  obtain ⟨hR, hA, hn, hP, hJ⟩ := id hI
  have hc := RCd.of hR hA
  have hS24 := hR.2.1.1
  have hN24 := hR.2.1.2
  have hm8 := p2_le hR.1.1.2
  refine lv_iload_n hx hb dX11_send_0 rfl (lv_at hl 1 rfl) ?_
  refine lv_iconst (v := nI 0) hx hb dX11_send_1 (by decide) ?_
  refine lv_iconst (v := nI 1) hx hb dX11_send_2 (by decide) ?_
  refine sg_ci (sg_runS (d := 0) (As := [.int x, .int (nI 0), .int (nI 1)]) (rest := []) hx hb hml hts hown hK hM (m_in l G b σ x (nI 0) (nI 1)) mi_X11_in wl_X11_69 rfl hl.1 rfl (Nat.le_of_ble_eq_true rfl) dX11_send_3 ⟨by decide, by decide⟩ ⟨Nat.le_refl 0, Nat.le_refl 0⟩) hM sgA (fun r_3 σ_3 H locs hp_3 hM => ?_)
  obtain ⟨hr_3, hs_3⟩ := hp_3; subst r_3; subst σ_3
  refine sn_ifz_eq (tgt := 18) hx hb dX11_send_6 (by decide) (fun d1 => ?_) (fun d1 => ?_)
  · refine lv_ldc (v := (-1000000002)) hx hb hown (hts (Cond.constant RX11 84 ((-1000000002))) wk_X11_84) dX11_send_18 ?_
    exact hret _ _ _ _ _ _ dX11_send_20 hM (⟨by rw [S_send_o1 d1], by rw [S_send_o1 d1]; exact hI, fun _ _ => rfl⟩)
  · obtain ⟨u, hu, rfl⟩ := inR_nat (by decide) d1
    have hl : lv_has ls 3 [(0, .ref (b + 131)), (1, .int (nI u)), (2, .int y)] := hl
    refine lv_iload_n hx hb dX11_send_9 rfl (lv_at hl 2 rfl) ?_
    refine lv_iconst (v := nI 0) hx hb dX11_send_10 (by decide) ?_
    refine lv_iconst (v := nI 3) hx hb dX11_send_11 (by decide) ?_
    refine sg_ci (sg_runS (d := 0) (As := [.int y, .int (nI 0), .int (nI 3)]) (rest := []) hx hb hml hts hown hK hM (m_in l G b σ y (nI 0) (nI 3)) mi_X11_in wl_X11_69 rfl hl.1 rfl (Nat.le_of_ble_eq_true rfl) dX11_send_12 ⟨by decide, by decide⟩ ⟨Nat.le_refl 0, Nat.le_refl 0⟩) hM sgA (fun r_12 σ_12 H locs hp_12 hM => ?_)
    obtain ⟨hr_12, hs_12⟩ := hp_12; subst r_12; subst σ_12
    refine sn_ifz_ne (tgt := 21) hx hb dX11_send_15 (by decide) (fun d2 => ?_) (fun d2 => ?_)
    · obtain ⟨v, hv, rfl⟩ := inR_nat (by decide) d2
      have hl : lv_has ls 3 [(0, .ref (b + 131)), (1, .int (nI u)), (2, .int (nI v))] := hl
      refine lv_aload_n hx hb dX11_send_21 rfl (lv_at hl 0 rfl) ?_
      refine sg_get (v := .ref (b + 132)) hx hb hts hown hK hM (sh18 kc_131) (kd_lt kc_131 (by decide)) rfl inX11 0 (by decide) wf_X11_7 rfl dX11_send_22 ?_
      refine lv_iconst (v := nI 4) hx hb dX11_send_25 (by decide) ?_
      refine sg_iald hx hb hK hM (sh19 kc_132) (kd_lt kc_132 (by decide)) (i := 4) (by omega) (by decide) dX11_send_26 ?_
      refine sn_top (y := nI (rS w.1)) (hA.1.2.2.2.2.1) ?_
      refine lv_bipush (v := nI 24) hx hb dX11_send_27 (by decide) ?_
      refine sn_icmp_ne (tgt := 35) hx hb dX11_send_29 (by decide) (by omega) (by omega) (fun d3 => ?_) (fun d3 => ?_)
      · refine lv_aload_n hx hb dX11_send_35 rfl (lv_at hl 0 rfl) ?_
        refine sg_cv (sg_runV (d := 0) (As := []) (rest := []) hx hb hml hts hown hK hM (m_notes l G b σ w.1 w.2.1 w.2.2.1 hR hA hn hP) mi_X11_notes wl_X11_85 (sh18 kc_131) (kd_lt kc_131 (by decide)) rfl rfl rfl hl.1 rfl (Nat.le_of_ble_eq_true rfl) dX11_send_36 ⟨by decide, by decide⟩ ⟨Nat.le_refl 0, Nat.le_refl 0⟩) hM sgA (fun σ1 H locs hp1 hM => ?_)
        obtain ⟨⟨k1, k2⟩, k3⟩ := hp1
        have hA1 : RecF (σ1 132) w.1 := by rw [k3 132 (by decide) (by decide)]; exact hA
        refine lv_aload_n hx hb dX11_send_39 rfl (lv_at hl 0 rfl) ?_
        refine lv_iload_n hx hb dX11_send_40 rfl (lv_at hl 1 rfl) ?_
        refine lv_iload_n hx hb dX11_send_41 rfl (lv_at hl 2 rfl) ?_
        refine sg_cv (sg_runV (d := 0) (As := [.int (nI u), .int (nI v)]) (rest := []) hx hb hml hts hown hK hM (m_sends l G b σ1 (rS w.1) (nI u) (nI v) hA1.1.2.2.2.2.1 (by omega)) mi_X11_sends wl_X11_98 (sh18 kc_131) (kd_lt kc_131 (by decide)) rfl rfl rfl hl.1 rfl (Nat.le_of_ble_eq_true rfl) dX11_send_42 ⟨by decide, by decide⟩ ⟨Nat.le_refl 0, Nat.le_refl 0⟩) hM sgA (fun σ2 H locs hp_42 hM => ?_)
        subst σ2
        have hC2 := snd_RecF hA1 u v (by omega)
        have hB := sent_ok hR (show u < 2 by omega) (show v < 4 by omega) (by omega)
        refine lv_aload_n hx hb dX11_send_45 rfl (lv_at hl 0 rfl) ?_
        refine lv_aload_n hx hb dX11_send_46 rfl (lv_at hl 0 rfl) ?_
        refine sg_get (v := .ref (b + 132)) hx hb hts hown hK hM (sh18 kc_131) (kd_lt kc_131 (by decide)) rfl inX11 0 (by decide) wf_X11_7 rfl dX11_send_47 ?_
        refine lv_iconst (v := nI 4) hx hb dX11_send_50 (by decide) ?_
        refine sg_iald hx hb hK hM (sh19 kc_132) (kd_lt kc_132 (by decide)) (i := 4) (by omega) (by decide) dX11_send_51 ?_
        refine sn_top (y := nI (rS w.1 + 1)) (hC2.1.2.2.2.2.1) ?_
        refine lv_iconst (v := nI 1) hx hb dX11_send_52 (by decide) ?_
        refine sn_isub hx hb dX11_send_53 (by omega) ?_
        refine sn_top (y := nI (rS w.1)) (by rw [Nat.add_sub_cancel]) ?_
        refine sg_ci (sg_runV (d := 2) (As := [.int (nI (rS w.1))]) (rest := []) hx hb hml hts hown hK hM (m_pointSent l G b (sndM σ1 (rS w.1) (nI u) (nI v)) (sentR w.1 u v) hB hC2 (rS w.1) (Nat.lt_succ_self _)) mi_X11_pointSent wl_X11_102 (sh18 kc_131) (kd_lt kc_131 (by decide)) rfl rfl rfl hl.1 rfl (Nat.le_of_ble_eq_true rfl) dX11_send_54 ⟨by decide, by decide⟩ ⟨Nat.le_refl 0, Nat.le_refl 0⟩) hM sgA (fun r_54 σ_54 H locs hp_54 hM => ?_)
        obtain ⟨hr_54, hs_54⟩ := hp_54; subst r_54; subst σ_54
        exact hret _ _ _ _ _ _ dX11_send_57 hM (⟨by rw [S_send_ok (by omega) (by omega) d3], by rw [S_send_ok (by omega) (by omega) d3]; exact hI.psh k1 k2 k3 hB hC2 (fun c q => snd_o q), fun k hk => by rw [snd_o (by omega), k3 k (by omega) (by omega)]⟩)
      · refine lv_ldc (v := (-1000000004)) hx hb hown (hts (Cond.constant RX11 97 ((-1000000004))) wk_X11_97) dX11_send_32 ?_
        exact hret _ _ _ _ _ _ dX11_send_34 hM (⟨by rw [S_send_full (by omega) (by omega) d3], by rw [S_send_full (by omega) (by omega) d3]; exact hI, fun _ _ => rfl⟩)
    · refine lv_ldc (v := (-1000000002)) hx hb hown (hts (Cond.constant RX11 84 ((-1000000002))) wk_X11_84) dX11_send_18 ?_
      exact hret _ _ _ _ _ _ dX11_send_20 hM (⟨by rw [S_send_o2 d2], by rw [S_send_o2 d2]; exact hI, fun _ _ => rfl⟩)
set_option maxHeartbeats 4000000 in
set_option maxRecDepth 100000 in
theorem y_hear (l : Launch) (G : GT) (b : Nat) (σ : Mem) (w : World) (hI : IRw σ w) (x y : Int32) : KI l G b yX11_hear cX11_hear 3 1 σ [.ref (b + 131), .int x, .int y] (fun r σ' => r = (S_hear w x y).1 ∧ IRw σ' (S_hear w x y).2 ∧ ∀ k, k < 131 → σ' k = σ k) := by
  refine sg_metI [.ref (b + 131), .int x, .int y] (by decide) (Nat.le_of_ble_eq_true rfl) ?_
  intro vp ve vs vm args below meth vc ls Q hx hb hml hown hts hK hM hl hret
  have hl : lv_has ls 3 [(0, .ref (b + 131)), (1, .int x), (2, .int y)] := hl
  obtain ⟨hR, hA, hn, hP, hJ⟩ := id hI
  have hc := RCd.of hR hA
  have hS24 := hR.2.1.1
  have hN24 := hR.2.1.2
  have hm8 := p2_le hR.1.1.2
  refine lv_iload_n hx hb dX11_hear_0 rfl (lv_at hl 1 rfl) ?_
  refine lv_bipush (v := (-99)) hx hb dX11_hear_1 (by decide) ?_
  refine lv_bipush (v := nI 99) hx hb dX11_hear_3 (by decide) ?_
  refine sg_ci (sg_runS (d := 0) (As := [.int x, .int (-99), .int (nI 99)]) (rest := []) hx hb hml hts hown hK hM (m_in l G b σ x (-99) (nI 99)) mi_X11_in wl_X11_69 rfl hl.1 rfl (Nat.le_of_ble_eq_true rfl) dX11_hear_5 ⟨by decide, by decide⟩ ⟨Nat.le_refl 0, Nat.le_refl 0⟩) hM sgA (fun r_5 σ_5 H locs hp_5 hM => ?_)
  obtain ⟨hr_5, hs_5⟩ := hp_5; subst r_5; subst σ_5
  refine sn_ifz_eq (tgt := 22) hx hb dX11_hear_8 (by decide) (fun d1 => ?_) (fun d1 => ?_)
  · refine lv_ldc (v := (-1000000002)) hx hb hown (hts (Cond.constant RX11 84 ((-1000000002))) wk_X11_84) dX11_hear_22 ?_
    exact hret _ _ _ _ _ _ dX11_hear_24 hM (by first | exact ⟨by rw [S_hear_o1 d1], by rw [S_hear_o1 d1]; exact hI, fun _ _ => rfl⟩ | exact ⟨by rw [S_hear_o2 d2], by rw [S_hear_o2 d2]; exact hI, fun _ _ => rfl⟩)
  · refine lv_iload_n hx hb dX11_hear_11 rfl (lv_at hl 2 rfl) ?_
    refine lv_bipush (v := (-99)) hx hb dX11_hear_12 (by decide) ?_
    refine lv_bipush (v := nI 99) hx hb dX11_hear_14 (by decide) ?_
    refine sg_ci (sg_runS (d := 0) (As := [.int y, .int (-99), .int (nI 99)]) (rest := []) hx hb hml hts hown hK hM (m_in l G b σ y (-99) (nI 99)) mi_X11_in wl_X11_69 rfl hl.1 rfl (Nat.le_of_ble_eq_true rfl) dX11_hear_16 ⟨by decide, by decide⟩ ⟨Nat.le_refl 0, Nat.le_refl 0⟩) hM sgA (fun r_16 σ_16 H locs hp_16 hM => ?_)
    obtain ⟨hr_16, hs_16⟩ := hp_16; subst r_16; subst σ_16
    refine sn_ifz_ne (tgt := 25) hx hb dX11_hear_19 (by decide) (fun d2 => ?_) (fun d2 => ?_)
    · refine lv_aload_n hx hb dX11_hear_25 rfl (lv_at hl 0 rfl) ?_
      refine sg_get (v := .ref (b + 132)) hx hb hts hown hK hM (sh18 kc_131) (kd_lt kc_131 (by decide)) rfl inX11 0 (by decide) wf_X11_7 rfl dX11_hear_26 ?_
      refine lv_iconst (v := nI 5) hx hb dX11_hear_29 (by decide) ?_
      refine sg_iald hx hb hK hM (sh19 kc_132) (kd_lt kc_132 (by decide)) (i := 5) (by omega) (by decide) dX11_hear_30 ?_
      refine sn_top (y := nI (rN w.1)) (hA.1.2.2.2.2.2) ?_
      refine lv_bipush (v := nI 24) hx hb dX11_hear_31 (by decide) ?_
      refine sn_icmp_ne (tgt := 39) hx hb dX11_hear_33 (by decide) (by omega) (by omega) (fun d3 => ?_) (fun d3 => ?_)
      · refine lv_aload_n hx hb dX11_hear_39 rfl (lv_at hl 0 rfl) ?_
        refine sg_cv (sg_runV (d := 0) (As := []) (rest := []) hx hb hml hts hown hK hM (m_notes l G b σ w.1 w.2.1 w.2.2.1 hR hA hn hP) mi_X11_notes wl_X11_85 (sh18 kc_131) (kd_lt kc_131 (by decide)) rfl rfl rfl hl.1 rfl (Nat.le_of_ble_eq_true rfl) dX11_hear_40 ⟨by decide, by decide⟩ ⟨Nat.le_refl 0, Nat.le_refl 0⟩) hM sgA (fun σ1 H locs hp1 hM => ?_)
        obtain ⟨⟨k1, k2⟩, k3⟩ := hp1
        have hA1 : RecF (σ1 132) w.1 := by rw [k3 132 (by decide) (by decide)]; exact hA
        refine lv_aload_n hx hb dX11_hear_43 rfl (lv_at hl 0 rfl) ?_
        refine lv_iload_n hx hb dX11_hear_44 rfl (lv_at hl 1 rfl) ?_
        refine lv_iload_n hx hb dX11_hear_45 rfl (lv_at hl 2 rfl) ?_
        refine sg_cv (sg_runV (d := 0) (As := [.int x, .int y]) (rest := []) hx hb hml hts hown hK hM (m_hears l G b σ1 (rN w.1) x y hA1.1.2.2.2.2.2 (by omega)) mi_X11_hears wl_X11_105 (sh18 kc_131) (kd_lt kc_131 (by decide)) rfl rfl rfl hl.1 rfl (Nat.le_of_ble_eq_true rfl) dX11_hear_46 ⟨by decide, by decide⟩ ⟨Nat.le_refl 0, Nat.le_refl 0⟩) hM sgA (fun σ2 H locs hp_46 hM => ?_)
        subst σ2
        have hC2 := hea_RecF hA1 x y hS24
        refine lv_aload_n hx hb dX11_hear_49 rfl (lv_at hl 0 rfl) ?_
        refine sg_get (v := .ref (b + 132)) hx hb hts hown hK hM (sh18 kc_131) (kd_lt kc_131 (by decide)) rfl inX11 0 (by decide) wf_X11_7 rfl dX11_hear_50 ?_
        refine lv_iconst (v := nI 5) hx hb dX11_hear_53 (by decide) ?_
        refine sg_iald hx hb hK hM (sh19 kc_132) (kd_lt kc_132 (by decide)) (i := 5) (by omega) (by decide) dX11_hear_54 ?_
        refine sn_top (y := nI (rN w.1 + 1)) (hC2.1.2.2.2.2.2) ?_
        exact hret _ _ _ _ _ _ dX11_hear_55 hM (⟨by rw [S_hear_ok d1 d2 d3], by rw [S_hear_ok d1 d2 d3]; exact hI.psh k1 k2 k3 (heard_ok hR ⟨inR_99 d1, inR_99 d2⟩ (by omega)) hC2 (fun c q => hea_o q), fun k hk => by rw [hea_o (by omega), k3 k (by omega) (by omega)]⟩)
      · refine lv_ldc (v := (-1000000004)) hx hb hown (hts (Cond.constant RX11 97 ((-1000000004))) wk_X11_97) dX11_hear_36 ?_
        exact hret _ _ _ _ _ _ dX11_hear_38 hM (⟨by rw [S_hear_full d1 d2 d3], by rw [S_hear_full d1 d2 d3]; exact hI, fun _ _ => rfl⟩)
    · refine lv_ldc (v := (-1000000002)) hx hb hown (hts (Cond.constant RX11 84 ((-1000000002))) wk_X11_84) dX11_hear_22 ?_
      exact hret _ _ _ _ _ _ dX11_hear_24 hM (by first | exact ⟨by rw [S_hear_o1 d1], by rw [S_hear_o1 d1]; exact hI, fun _ _ => rfl⟩ | exact ⟨by rw [S_hear_o2 d2], by rw [S_hear_o2 d2]; exact hI, fun _ _ => rfl⟩)
set_option maxHeartbeats 4000000 in
set_option maxRecDepth 100000 in
theorem y_wipe (l : Launch) (G : GT) (b : Nat) (σ : Mem) (w : World) (hI : IRw σ w)  : KI l G b yX11_wipe cX11_wipe 2 1 σ [.ref (b + 131)] (fun r σ' => r = (S_wipe w).1 ∧ IRw σ' (S_wipe w).2 ∧ ∀ k, k < 131 → σ' k = σ k) := by
  refine sg_metI [.ref (b + 131)] (by decide) (Nat.le_of_ble_eq_true rfl) ?_
  intro vp ve vs vm args below meth vc ls Q hx hb hml hown hts hK hM hl hret
  have hl : lv_has ls 2 [(0, .ref (b + 131))] := hl
  obtain ⟨hR, hA, hn, hP, hJ⟩ := id hI
  have hc := RCd.of hR hA
  have hS24 := hR.2.1.1
  have hN24 := hR.2.1.2
  have hm8 := p2_le hR.1.1.2
  refine lv_aload_n hx hb dX11_wipe_0 rfl (lv_at hl 0 rfl) ?_
  refine sg_cv (sg_runV (d := 0) (As := []) (rest := []) hx hb hml hts hown hK hM (m_notes l G b σ w.1 w.2.1 w.2.2.1 hR hA hn hP) mi_X11_notes wl_X11_85 (sh18 kc_131) (kd_lt kc_131 (by decide)) rfl rfl rfl hl.1 rfl (Nat.le_of_ble_eq_true rfl) dX11_wipe_1 ⟨by decide, by decide⟩ ⟨Nat.le_refl 0, Nat.le_refl 0⟩) hM sgA (fun σ1 H locs hp1 hM => ?_)
  obtain ⟨⟨k1, k2⟩, k3⟩ := hp1
  have hA1 : RecF (σ1 132) w.1 := by rw [k3 132 (by decide) (by decide)]; exact hA
  refine lv_aload_n hx hb dX11_wipe_4 rfl (lv_at hl 0 rfl) ?_
  refine sg_get (v := .ref (b + 132)) hx hb hts hown hK hM (sh18 kc_131) (kd_lt kc_131 (by decide)) rfl inX11 0 (by decide) wf_X11_7 rfl dX11_wipe_5 ?_
  refine lv_iconst (v := nI 4) hx hb dX11_wipe_8 (by decide) ?_
  refine sg_iald hx hb hK hM (sh19 kc_132) (kd_lt kc_132 (by decide)) (i := 4) (by omega) (by decide) dX11_wipe_9 ?_
  refine sn_top (y := nI (rS w.1)) (hA1.1.2.2.2.2.1) ?_
  refine lv_aload_n hx hb dX11_wipe_10 rfl (lv_at hl 0 rfl) ?_
  refine sg_get (v := .ref (b + 132)) hx hb hts hown hK hM (sh18 kc_131) (kd_lt kc_131 (by decide)) rfl inX11 0 (by decide) wf_X11_7 rfl dX11_wipe_11 ?_
  refine lv_iconst (v := nI 5) hx hb dX11_wipe_14 (by decide) ?_
  refine sg_iald hx hb hK hM (sh19 kc_132) (kd_lt kc_132 (by decide)) (i := 5) (by omega) (by decide) dX11_wipe_15 ?_
  refine sn_top (y := nI (rN w.1)) (hA1.1.2.2.2.2.2) ?_
  refine sn_iadd hx hb dX11_wipe_16 ?_
  refine lv_istore_n (lv' := [(1, .int (nI ((rS w.1) + (rN w.1)))), (0, .ref (b + 131))]) hx hb dX11_wipe_17 rfl hl (by decide) rfl (fun ls hl => ?_)
  refine lv_aload_n hx hb dX11_wipe_18 rfl (lv_at hl 1 rfl) ?_
  refine sg_get (v := .ref (b + 132)) hx hb hts hown hK hM (sh18 kc_131) (kd_lt kc_131 (by decide)) rfl inX11 0 (by decide) wf_X11_7 rfl dX11_wipe_19 ?_
  refine lv_iconst (v := nI 4) hx hb dX11_wipe_22 (by decide) ?_
  refine lv_iconst (v := nI 0) hx hb dX11_wipe_23 (by decide) ?_
  refine sg_iast hx hb hK hM sgA (fun f => sh19 kc_132) (kd_lt kc_132 (by decide)) (i := 4) (by omega) (by decide) dX11_wipe_24 (fun H locs hM => ?_)
  refine lv_aload_n hx hb dX11_wipe_25 rfl (lv_at hl 1 rfl) ?_
  refine sg_get (v := .ref (b + 132)) hx hb hts hown hK hM (sh18 kc_131) (kd_lt kc_131 (by decide)) rfl inX11 0 (by decide) wf_X11_7 rfl dX11_wipe_26 ?_
  refine lv_iconst (v := nI 5) hx hb dX11_wipe_29 (by decide) ?_
  refine lv_iconst (v := nI 0) hx hb dX11_wipe_30 (by decide) ?_
  refine sg_iast hx hb hK hM sgA (fun f => sh19 kc_132) (kd_lt kc_132 (by decide)) (i := 5) (by omega) (by decide) dX11_wipe_31 (fun H locs hM => ?_)
  refine lv_iload_n hx hb dX11_wipe_32 rfl (lv_at hl 0 rfl) ?_
  exact hret _ _ _ _ _ _ dX11_wipe_33 hM (⟨rfl, hI.psh k1 k2 k3 (cleared_ok hR) (clr_RecF hA1) (fun c q => by rw [m2_o q, m2_o q]), fun k hk => by rw [m2_o (by omega), m2_o (by omega), k3 k (by omega) (by omega)]⟩)
set_option maxHeartbeats 4000000 in
set_option maxRecDepth 100000 in
theorem y_end (l : Launch) (G : GT) (b : Nat) (σ : Mem) (w : World) (hI : IRw σ w) (x : Int32) : KI l G b yX11_end cX11_end 3 2 σ [.ref (b + 131), .int x] (fun r σ' => r = (S_end w x).1 ∧ IRw σ' (S_end w x).2 ∧ ∀ k, k < 131 → σ' k = σ k) := by
  refine sg_metI [.ref (b + 131), .int x] (by decide) (Nat.le_of_ble_eq_true rfl) ?_
  intro vp ve vs vm args below meth vc ls Q hx hb hml hown hts hK hM hl hret
  have hl : lv_has ls 3 [(0, .ref (b + 131)), (1, .int x)] := hl
  obtain ⟨hR, hA, hn, hP, hJ⟩ := id hI
  have hc := RCd.of hR hA
  have hS24 := hR.2.1.1
  have hN24 := hR.2.1.2
  have hm8 := p2_le hR.1.1.2
  refine lv_iload_n hx hb dX11_end_0 rfl (lv_at hl 1 rfl) ?_
  refine lv_iconst (v := (-1)) hx hb dX11_end_1 (by decide) ?_
  refine lv_icmp_eq (tgt := 16) hx hb dX11_end_2 (by decide) (fun d1 => ?_) (fun d1 => ?_)
  · refine lv_aload_n hx hb dX11_end_16 rfl (lv_at hl 0 rfl) ?_
    refine sg_cv (sg_runV (d := 0) (As := []) (rest := []) hx hb hml hts hown hK hM (m_notes l G b σ w.1 w.2.1 w.2.2.1 hR hA hn hP) mi_X11_notes wl_X11_85 (sh18 kc_131) (kd_lt kc_131 (by decide)) rfl rfl rfl hl.1 rfl (Nat.le_of_ble_eq_true rfl) dX11_end_17 ⟨by decide, by decide⟩ ⟨Nat.le_refl 0, Nat.le_refl 0⟩) hM sgA (fun σ1 H locs hp1 hM => ?_)
    obtain ⟨⟨k1, k2⟩, k3⟩ := hp1
    have hA1 : RecF (σ1 132) w.1 := by rw [k3 132 (by decide) (by decide)]; exact hA
    refine lv_aload_n hx hb dX11_end_20 rfl (lv_at hl 0 rfl) ?_
    refine sg_get (v := .ref (b + 132)) hx hb hts hown hK hM (sh18 kc_131) (kd_lt kc_131 (by decide)) rfl inX11 0 (by decide) wf_X11_7 rfl dX11_end_21 ?_
    refine lv_iconst (v := nI 3) hx hb dX11_end_24 (by decide) ?_
    refine sg_iald hx hb hK hM (sh19 kc_132) (kd_lt kc_132 (by decide)) (i := 3) (by omega) (by decide) dX11_end_25 ?_
    refine sn_top (y := rE w.1) (hA1.1.2.2.2.1) ?_
    refine lv_istore_n (lv' := [(2, .int (rE w.1)), (0, .ref (b + 131)), (1, .int x)]) hx hb dX11_end_26 rfl hl (by decide) rfl (fun ls hl => ?_)
    refine lv_aload_n hx hb dX11_end_27 rfl (lv_at hl 1 rfl) ?_
    refine sg_get (v := .ref (b + 132)) hx hb hts hown hK hM (sh18 kc_131) (kd_lt kc_131 (by decide)) rfl inX11 0 (by decide) wf_X11_7 rfl dX11_end_28 ?_
    refine lv_iconst (v := nI 3) hx hb dX11_end_31 (by decide) ?_
    refine lv_iload_n hx hb dX11_end_32 rfl (lv_at hl 2 rfl) ?_
    refine sg_iast hx hb hK hM sgA (fun f => sh19 kc_132) (kd_lt kc_132 (by decide)) (i := 3) (by omega) (by decide) dX11_end_33 (fun H locs hM => ?_)
    refine lv_iload_n hx hb dX11_end_34 rfl (lv_at hl 0 rfl) ?_
    exact hret _ _ _ _ _ _ dX11_end_35 hM (by first | exact ⟨by rw [S_end_ok (Or.inl d1)], by rw [S_end_ok (Or.inl d1)]; exact hI.psh k1 k2 k3 (ended_ok hR (end_e hR (Or.inl d1))) (end_RecF hA1 x) (fun c q => m2_o q), fun k hk => by rw [m2_o (by omega), k3 k (by omega) (by omega)]⟩ | exact ⟨by rw [S_end_ok (Or.inr d2)], by rw [S_end_ok (Or.inr d2)]; exact hI.psh k1 k2 k3 (ended_ok hR (end_e hR (Or.inr d2))) (end_RecF hA1 x) (fun c q => m2_o q), fun k hk => by rw [m2_o (by omega), k3 k (by omega) (by omega)]⟩)
  · refine lv_aload_n hx hb dX11_end_5 rfl (lv_at hl 0 rfl) ?_
    refine lv_iload_n hx hb dX11_end_6 rfl (lv_at hl 1 rfl) ?_
    refine sg_ci (sg_runV (d := 1) (As := [.int x]) (rest := []) hx hb hml hts hown hK hM (m_isState l G b σ (rM w.1) (rG w.1) (rH w.1) x hc) mi_X11_isState wl_X11_123 (sh18 kc_131) (kd_lt kc_131 (by decide)) rfl rfl rfl hl.1 rfl (Nat.le_of_ble_eq_true rfl) dX11_end_7 ⟨by decide, by decide⟩ ⟨Nat.le_refl 0, Nat.le_refl 0⟩) hM sgA (fun r_7 σ_7 H locs hp_7 hM => ?_)
    obtain ⟨hr_7, hs_7⟩ := hp_7; subst r_7; subst σ_7
    refine sn_ifz_ne (tgt := 16) hx hb dX11_end_10 (by decide) (fun d2 => ?_) (fun d2 => ?_)
    · refine lv_aload_n hx hb dX11_end_16 rfl (lv_at hl 0 rfl) ?_
      refine sg_cv (sg_runV (d := 0) (As := []) (rest := []) hx hb hml hts hown hK hM (m_notes l G b σ w.1 w.2.1 w.2.2.1 hR hA hn hP) mi_X11_notes wl_X11_85 (sh18 kc_131) (kd_lt kc_131 (by decide)) rfl rfl rfl hl.1 rfl (Nat.le_of_ble_eq_true rfl) dX11_end_17 ⟨by decide, by decide⟩ ⟨Nat.le_refl 0, Nat.le_refl 0⟩) hM sgA (fun σ1 H locs hp1 hM => ?_)
      obtain ⟨⟨k1, k2⟩, k3⟩ := hp1
      have hA1 : RecF (σ1 132) w.1 := by rw [k3 132 (by decide) (by decide)]; exact hA
      refine lv_aload_n hx hb dX11_end_20 rfl (lv_at hl 0 rfl) ?_
      refine sg_get (v := .ref (b + 132)) hx hb hts hown hK hM (sh18 kc_131) (kd_lt kc_131 (by decide)) rfl inX11 0 (by decide) wf_X11_7 rfl dX11_end_21 ?_
      refine lv_iconst (v := nI 3) hx hb dX11_end_24 (by decide) ?_
      refine sg_iald hx hb hK hM (sh19 kc_132) (kd_lt kc_132 (by decide)) (i := 3) (by omega) (by decide) dX11_end_25 ?_
      refine sn_top (y := rE w.1) (hA1.1.2.2.2.1) ?_
      refine lv_istore_n (lv' := [(2, .int (rE w.1)), (0, .ref (b + 131)), (1, .int x)]) hx hb dX11_end_26 rfl hl (by decide) rfl (fun ls hl => ?_)
      refine lv_aload_n hx hb dX11_end_27 rfl (lv_at hl 1 rfl) ?_
      refine sg_get (v := .ref (b + 132)) hx hb hts hown hK hM (sh18 kc_131) (kd_lt kc_131 (by decide)) rfl inX11 0 (by decide) wf_X11_7 rfl dX11_end_28 ?_
      refine lv_iconst (v := nI 3) hx hb dX11_end_31 (by decide) ?_
      refine lv_iload_n hx hb dX11_end_32 rfl (lv_at hl 2 rfl) ?_
      refine sg_iast hx hb hK hM sgA (fun f => sh19 kc_132) (kd_lt kc_132 (by decide)) (i := 3) (by omega) (by decide) dX11_end_33 (fun H locs hM => ?_)
      refine lv_iload_n hx hb dX11_end_34 rfl (lv_at hl 0 rfl) ?_
      exact hret _ _ _ _ _ _ dX11_end_35 hM (by first | exact ⟨by rw [S_end_ok (Or.inl d1)], by rw [S_end_ok (Or.inl d1)]; exact hI.psh k1 k2 k3 (ended_ok hR (end_e hR (Or.inl d1))) (end_RecF hA1 x) (fun c q => m2_o q), fun k hk => by rw [m2_o (by omega), k3 k (by omega) (by omega)]⟩ | exact ⟨by rw [S_end_ok (Or.inr d2)], by rw [S_end_ok (Or.inr d2)]; exact hI.psh k1 k2 k3 (ended_ok hR (end_e hR (Or.inr d2))) (end_RecF hA1 x) (fun c q => m2_o q), fun k hk => by rw [m2_o (by omega), k3 k (by omega) (by omega)]⟩)
    · refine lv_ldc (v := (-1000000001)) hx hb hown (hts (Cond.constant RX11 127 ((-1000000001))) wk_X11_127) dX11_end_13 ?_
      exact hret _ _ _ _ _ _ dX11_end_15 hM (⟨by rw [S_end_o d1 d2], by rw [S_end_o d1 d2]; exact hI, fun _ _ => rfl⟩)
set_option maxHeartbeats 4000000 in
set_option maxRecDepth 100000 in
theorem y_undo (l : Launch) (G : GT) (b : Nat) (σ : Mem) (w : World) (hI : IRw σ w)  : KI l G b yX11_undo cX11_undo 2 1 σ [.ref (b + 131)] (fun r σ' => r = (S_undo w).1 ∧ IRw σ' (S_undo w).2 ∧ ∀ k, k < 131 → σ' k = σ k) := by
  refine sg_metI [.ref (b + 131)] (by decide) (Nat.le_of_ble_eq_true rfl) ?_
  intro vp ve vs vm args below meth vc ls Q hx hb hml hown hts hK hM hl hret
  have hl : lv_has ls 2 [(0, .ref (b + 131))] := hl
  obtain ⟨hR, hA, hn, hP, hJ⟩ := id hI
  have hc := RCd.of hR hA
  have hS24 := hR.2.1.1
  have hN24 := hR.2.1.2
  have hm8 := p2_le hR.1.1.2
  refine lv_aload_n hx hb dX11_undo_0 rfl (lv_at hl 0 rfl) ?_
  refine sg_get (v := .int (σ 131 2)) hx hb hts hown hK hM (sh18 kc_131) (kd_lt kc_131 (by decide)) rfl inX11 2 (by decide) wf_X11_80 rfl dX11_undo_1 ?_
  refine sn_top (y := nI w.2.1) (hn.1) ?_
  refine sn_if_ne (tgt := 10) hx hb dX11_undo_4 (by decide) (by have := hn.2; omega) (fun d1 => ?_) (fun d1 => ?_)
  · refine lv_aload_n hx hb dX11_undo_10 rfl (lv_at hl 0 rfl) ?_
    refine lv_dup hx hb dX11_undo_11 rfl ?_
    refine sg_get (v := .int (σ 131 2)) hx hb hts hown hK hM (sh18 kc_131) (kd_lt kc_131 (by decide)) rfl inX11 2 (by decide) wf_X11_80 rfl dX11_undo_12 ?_
    refine sn_top (y := nI w.2.1) (hn.1) ?_
    refine lv_iconst (v := nI 1) hx hb dX11_undo_15 (by decide) ?_
    refine sn_isub hx hb dX11_undo_16 (by omega) ?_
    refine sg_put (v := nI (w.2.1 - 1)) (ty := .int) hx hb hts hown hK hM sgA (sh18 kc_131) (kd_lt kc_131 (by decide)) rfl inX11 tyX11 tyX11_ok nmX11 2 (by decide) wf_X11_80 rfl (by decide +kernel) rfl rfl (Nat.le_of_ble_eq_true rfl) (by rw [sh18 kc_131]; rfl) dX11_undo_17 (fun H locs hM => ?_)
    refine lv_iconst (v := nI 0) hx hb dX11_undo_20 (by decide) ?_
    refine lv_istore_n (lv' := [(1, .int (nI 0)), (0, .ref (b + 131))]) hx hb dX11_undo_21 rfl hl (by decide) rfl (fun ls hl => ?_)
    have L22 : ∀ (fuel : Nat) (k : Nat) (σ1 : Mem), (k ≤ 102) → (∀ i, i < k → σ1 132 i = σ 133 (102 * (w.2.1 - 1) + i)) → (∀ c, c ≠ 132 → c ≠ 131 → σ1 c = σ c) → (σ1 131 2 = nI (w.2.1 - 1)) → (102 - k) < fuel → ∀ (H : Heap) (locs : List Loc) (ls : Array Slot), St G (Fr b) b σ1 vs H locs → lv_has ls 2 [(0, .ref (b + 131)), (1, .int (nI k))] → W vp l ve (RM 1) vs vm args below meth vc H locs 0 0 Q (F0 vm 22 ls []) := by
      intro fuel
      induction fuel with
      | zero => intro k σ1 hk h1 h2 h3 hF; exact absurd hF (Nat.not_lt_zero _)
      | succ fuel ih22 =>
        intro k σ1 hk h1 h2 h3 hF H locs ls hM hl
        refine lv_iload_n hx hb dX11_undo_22 rfl (lv_at hl 1 rfl) ?_
        refine lv_bipush (v := nI 102) hx hb dX11_undo_23 (by decide) ?_
        refine sn_icmp_ge (tgt := 54) hx hb dX11_undo_25 (by decide) (by omega) (by omega) (fun c_25 => ?_) (fun c_25 => ?_)
        · refine lv_aload_n hx hb dX11_undo_54 rfl (lv_at hl 0 rfl) ?_
          refine sg_get (v := .int (σ1 131 2)) hx hb hts hown hK hM (sh18 kc_131) (kd_lt kc_131 (by decide)) rfl inX11 2 (by decide) wf_X11_80 rfl dX11_undo_55 ?_
          refine sn_top (y := nI (w.2.1 - 1)) (h3) ?_
          obtain rfl : k = 102 := by omega
          have hq := hP (w.2.1 - 1) (by omega)
          exact hret _ _ _ _ _ _ dX11_undo_58 hM (⟨by rw [S_undo_ok d1], by rw [S_undo_ok d1]; exact ⟨hq.1, hq.2.cp hq.1 h1, ⟨h3, by show w.2.1 - 1 ≤ 8; have := hn.2; omega⟩, fun j hj => by have hj : j < w.2.1 - 1 := hj; show ROk _ ∧ RecF (fun i => σ1 133 _) _; rw [h2 133 (by decide) (by decide)]; exact hP j (by omega), fun i hi => by rw [h2 135 (by decide) (by decide), h2 134 (by decide) (by decide)]; exact hJ i hi⟩, fun k hk => h2 k (by omega) (by omega)⟩)
        · refine lv_aload_n hx hb dX11_undo_28 rfl (lv_at hl 0 rfl) ?_
          refine sg_get (v := .ref (b + 132)) hx hb hts hown hK hM (sh18 kc_131) (kd_lt kc_131 (by decide)) rfl inX11 0 (by decide) wf_X11_7 rfl dX11_undo_29 ?_
          refine lv_iload_n hx hb dX11_undo_32 rfl (lv_at hl 1 rfl) ?_
          refine lv_aload_n hx hb dX11_undo_33 rfl (lv_at hl 0 rfl) ?_
          refine sg_get (v := .ref (b + 133)) hx hb hts hown hK hM (sh18 kc_131) (kd_lt kc_131 (by decide)) rfl inX11 1 (by decide) wf_X11_13 rfl dX11_undo_34 ?_
          refine lv_bipush (v := nI 102) hx hb dX11_undo_37 (by decide) ?_
          refine lv_aload_n hx hb dX11_undo_39 rfl (lv_at hl 0 rfl) ?_
          refine sg_get (v := .int (σ1 131 2)) hx hb hts hown hK hM (sh18 kc_131) (kd_lt kc_131 (by decide)) rfl inX11 2 (by decide) wf_X11_80 rfl dX11_undo_40 ?_
          refine sn_top (y := nI (w.2.1 - 1)) (h3) ?_
          refine sn_imul hx hb dX11_undo_43 ?_
          refine lv_iload_n hx hb dX11_undo_44 rfl (lv_at hl 1 rfl) ?_
          refine sn_iadd hx hb dX11_undo_45 ?_
          refine sg_iald hx hb hK hM (sh20 kc_133) (kd_lt kc_133 (by decide)) (i := (102 * (w.2.1 - 1)) + k) (by have := hn.2; omega) (by decide) dX11_undo_46 ?_
          refine sg_iast hx hb hK hM sgA (fun f => sh19 kc_132) (kd_lt kc_132 (by decide)) (i := k) (by omega) (by decide) dX11_undo_47 (fun H locs hM => ?_)
          refine lv_iinc (v := nI (k + 1)) (lv' := [(1, .int (nI (k + 1))), (0, .ref (b + 131))]) hx hb dX11_undo_48 hl (k := 1) rfl (q_inc _) (by decide) rfl (fun ls hl => ?_)
          refine lv_goto (tgt := 22) hx hb dX11_undo_51 (by decide) ?_
          exact ih22 (k + 1) (m2 σ1 132 k (σ1 133 ((102 * (w.2.1 - 1)) + k))) (by omega) (fun i q => if e1 : i = k then (by subst e1; rw [m2_ss, h2 133 (by decide) (by decide)]) else (by rw [m2_sn e1]; exact h1 i (by omega))) (fun c q1 q2 => by rw [m2_o q1]; exact h2 c q1 q2) (by rw [m2_o (by decide)]; exact h3) (by omega) _ _ _ hM (lv_sub hl [1, 0] rfl)
    exact L22 (_ + 1) 0 (m2 σ 131 2 (nI (w.2.1 - 1))) (by omega) (fun i q => absurd q (by omega)) (fun c q1 q2 => m2_o q2) m2_ss (Nat.lt_succ_self _) _ _ _ hM (lv_sub hl [1, 0] rfl)
  · refine lv_ldc (v := (-1000000003)) hx hb hown (hts (Cond.constant RX11 128 ((-1000000003))) wk_X11_128) dX11_undo_7 ?_
    exact hret _ _ _ _ _ _ dX11_undo_9 hM (⟨by rw [S_undo_o d1], by rw [S_undo_o d1]; exact hI, fun _ _ => rfl⟩)
theorem rkept {σ σ1 : Mem} {w : World} (hI : IRw σ w) {i : Nat} (hi : i < 2) (h1 : ∀ j, j < 102 → σ1 134 (102 * i + j) = σ 132 j) (h2 : ∀ j, j < 102 * i ∨ 102 * (i + 1) ≤ j → σ1 134 j = σ 134 j) (h3 : ∀ c, c ≠ 134 → σ1 c = σ c) : IRw (m2 (m2 σ1 135 i (nI 1)) 131 2 (nI 0)) (w.1, 0, w.2.2.1, uR w.2.2.2.1 i w.1, uR w.2.2.2.2 i true) := by
  obtain ⟨hR, hA, hn, hP, hJ⟩ := hI
  refine ⟨hR, by rw [m2_o (by decide), m2_o (by decide), h3 132 (by decide)]; exact hA, ⟨m2_ss, Nat.zero_le _⟩, fun j q => absurd q (Nat.not_lt_zero _), fun j hj => ?_⟩
  show m2 _ _ _ _ 135 j = bz (uR w.2.2.2.2 i true j) ∧ (uR w.2.2.2.2 i true j = true → ROk (uR w.2.2.2.1 i w.1 j) ∧ RecF (fun k => m2 (m2 σ1 135 i (nI 1)) 131 2 (nI 0) 134 (102 * j + k)) (uR w.2.2.2.1 i w.1 j))
  rw [m2_o (by decide), m2_o (show 134 ≠ 131 by decide), m2_o (show 134 ≠ 135 by decide)]
  by_cases e : j = i
  · subst e
    rw [m2_ss, uR_s, uR_s]
    exact ⟨rfl, fun _ => ⟨hR, hA.cp hR (fun k hk => h1 k hk)⟩⟩
  · rw [m2_sn e, uR_n _ _ e, uR_n _ _ e, h3 135 (by decide)]
    refine ⟨(hJ j hj).1, fun q => ⟨((hJ j hj).2 q).1, ((hJ j hj).2 q).2.cp ((hJ j hj).2 q).1 (fun k hk => h2 _ (by omega))⟩⟩
theorem rwent {σ σ1 : Mem} {w : World} (hI : IRw σ w) {i : Nat} (hi : i < 2) (hk : w.2.2.2.2 i = true) (h1 : ∀ j, j < 102 → σ1 132 j = σ 134 (102 * i + j)) (h3 : ∀ c, c ≠ 132 → σ1 c = σ c) : IRw (m2 σ1 131 2 (nI 0)) (w.2.2.2.1 i, 0, w.2.2) := by
  obtain ⟨hR, hA, hn, hP, hJ⟩ := hI
  have q := (hJ i hi).2 hk
  refine ⟨q.1, by rw [m2_o (by decide)]; exact q.2.cp q.1 h1, ⟨m2_ss, Nat.zero_le _⟩, fun j q => absurd q (Nat.not_lt_zero _), fun j hj => ?_⟩
  rw [m2_o (by decide), m2_o (show 134 ≠ 131 by decide), h3 135 (by decide), h3 134 (by decide)]
  exact hJ j hj
set_option maxHeartbeats 4000000 in
set_option maxRecDepth 100000 in
theorem y_keep (l : Launch) (G : GT) (b : Nat) (σ : Mem) (w : World) (hI : IRw σ w) (x : Int32) : KI l G b yX11_keep cX11_keep 3 1 σ [.ref (b + 131), .int x] (fun r σ' => r = (S_keep w x).1 ∧ IRw σ' (S_keep w x).2 ∧ ∀ k, k < 131 → σ' k = σ k) := by
  refine sg_metI [.ref (b + 131), .int x] (by decide) (Nat.le_of_ble_eq_true rfl) ?_
  intro vp ve vs vm args below meth vc ls Q hx hb hml hown hts hK hM hl hret
  have hl : lv_has ls 3 [(0, .ref (b + 131)), (1, .int x)] := hl
  obtain ⟨hR, hA, hn, hP, hJ⟩ := id hI
  have hc := RCd.of hR hA
  have hS24 := hR.2.1.1
  have hN24 := hR.2.1.2
  have hm8 := p2_le hR.1.1.2
  refine lv_iload_n hx hb dX11_keep_0 rfl (lv_at hl 1 rfl) ?_
  refine lv_iconst (v := nI 0) hx hb dX11_keep_1 (by decide) ?_
  refine lv_iconst (v := nI 1) hx hb dX11_keep_2 (by decide) ?_
  refine sg_ci (sg_runS (d := 0) (As := [.int x, .int (nI 0), .int (nI 1)]) (rest := []) hx hb hml hts hown hK hM (m_in l G b σ x (nI 0) (nI 1)) mi_X11_in wl_X11_69 rfl hl.1 rfl (Nat.le_of_ble_eq_true rfl) dX11_keep_3 ⟨by decide, by decide⟩ ⟨Nat.le_refl 0, Nat.le_refl 0⟩) hM sgA (fun r_3 σ_3 H locs hp_3 hM => ?_)
  obtain ⟨hr_3, hs_3⟩ := hp_3; subst r_3; subst σ_3
  refine sn_ifz_ne (tgt := 12) hx hb dX11_keep_6 (by decide) (fun d1 => ?_) (fun d1 => ?_)
  · obtain ⟨i, hi, rfl⟩ := inR_nat (by decide) d1
    have hl : lv_has ls 3 [(0, .ref (b + 131)), (1, .int (nI i))] := hl
    refine lv_iconst (v := nI 0) hx hb dX11_keep_12 (by decide) ?_
    refine lv_istore_n (lv' := [(2, .int (nI 0)), (0, .ref (b + 131)), (1, .int (nI i))]) hx hb dX11_keep_13 rfl hl (by decide) rfl (fun ls hl => ?_)
    have L14 : ∀ (fuel : Nat) (k : Nat) (σ1 : Mem), (k ≤ 102) → (∀ j, j < k → σ1 134 (102 * i + j) = σ 132 j) → (∀ j, j < 102 * i ∨ 102 * (i + 1) ≤ j → σ1 134 j = σ 134 j) → (∀ c, c ≠ 134 → σ1 c = σ c) → (102 - k) < fuel → ∀ (H : Heap) (locs : List Loc) (ls : Array Slot), St G (Fr b) b σ1 vs H locs → lv_has ls 3 [(0, .ref (b + 131)), (1, .int (nI i)), (2, .int (nI k))] → W vp l ve (RM 1) vs vm args below meth vc H locs 0 0 Q (F0 vm 14 ls []) := by
      intro fuel
      induction fuel with
      | zero => intro k σ1 hk h1 h2 h3 hF; exact absurd hF (Nat.not_lt_zero _)
      | succ fuel ih14 =>
        intro k σ1 hk h1 h2 h3 hF H locs ls hM hl
        refine lv_iload_n hx hb dX11_keep_14 rfl (lv_at hl 2 rfl) ?_
        refine lv_bipush (v := nI 102) hx hb dX11_keep_15 (by decide) ?_
        refine sn_icmp_ge (tgt := 43) hx hb dX11_keep_17 (by decide) (by omega) (by omega) (fun c_17 => ?_) (fun c_17 => ?_)
        · refine lv_aload_n hx hb dX11_keep_43 rfl (lv_at hl 0 rfl) ?_
          refine sg_get (v := .ref (b + 135)) hx hb hts hown hK hM (sh18 kc_131) (kd_lt kc_131 (by decide)) rfl inX11 4 (by decide) wf_X11_19 rfl dX11_keep_44 ?_
          refine lv_iload_n hx hb dX11_keep_47 rfl (lv_at hl 1 rfl) ?_
          refine lv_iconst (v := nI 1) hx hb dX11_keep_48 (by decide) ?_
          refine sg_zast hx hb hK hM sgA (fun f => sh9 kc_135) (kd_lt kc_135 (by decide)) (i := i) (rfl) (by omega) (by decide) dX11_keep_49 (fun H locs hM => ?_)
          refine lv_aload_n hx hb dX11_keep_50 rfl (lv_at hl 0 rfl) ?_
          refine lv_iconst (v := nI 0) hx hb dX11_keep_51 (by decide) ?_
          refine sg_put (v := nI 0) (ty := .int) hx hb hts hown hK hM sgA (sh18 kc_131) (kd_lt kc_131 (by decide)) rfl inX11 tyX11 tyX11_ok nmX11 2 (by decide) wf_X11_80 rfl (by decide +kernel) rfl rfl (Nat.le_of_ble_eq_true rfl) (by rw [sh18 kc_131]; rfl) dX11_keep_52 (fun H locs hM => ?_)
          refine lv_aload_n hx hb dX11_keep_55 rfl (lv_at hl 0 rfl) ?_
          refine sg_get (v := .ref (b + 132)) hx hb hts hown hK hM (sh18 kc_131) (kd_lt kc_131 (by decide)) rfl inX11 0 (by decide) wf_X11_7 rfl dX11_keep_56 ?_
          refine lv_iconst (v := nI 5) hx hb dX11_keep_59 (by decide) ?_
          refine sg_iald hx hb hK hM (sh19 kc_132) (kd_lt kc_132 (by decide)) (i := 5) (by omega) (by decide) dX11_keep_60 ?_
          refine sn_top (y := nI (rN w.1)) (by rw [m2_o (by decide), m2_o (by decide), h3 132 (by decide)]; exact hA.1.2.2.2.2.2) ?_
          obtain rfl : k = 102 := by omega
          exact hret _ _ _ _ _ _ dX11_keep_61 hM (⟨by rw [S_keep_ok (by omega)], by rw [S_keep_ok (by omega)]; exact rkept hI (by omega) h1 h2 h3, fun k hk => by rw [m2_o (by omega), m2_o (by omega), h3 k (by omega)]⟩)
        · refine lv_aload_n hx hb dX11_keep_20 rfl (lv_at hl 0 rfl) ?_
          refine sg_get (v := .ref (b + 134)) hx hb hts hown hK hM (sh18 kc_131) (kd_lt kc_131 (by decide)) rfl inX11 3 (by decide) wf_X11_16 rfl dX11_keep_21 ?_
          refine lv_bipush (v := nI 102) hx hb dX11_keep_24 (by decide) ?_
          refine lv_iload_n hx hb dX11_keep_26 rfl (lv_at hl 1 rfl) ?_
          refine sn_imul hx hb dX11_keep_27 ?_
          refine lv_iload_n hx hb dX11_keep_28 rfl (lv_at hl 2 rfl) ?_
          refine sn_iadd hx hb dX11_keep_29 ?_
          refine lv_aload_n hx hb dX11_keep_30 rfl (lv_at hl 0 rfl) ?_
          refine sg_get (v := .ref (b + 132)) hx hb hts hown hK hM (sh18 kc_131) (kd_lt kc_131 (by decide)) rfl inX11 0 (by decide) wf_X11_7 rfl dX11_keep_31 ?_
          refine lv_iload_n hx hb dX11_keep_34 rfl (lv_at hl 2 rfl) ?_
          refine sg_iald hx hb hK hM (sh19 kc_132) (kd_lt kc_132 (by decide)) (i := k) (by omega) (by decide) dX11_keep_35 ?_
          refine sg_iast hx hb hK hM sgA (fun f => sh21 kc_134) (kd_lt kc_134 (by decide)) (i := (102 * i) + k) (by omega) (by decide) dX11_keep_36 (fun H locs hM => ?_)
          refine lv_iinc (v := nI (k + 1)) (lv' := [(2, .int (nI (k + 1))), (0, .ref (b + 131)), (1, .int (nI i))]) hx hb dX11_keep_37 hl (k := 2) rfl (q_inc _) (by decide) rfl (fun ls hl => ?_)
          refine lv_goto (tgt := 14) hx hb dX11_keep_40 (by decide) ?_
          exact ih14 (k + 1) (m2 σ1 134 ((102 * i) + k) (σ1 132 k)) (by omega) (fun j q => if e1 : j = k then (by subst e1; rw [m2_ss, h3 132 (by decide)]) else (by rw [m2_sn (by omega)]; exact h1 j (by omega))) (fun j q => by rw [m2_sn (by omega)]; exact h2 j q) (fun c q => by rw [m2_o q]; exact h3 c q) (by omega) _ _ _ hM (lv_sub hl [1, 2, 0] rfl)
    exact L14 (_ + 1) 0 σ (by omega) (fun i q => absurd q (by omega)) (fun _ _ => rfl) (fun _ _ => rfl) (Nat.lt_succ_self _) _ _ _ hM (lv_sub hl [1, 2, 0] rfl)
  · refine lv_ldc (v := (-1000000001)) hx hb hown (hts (Cond.constant RX11 127 ((-1000000001))) wk_X11_127) dX11_keep_9 ?_
    exact hret _ _ _ _ _ _ dX11_keep_11 hM (⟨by rw [S_keep_o d1], by rw [S_keep_o d1]; exact hI, fun _ _ => rfl⟩)
set_option maxHeartbeats 4000000 in
set_option maxRecDepth 100000 in
theorem y_goBack (l : Launch) (G : GT) (b : Nat) (σ : Mem) (w : World) (hI : IRw σ w) (x : Int32) : KI l G b yX11_goBack cX11_goBack 3 1 σ [.ref (b + 131), .int x] (fun r σ' => r = (S_goBack w x).1 ∧ IRw σ' (S_goBack w x).2 ∧ ∀ k, k < 131 → σ' k = σ k) := by
  refine sg_metI [.ref (b + 131), .int x] (by decide) (Nat.le_of_ble_eq_true rfl) ?_
  intro vp ve vs vm args below meth vc ls Q hx hb hml hown hts hK hM hl hret
  have hl : lv_has ls 3 [(0, .ref (b + 131)), (1, .int x)] := hl
  obtain ⟨hR, hA, hn, hP, hJ⟩ := id hI
  have hc := RCd.of hR hA
  have hS24 := hR.2.1.1
  have hN24 := hR.2.1.2
  have hm8 := p2_le hR.1.1.2
  refine lv_iload_n hx hb dX11_goBack_0 rfl (lv_at hl 1 rfl) ?_
  refine lv_iconst (v := nI 0) hx hb dX11_goBack_1 (by decide) ?_
  refine lv_iconst (v := nI 1) hx hb dX11_goBack_2 (by decide) ?_
  refine sg_ci (sg_runS (d := 0) (As := [.int x, .int (nI 0), .int (nI 1)]) (rest := []) hx hb hml hts hown hK hM (m_in l G b σ x (nI 0) (nI 1)) mi_X11_in wl_X11_69 rfl hl.1 rfl (Nat.le_of_ble_eq_true rfl) dX11_goBack_3 ⟨by decide, by decide⟩ ⟨Nat.le_refl 0, Nat.le_refl 0⟩) hM sgA (fun r_3 σ_3 H locs hp_3 hM => ?_)
  obtain ⟨hr_3, hs_3⟩ := hp_3; subst r_3; subst σ_3
  refine sn_ifz_ne (tgt := 12) hx hb dX11_goBack_6 (by decide) (fun d1 => ?_) (fun d1 => ?_)
  · obtain ⟨i, hi, rfl⟩ := inR_nat (by decide) d1
    have hl : lv_has ls 3 [(0, .ref (b + 131)), (1, .int (nI i))] := hl
    refine lv_aload_n hx hb dX11_goBack_12 rfl (lv_at hl 0 rfl) ?_
    refine sg_get (v := .ref (b + 135)) hx hb hts hown hK hM (sh18 kc_131) (kd_lt kc_131 (by decide)) rfl inX11 4 (by decide) wf_X11_19 rfl dX11_goBack_13 ?_
    refine lv_iload_n hx hb dX11_goBack_16 rfl (lv_at hl 1 rfl) ?_
    refine sg_zald hx hb hK hM (sh9 kc_135) (kd_lt kc_135 (by decide)) (i := i) (by omega) (by decide) dX11_goBack_17 ?_
    refine sn_top (y := bz (w.2.2.2.2 i)) ((hJ i (by omega)).1) ?_
    refine sn_ifz_ne (tgt := 24) hx hb dX11_goBack_18 (by decide) (fun d2 => ?_) (fun d2 => ?_)
    · have hq := (hJ i (by omega)).2 d2
      refine lv_iconst (v := nI 0) hx hb dX11_goBack_24 (by decide) ?_
      refine lv_istore_n (lv' := [(2, .int (nI 0)), (0, .ref (b + 131)), (1, .int (nI i))]) hx hb dX11_goBack_25 rfl hl (by decide) rfl (fun ls hl => ?_)
      have L26 : ∀ (fuel : Nat) (k : Nat) (σ1 : Mem), (k ≤ 102) → (∀ j, j < k → σ1 132 j = σ 134 (102 * i + j)) → (∀ c, c ≠ 132 → σ1 c = σ c) → (102 - k) < fuel → ∀ (H : Heap) (locs : List Loc) (ls : Array Slot), St G (Fr b) b σ1 vs H locs → lv_has ls 3 [(0, .ref (b + 131)), (1, .int (nI i)), (2, .int (nI k))] → W vp l ve (RM 1) vs vm args below meth vc H locs 0 0 Q (F0 vm 26 ls []) := by
        intro fuel
        induction fuel with
        | zero => intro k σ1 hk h1 h3 hF; exact absurd hF (Nat.not_lt_zero _)
        | succ fuel ih26 =>
          intro k σ1 hk h1 h3 hF H locs ls hM hl
          refine lv_iload_n hx hb dX11_goBack_26 rfl (lv_at hl 2 rfl) ?_
          refine lv_bipush (v := nI 102) hx hb dX11_goBack_27 (by decide) ?_
          refine sn_icmp_ge (tgt := 55) hx hb dX11_goBack_29 (by decide) (by omega) (by omega) (fun c_29 => ?_) (fun c_29 => ?_)
          · obtain rfl : k = 102 := by omega
            have hl : lv_has ls 3 [(0, .ref (b + 131)), (1, .int (nI i)), (2, .int (nI 102))] := hl
            refine lv_aload_n hx hb dX11_goBack_55 rfl (lv_at hl 0 rfl) ?_
            refine lv_iconst (v := nI 0) hx hb dX11_goBack_56 (by decide) ?_
            refine sg_put (v := nI 0) (ty := .int) hx hb hts hown hK hM sgA (sh18 kc_131) (kd_lt kc_131 (by decide)) rfl inX11 tyX11 tyX11_ok nmX11 2 (by decide) wf_X11_80 rfl (by decide +kernel) rfl rfl (Nat.le_of_ble_eq_true rfl) (by rw [sh18 kc_131]; rfl) dX11_goBack_57 (fun H locs hM => ?_)
            refine lv_aload_n hx hb dX11_goBack_60 rfl (lv_at hl 0 rfl) ?_
            refine sg_get (v := .ref (b + 132)) hx hb hts hown hK hM (sh18 kc_131) (kd_lt kc_131 (by decide)) rfl inX11 0 (by decide) wf_X11_7 rfl dX11_goBack_61 ?_
            refine lv_iconst (v := nI 5) hx hb dX11_goBack_64 (by decide) ?_
            refine sg_iald hx hb hK hM (sh19 kc_132) (kd_lt kc_132 (by decide)) (i := 5) (by omega) (by decide) dX11_goBack_65 ?_
            refine sn_top (y := nI (rN (w.2.2.2.1 i))) (by rw [m2_o (by decide)]; exact (hq.2.cp hq.1 h1).1.2.2.2.2.2) ?_
            exact hret _ _ _ _ _ _ dX11_goBack_66 hM (⟨by rw [S_goBack_ok (by omega) d2], by rw [S_goBack_ok (by omega) d2]; exact rwent hI (by omega) d2 h1 h3, fun k hk => by rw [m2_o (by omega), h3 k (by omega)]⟩)
          · refine lv_aload_n hx hb dX11_goBack_32 rfl (lv_at hl 0 rfl) ?_
            refine sg_get (v := .ref (b + 132)) hx hb hts hown hK hM (sh18 kc_131) (kd_lt kc_131 (by decide)) rfl inX11 0 (by decide) wf_X11_7 rfl dX11_goBack_33 ?_
            refine lv_iload_n hx hb dX11_goBack_36 rfl (lv_at hl 2 rfl) ?_
            refine lv_aload_n hx hb dX11_goBack_37 rfl (lv_at hl 0 rfl) ?_
            refine sg_get (v := .ref (b + 134)) hx hb hts hown hK hM (sh18 kc_131) (kd_lt kc_131 (by decide)) rfl inX11 3 (by decide) wf_X11_16 rfl dX11_goBack_38 ?_
            refine lv_bipush (v := nI 102) hx hb dX11_goBack_41 (by decide) ?_
            refine lv_iload_n hx hb dX11_goBack_43 rfl (lv_at hl 1 rfl) ?_
            refine sn_imul hx hb dX11_goBack_44 ?_
            refine lv_iload_n hx hb dX11_goBack_45 rfl (lv_at hl 2 rfl) ?_
            refine sn_iadd hx hb dX11_goBack_46 ?_
            refine sg_iald hx hb hK hM (sh21 kc_134) (kd_lt kc_134 (by decide)) (i := (102 * i) + k) (by omega) (by decide) dX11_goBack_47 ?_
            refine sg_iast hx hb hK hM sgA (fun f => sh19 kc_132) (kd_lt kc_132 (by decide)) (i := k) (by omega) (by decide) dX11_goBack_48 (fun H locs hM => ?_)
            refine lv_iinc (v := nI (k + 1)) (lv' := [(2, .int (nI (k + 1))), (0, .ref (b + 131)), (1, .int (nI i))]) hx hb dX11_goBack_49 hl (k := 2) rfl (q_inc _) (by decide) rfl (fun ls hl => ?_)
            refine lv_goto (tgt := 26) hx hb dX11_goBack_52 (by decide) ?_
            exact ih26 (k + 1) (m2 σ1 132 k (σ1 134 ((102 * i) + k))) (by omega) (fun j q => if e1 : j = k then (by subst e1; rw [m2_ss, h3 134 (by decide)]) else (by rw [m2_sn e1]; exact h1 j (by omega))) (fun c q => by rw [m2_o q]; exact h3 c q) (by omega) _ _ _ hM (lv_sub hl [1, 2, 0] rfl)
      exact L26 (_ + 1) 0 σ (by omega) (fun i q => absurd q (by omega)) (fun _ _ => rfl) (Nat.lt_succ_self _) _ _ _ hM (lv_sub hl [1, 2, 0] rfl)
    · refine lv_ldc (v := (-1000000003)) hx hb hown (hts (Cond.constant RX11 128 ((-1000000003))) wk_X11_128) dX11_goBack_21 ?_
      exact hret _ _ _ _ _ _ dX11_goBack_23 hM (⟨by rw [S_goBack_n (by omega) d2], by rw [S_goBack_n (by omega) d2]; exact hI, fun _ _ => rfl⟩)
  · refine lv_ldc (v := (-1000000001)) hx hb hown (hts (Cond.constant RX11 127 ((-1000000001))) wk_X11_127) dX11_goBack_9 ?_
    exact hret _ _ _ _ _ _ dX11_goBack_11 hM (⟨by rw [S_goBack_o d1], by rw [S_goBack_o d1]; exact hI, fun _ _ => rfl⟩)

/-! THE CLASS'S LOTS, cell 115 (its long number fits 32 bits at all times), and its drift -/
theorem gg_met {l : Launch} {y : MethodName} {bytes : ByteArray} {maxL : Nat} {ret : Option FieldType} {rm : Room} {mc ms : Nat} {free : Nat → Prop} {Qc : Array Value → State → Outcome → State → Prop} {B0 : State → Prop} (av : List Value) (hy : plainName y.cls = true) (hlen : (lg_sl av).length ≤ maxL)
    (body : ∀ (p : Program) (e : Env) (s : State) (m : MethodId) (below : List Frame) (meth : Method) (c : Code) (ls : Array Slot), p.tables.exec = Jvm.exec → c.code = bytes → meth.sig.returnType = ret → meth.locks = false → meth.name = y.name → c.maxLocals = maxL → s.vm.findClass y.cls = some m.cls → (∀ w ∈ TB, w.before av.toArray s = true) → B0 s → lv_has ls maxL (lv_args 0 av) →
      W p l e rm s m av.toArray below meth c s.heap [] 0 0 (MQ below Qc av.toArray s mc ms free) (F0 m 0 ls [])) : Met l y (Cond.code y bytes maxL ret :: TB) rm (va_Pc av B0) Qc mc ms free := by
  refine Met.ofW (cc := bytes) (maxL := maxL) (ret := ret) hy rfl ?_
  intro p e s m args below meth c s₁ B hml hv
  obtain ⟨rfl, hB0⟩ := hv
  have hts := atoms_spec (ws := Cond.code y bytes maxL ret :: TB) B.pre
  have hl := lv_entry av (n := maxL) hlen
  rw [lg_entry_eq]
  exact body p e s m below meth c _ B.exec B.bytes B.returns B.notSynchronized (name_of_methodNamed B.named B.method).1 hml (findClass_of_methodNamed B.named) (fun w h => hts w (List.mem_cons_of_mem _ h)) hB0 hl
def Fb (b : Nat) : Nat → Prop := fun z => b ≤ z
theorem sgB {b : Nat} : ∀ q, Fr b q → Fb b q := fun _ h => h.1
theorem lN_ne0 {n : Nat} (h0 : 0 < n) (h : n < 2 ^ 31) : ¬ lN n = 0 := fun q => by
  have h2 := (pk_lEQ (a := n) (b := 0) (by omega) (by decide)).mp q
  omega
set_option maxHeartbeats 4000000 in
set_option maxRecDepth 100000 in
theorem c_Lo_begin (l : Launch) (G : GT) (b : Nat) (σ : Mem) (x : Nat) : KV l G b yX2_begin cX2_begin 2 0 σ [.ref (b + 115), .int (nI x)] (fun σ' => σ' = m2 σ 115 0 (nI x)) := by
  refine sg_metV [.ref (b + 115), .int (nI x)] (by decide) (Nat.le_of_ble_eq_true rfl) ?_
  intro vp ve vs vm args below meth vc ls Q hx hb hml hown hts hK hM hl hret
  have hl : lv_has ls 2 [(0, .ref (b + 115)), (1, .int (nI x))] := hl
  refine lv_aload_n hx hb dX2_begin_0 rfl (lv_at hl 0 rfl) ?_
  refine lv_iload_n hx hb dX2_begin_1 rfl (lv_at hl 1 rfl) ?_
  refine lv_i2l hx hb dX2_begin_2 rfl ?_
  refine sg_putJ (ty := .long) hx hb hts hown hK hM sgA (sh24 kc_115) (kd_lt kc_115 (by decide)) rfl inX2 tyX2 tyX2_ok nmX2 0 (by decide) wf_X2_7 rfl (.long ((nI x).toInt64)) (nI x) (by decide +kernel) rfl rfl (Nat.le_of_ble_eq_true rfl) (by rw [sh24 kc_115]; rfl) dX2_begin_3 (fun H locs hM => ?_)
  exact hret _ _ _ _ _ dX2_begin_6 hM (rfl)
set_option maxHeartbeats 4000000 in
set_option maxRecDepth 100000 in
theorem c_Lo_draw (l : Launch) (G : GT) (b : Nat) (σ : Mem) (a kn : Nat) (h0 : σ 115 0 = nI a) (ha : a < 2147483647) (hk0 : 1 ≤ kn) (hk1 : kn < 2 ^ 31) : KI l G b yX2_draw cX2_draw 2 0 σ [.ref (b + 115), .int (nI kn)] (fun r σ' => r = nI (lt1 a % kn) ∧ σ' = m2 σ 115 0 (nI (lt1 a))) := by
  refine sg_metI [.ref (b + 115), .int (nI kn)] (by decide) (Nat.le_of_ble_eq_true rfl) ?_
  intro vp ve vs vm args below meth vc ls Q hx hb hml hown hts hK hM hl hret
  have hl : lv_has ls 2 [(0, .ref (b + 115)), (1, .int (nI kn))] := hl
  refine lv_aload_n hx hb dX2_draw_0 rfl (lv_at hl 0 rfl) ?_
  refine lv_aload_n hx hb dX2_draw_1 rfl (lv_at hl 0 rfl) ?_
  refine sg_get (v := .long ((σ 115 0).toInt64)) hx hb hts hown hK hM (sh24 kc_115) (kd_lt kc_115 (by decide)) rfl inX2 0 (by decide) wf_X2_7 rfl dX2_draw_2 ?_
  refine sn_topl (y := lN a) (by rw [h0]; exact nI_l (by omega)) ?_
  refine lv_ldc2 (v := 16807) hx hb hown (hts _ wkl_X2_13) dX2_draw_5 ?_
  refine lv_lmul hx hb dX2_draw_8 ?_
  refine sn_topl (y := lN (a * 16807)) (lN_mul a 16807) ?_
  refine lv_ldc2 (v := 2147483647) hx hb hown (hts _ wkl_X2_15) dX2_draw_9 ?_
  refine lv_lrem hx hb dX2_draw_12 (by decide) ?_
  refine sn_topl (y := (nI (lt1 a)).toInt64) (Eq.trans (b := lN (lt1 a)) (pk_lRem (by omega) (by decide) (by decide)) (nI_l (Nat.lt_of_lt_of_le (lt1_lt a) (by decide))).symm) ?_
  refine sg_putJ (ty := .long) hx hb hts hown hK hM sgA (sh24 kc_115) (kd_lt kc_115 (by decide)) rfl inX2 tyX2 tyX2_ok nmX2 0 (by decide) wf_X2_7 rfl (.long ((nI (lt1 a)).toInt64)) (nI (lt1 a)) (by decide +kernel) rfl rfl (Nat.le_of_ble_eq_true rfl) (by rw [sh24 kc_115]; rfl) dX2_draw_13 (fun H locs hM => ?_)
  refine lv_iload_n hx hb dX2_draw_16 rfl (lv_at hl 1 rfl) ?_
  refine lv_iconst (v := nI 1) hx hb dX2_draw_17 (by decide) ?_
  refine sn_icmp_ge (tgt := 25) hx hb dX2_draw_18 (by decide) (by omega) (by omega) (fun c_18 => ?_) (fun c_18 => ?_)
  · refine lv_aload_n hx hb dX2_draw_25 rfl (lv_at hl 0 rfl) ?_
    refine sg_get (v := .long (((m2 σ 115 0 (nI (lt1 a))) 115 0).toInt64)) hx hb hts hown hK hM (sh24 kc_115) (kd_lt kc_115 (by decide)) rfl inX2 0 (by decide) wf_X2_7 rfl dX2_draw_26 ?_
    refine sn_topl (y := lN (lt1 a)) (by rw [m2_ss]; exact nI_l (Nat.lt_of_lt_of_le (lt1_lt a) (by decide))) ?_
    refine lv_iload_n hx hb dX2_draw_29 rfl (lv_at hl 1 rfl) ?_
    refine lv_i2l hx hb dX2_draw_30 rfl ?_
    refine sn_topl (y := lN kn) (nI_l hk1) ?_
    refine lv_lrem hx hb dX2_draw_31 (lN_ne0 hk0 hk1) ?_
    refine sn_topl (y := lN (lt1 a % kn)) (pk_lRem (Nat.lt_of_lt_of_le (lt1_lt _) (by decide)) hk0 (by omega)) ?_
    refine lv_l2i hx hb dX2_draw_32 rfl ?_
    refine sn_top (y := nI (lt1 a % kn)) (lN_i _) ?_
    exact hret _ _ _ _ _ _ dX2_draw_33 hM (⟨rfl, rfl⟩)
  · exact absurd c_18 (by omega)
set_option maxHeartbeats 4000000 in
set_option maxRecDepth 100000 in
theorem x_drift (l : Launch) (G : GT) (b : Nat) (σ : Mem) (w : World) (hI : ICw σ w) (x y : Int32) : KI l G b yX10_drift cX10_drift 9 4 σ [.ref (b + 0), .int x, .int y] (fun r σ' => r = (S_drift w x y).1 ∧ ICw σ' (S_drift w x y).2 ∧ ∀ k, 131 ≤ k → σ' k = σ k) := by
  refine sg_metI [.ref (b + 0), .int x, .int y] (by decide) (Nat.le_of_ble_eq_true rfl) ?_
  intro vp ve vs vm args below meth vc ls Q hx hb hml hown hts hK hM hl hret
  have hl : lv_has ls 9 [(0, .ref (b + 0)), (1, .int x), (2, .int y)] := hl
  obtain ⟨hR, hA, ⟨o, hPI⟩, hJ⟩ := id hI
  have hc : CodeAt σ 2 (rM w.1) (rG w.1) (rH w.1) := hA.1
  have h3 : σ 3 0 = nI (rS w.1) := hA.2.2.1
  have h8 : σ 8 0 = nI (rN w.1) := hA.2.2.2.2.1
  have hE : σ 1 3 = rE w.1 := hA.2.1
  have hS24 := hR.2.1.1
  have hN24 := hR.2.1.2
  have hm8 := p2_le hR.1.1.2
  refine lv_iload_n hx hb dX10_drift_0 rfl (lv_at hl 1 rfl) ?_
  refine lv_iconst (v := nI 1) hx hb dX10_drift_1 (by decide) ?_
  refine lv_bipush (v := nI 24) hx hb dX10_drift_2 (by decide) ?_
  refine sg_ci (sg_runS (d := 0) (As := [.int x, .int (nI 1), .int (nI 24)]) (rest := []) hx hb hml hts hown hK hM (c_isOutside l G b σ x (nI 1) (nI 24)) mi_X10_isOutside wl_X10_60 rfl hl.1 rfl (Nat.le_of_ble_eq_true rfl) dX10_drift_4 ⟨by decide, by decide⟩ ⟨Nat.le_refl 0, Nat.le_refl 0⟩) hM sgA (fun r_4 σ_4 H locs hp_4 hM => ?_)
  obtain ⟨hr_4, hs_4⟩ := hp_4; subst r_4; subst σ_4
  refine sn_ifz_ne (tgt := 20) hx hb dX10_drift_7 (by decide) (fun dq1 => ?_) (fun dq1 => ?_)
  · refine lv_ldc (v := (-1000000002)) hx hb hown (hts (Cond.constant RX10 59 ((-1000000002))) wk_X10_59) dX10_drift_20 ?_
    exact hret _ _ _ _ _ _ dX10_drift_22 hM (⟨by rw [S_drift_o1 (not_t dq1)], by rw [S_drift_o1 (not_t dq1)]; exact hI, fun _ _ => rfl⟩)
  · obtain ⟨k1, hka, hkb, rfl⟩ := inR_nat1 (by decide) (not_f dq1)
    have hl : lv_has ls 9 [(0, .ref (b + 0)), (1, .int (nI k1)), (2, .int y)] := hl
    refine lv_iload_n hx hb dX10_drift_10 rfl (lv_at hl 2 rfl) ?_
    refine lv_iconst (v := nI 1) hx hb dX10_drift_11 (by decide) ?_
    refine lv_ldc (v := nI 999999) hx hb hown (hts (Cond.constant RX10 117 (nI 999999)) wk_X10_117) dX10_drift_12 ?_
    refine sg_ci (sg_runS (d := 0) (As := [.int y, .int (nI 1), .int (nI 999999)]) (rest := []) hx hb hml hts hown hK hM (c_isOutside l G b σ y (nI 1) (nI 999999)) mi_X10_isOutside wl_X10_60 rfl hl.1 rfl (Nat.le_of_ble_eq_true rfl) dX10_drift_14 ⟨by decide, by decide⟩ ⟨Nat.le_refl 0, Nat.le_refl 0⟩) hM sgA (fun r_14 σ_14 H locs hp_14 hM => ?_)
    obtain ⟨hr_14, hs_14⟩ := hp_14; subst r_14; subst σ_14
    refine sn_ifz_eq (tgt := 23) hx hb dX10_drift_17 (by decide) (fun dq2 => ?_) (fun dq2 => ?_)
    · obtain ⟨x1, hxa, hxb, rfl⟩ := inR_nat1 (by decide) (not_f dq2)
      have hl : lv_has ls 9 [(0, .ref (b + 0)), (1, .int (nI k1)), (2, .int (nI x1))] := hl
      refine lv_aload_n hx hb dX10_drift_23 rfl (lv_at hl 0 rfl) ?_
      refine sg_get (v := .ref (b + 11)) hx hb hts hown hK hM (sh0 kc_0) (kd_lt kc_0 (by decide)) rfl inX10 1 (by decide) wf_X10_19 rfl dX10_drift_24 ?_
      refine lv_aload_n hx hb dX10_drift_27 rfl (lv_at hl 0 rfl) ?_
      refine sg_get (v := .ref (b + 1)) hx hb hts hown hK hM (sh0 kc_0) (kd_lt kc_0 (by decide)) rfl inX10 0 (by decide) wf_X10_10 rfl dX10_drift_28 ?_
      refine sg_cv (sg_runV (d := 3) (As := [.ref (b + 1)]) (rest := []) hx hb hml hts hown hK hM (c_Past_push l G b σ w.1 w.2.1 o w.2.2.1 hPI hA hR) mi_X5_push wl_X10_64 (sh6 kc_11) (kd_lt kc_11 (by decide)) rfl rfl rfl hl.1 rfl (Nat.le_of_ble_eq_true rfl) dX10_drift_31 ⟨by decide, by decide⟩ ⟨Nat.le_refl 0, Nat.le_refl 0⟩) hM sgA (fun σ1 H locs hp1 hM => ?_)
      obtain ⟨⟨o', hPI1⟩, hq1⟩ := hp1
      have hI1 : IC σ1 w.1 (phN w.2.1) (phP w.2.1 w.2.2.1 w.1) w.2.2.2.1 w.2.2.2.2 := IC.pushed hI hPI1 hq1
      have hA1 : CM σ1 1 w.1 := hI1.2.1
      refine lv_aload_n hx hb dX10_drift_34 rfl (lv_at hl 0 rfl) ?_
      refine sg_get (v := .ref (b + 115)) hx hb hts hown hK hM (sh0 kc_0) (kd_lt kc_0 (by decide)) rfl inX10 4 (by decide) wf_X10_34 rfl dX10_drift_35 ?_
      refine lv_iload_n hx hb dX10_drift_38 rfl (lv_at hl 2 rfl) ?_
      refine sg_cv (sg_runV (d := 0) (As := [.int (nI x1)]) (rest := []) hx hb hml hts hown hK hM (c_Lo_begin l G b σ1 x1) mi_X2_begin wl_X10_118 (sh24 kc_115) (kd_lt kc_115 (by decide)) rfl rfl rfl hl.1 rfl (Nat.le_of_ble_eq_true rfl) dX10_drift_39 ⟨by decide, by decide⟩ ⟨Nat.le_refl 0, Nat.le_refl 0⟩) hM sgA (fun σ9 H locs hs9 hM => ?_)
      have hv9 : σ9 115 0 = nI x1 := by rw [hs9]; exact m2_ss
      have hf9 : ∀ c, c ≠ 115 → σ9 c = σ1 c := fun c z => by rw [hs9]; exact m2_o z
      have hC9 : CM σ9 1 w.1 := hA1.keep (fun k _ _ => hf9 k (by omega))
      refine lv_iconst (v := nI 0) hx hb dX10_drift_42 (by decide) ?_
      refine lv_istore_n (lv' := [(3, .int (nI 0)), (0, .ref (b + 0)), (1, .int (nI k1)), (2, .int (nI x1))]) hx hb dX10_drift_43 rfl hl (by decide) rfl (fun ls hl => ?_)
      have L44 : ∀ (fuel : Nat) (d1 : Nat) (σ2 : Mem) (B1 : Rec) (a1 : Nat), (d1 ≤ k1) → (a1 < 2147483647) → (σ2 115 0 = nI a1) → (ROk B1) → (CM σ2 1 B1) → (dr k1 w.1 x1 = (d1 + (dr (k1 - d1) B1 a1).1, (dr (k1 - d1) B1 a1).2)) → (∀ c, 11 ≤ c → c ≠ 115 → σ2 c = σ1 c) → (25 - d1) < fuel → ∀ (H : Heap) (locs : List Loc) (ls : Array Slot), St G (Fr b) b σ2 vs H locs → lv_has ls 9 [(0, .ref (b + 0)), (1, .int (nI k1)), (2, .int (nI x1)), (3, .int (nI d1))] → W vp l ve (RM 4) vs vm args below meth vc H locs 0 0 Q (F0 vm 44 ls []) := by
        intro fuel
        induction fuel with
        | zero => intro d1 σ2 B1 a1 hd1 ha1 hv2 hB hC hdr hfr hF; exact absurd hF (Nat.not_lt_zero _)
        | succ fuel ih44 =>
          intro d1 σ2 B1 a1 hd1 ha1 hv2 hB hC hdr hfr hF H locs ls hM hl
          refine lv_iload_n hx hb dX10_drift_44 rfl (lv_at hl 3 rfl) ?_
          refine lv_iload_n hx hb dX10_drift_45 rfl (lv_at hl 1 rfl) ?_
          refine sn_icmp_ge (tgt := 178) hx hb dX10_drift_46 (by decide) (by omega) (by omega) (fun dd => ?_) (fun dd => ?_)
          · refine lv_iload_n hx hb dX10_drift_178 rfl (lv_at hl 3 rfl) ?_
            have hde := dr_end hdr (by omega)
            exact hret _ _ _ _ _ _ dX10_drift_179 hM (⟨by rw [S_drift_ok ⟨hka, hkb⟩ ⟨hxa, hxb⟩, hde], by rw [S_drift_ok ⟨hka, hkb⟩ ⟨hxa, hxb⟩, hde]; exact IC.nowed hI1 hB hC (fun k hk1 hk2 => hfr k hk1 (by omega)), fun k hk => by rw [hfr k (by omega) (by omega), hq1 k (by omega)]⟩)
          · refine lv_aload_n hx hb dX10_drift_49 rfl (lv_at hl 0 rfl) ?_
            refine sg_get (v := .ref (b + 1)) hx hb hts hown hK hM (sh0 kc_0) (kd_lt kc_0 (by decide)) rfl inX10 0 (by decide) wf_X10_10 rfl dX10_drift_50 ?_
            refine sg_get (v := .ref (b + 3)) hx hb hts hown hK hM (sh1 kc_1) (kd_lt kc_1 (by decide)) rfl inX3 1 (by decide) wf_X10_89 rfl dX10_drift_53 ?_
            refine sg_ci (sg_runV (d := 0) (As := []) (rest := []) hx hb hml hts hown hK hM (c_Row_isFull l G b σ2 3 (rS B1) kc_3 hC.2.2.1 hB.2.1.1) mi_X7_isFull wl_X10_93 (sh3 kc_3) (kd_lt kc_3 (by decide)) rfl rfl rfl hl.1 rfl (Nat.le_of_ble_eq_true rfl) dX10_drift_56 ⟨by decide, by decide⟩ ⟨Nat.le_refl 0, Nat.le_refl 0⟩) hM sgA (fun r_56 σ_56 H locs hp_56 hM => ?_)
            obtain ⟨hr_56, hs_56⟩ := hp_56; subst r_56; subst σ_56
            refine sn_ifz_ne (tgt := 178) hx hb dX10_drift_59 (by decide) (fun ds => ?_) (fun ds => ?_)
            · have ds := of_decide_eq_true ds
              refine lv_iload_n hx hb dX10_drift_178 rfl (lv_at hl 3 rfl) ?_
              have hde := dr_end hdr (by omega)
              exact hret _ _ _ _ _ _ dX10_drift_179 hM (⟨by rw [S_drift_ok ⟨hka, hkb⟩ ⟨hxa, hxb⟩, hde], by rw [S_drift_ok ⟨hka, hkb⟩ ⟨hxa, hxb⟩, hde]; exact IC.nowed hI1 hB hC (fun k hk1 hk2 => hfr k hk1 (by omega)), fun k hk => by rw [hfr k (by omega) (by omega), hq1 k (by omega)]⟩)
            · have ds := Nat.not_le.mp (of_decide_eq_false ds)
              refine lv_aload_n hx hb dX10_drift_62 rfl (lv_at hl 0 rfl) ?_
              refine sg_get (v := .ref (b + 1)) hx hb hts hown hK hM (sh0 kc_0) (kd_lt kc_0 (by decide)) rfl inX10 0 (by decide) wf_X10_10 rfl dX10_drift_63 ?_
              refine sg_get (v := .ref (b + 8)) hx hb hts hown hK hM (sh1 kc_1) (kd_lt kc_1 (by decide)) rfl inX3 2 (by decide) wf_X10_104 rfl dX10_drift_66 ?_
              refine sg_ci (sg_runV (d := 0) (As := []) (rest := []) hx hb hml hts hown hK hM (c_Pl_isFull l G b σ2 8 (rN B1) kc_8 hC.2.2.2.2.1 hB.2.1.2) mi_X6_isFull wl_X10_108 (sh5 kc_8) (kd_lt kc_8 (by decide)) rfl rfl rfl hl.1 rfl (Nat.le_of_ble_eq_true rfl) dX10_drift_69 ⟨by decide, by decide⟩ ⟨Nat.le_refl 0, Nat.le_refl 0⟩) hM sgA (fun r_69 σ_69 H locs hp_69 hM => ?_)
              obtain ⟨hr_69, hs_69⟩ := hp_69; subst r_69; subst σ_69
              refine sn_ifz_ne (tgt := 178) hx hb dX10_drift_72 (by decide) (fun dn => ?_) (fun dn => ?_)
              · have dn := of_decide_eq_true dn
                refine lv_iload_n hx hb dX10_drift_178 rfl (lv_at hl 3 rfl) ?_
                have hde := dr_end hdr (by omega)
                exact hret _ _ _ _ _ _ dX10_drift_179 hM (⟨by rw [S_drift_ok ⟨hka, hkb⟩ ⟨hxa, hxb⟩, hde], by rw [S_drift_ok ⟨hka, hkb⟩ ⟨hxa, hxb⟩, hde]; exact IC.nowed hI1 hB hC (fun k hk1 hk2 => hfr k hk1 (by omega)), fun k hk => by rw [hfr k (by omega) (by omega), hq1 k (by omega)]⟩)
              · have dn := Nat.not_le.mp (of_decide_eq_false dn)
                refine lv_aload_n hx hb dX10_drift_75 rfl (lv_at hl 0 rfl) ?_
                refine sg_get (v := .ref (b + 115)) hx hb hts hown hK hM (sh0 kc_0) (kd_lt kc_0 (by decide)) rfl inX10 4 (by decide) wf_X10_34 rfl dX10_drift_76 ?_
                refine lv_iconst (v := nI 2) hx hb dX10_drift_79 (by decide) ?_
                refine sg_ci (sg_runV (d := 0) (As := [.int (nI 2)]) (rest := []) hx hb hml hts hown hK hM (c_Lo_draw l G b σ2 (a1) 2 (hv2) (ha1) (by decide) (by decide)) mi_X2_draw wl_X10_122 (sh24 kc_115) (kd_lt kc_115 (by decide)) rfl rfl rfl hl.1 rfl (Nat.le_of_ble_eq_true rfl) dX10_drift_80 ⟨by decide, by decide⟩ ⟨Nat.le_refl 0, Nat.le_refl 0⟩) hM sgA (fun r_80 σ3 H locs hs3 hM => ?_)
                obtain ⟨hr_80, hs3⟩ := hs3; subst r_80
                have hv3 : σ3 115 0 = nI (lt1 a1) := by rw [hs3]; exact m2_ss
                have hf3 : ∀ c, c ≠ 115 → σ3 c = σ2 c := fun c z => by rw [hs3]; exact m2_o z
                have hC3 : CM σ3 1 B1 := hC.keep (fun k _ _ => hf3 k (by omega))
                refine lv_istore (lv' := [(4, .int (nI (lt1 a1 % 2))), (0, .ref (b + 0)), (1, .int (nI k1)), (2, .int (nI x1)), (3, .int (nI d1))]) hx hb dX10_drift_83 hl (by decide) rfl (fun ls hl => ?_)
                refine lv_aload_n hx hb dX10_drift_85 rfl (lv_at hl 1 rfl) ?_
                refine sg_get (v := .ref (b + 115)) hx hb hts hown hK hM (sh0 kc_0) (kd_lt kc_0 (by decide)) rfl inX10 4 (by decide) wf_X10_34 rfl dX10_drift_86 ?_
                refine lv_iconst (v := nI 4) hx hb dX10_drift_89 (by decide) ?_
                refine sg_ci (sg_runV (d := 0) (As := [.int (nI 4)]) (rest := []) hx hb hml hts hown hK hM (c_Lo_draw l G b σ3 (lt1 a1) 4 (hv3) (lt1_lt _) (by decide) (by decide)) mi_X2_draw wl_X10_122 (sh24 kc_115) (kd_lt kc_115 (by decide)) rfl rfl rfl hl.1 rfl (Nat.le_of_ble_eq_true rfl) dX10_drift_90 ⟨by decide, by decide⟩ ⟨Nat.le_refl 0, Nat.le_refl 0⟩) hM sgA (fun r_90 σ4 H locs hs4 hM => ?_)
                obtain ⟨hr_90, hs4⟩ := hs4; subst r_90
                have hv4 : σ4 115 0 = nI (lt1 (lt1 a1)) := by rw [hs4]; exact m2_ss
                have hf4 : ∀ c, c ≠ 115 → σ4 c = σ3 c := fun c z => by rw [hs4]; exact m2_o z
                have hC4 : CM σ4 1 B1 := hC3.keep (fun k _ _ => hf4 k (by omega))
                refine lv_istore (lv' := [(5, .int (nI (lt1 (lt1 a1) % 4))), (4, .int (nI (lt1 a1 % 2))), (0, .ref (b + 0)), (1, .int (nI k1)), (2, .int (nI x1)), (3, .int (nI d1))]) hx hb dX10_drift_93 hl (by decide) rfl (fun ls hl => ?_)
                refine lv_aload_n hx hb dX10_drift_95 rfl (lv_at hl 2 rfl) ?_
                refine sg_get (v := .ref (b + 1)) hx hb hts hown hK hM (sh0 kc_0) (kd_lt kc_0 (by decide)) rfl inX10 0 (by decide) wf_X10_10 rfl dX10_drift_96 ?_
                refine sg_get (v := .ref (b + 3)) hx hb hts hown hK hM (sh1 kc_1) (kd_lt kc_1 (by decide)) rfl inX3 1 (by decide) wf_X10_89 rfl dX10_drift_99 ?_
                refine lv_aload_n hx hb dX10_drift_102 rfl (lv_at hl 2 rfl) ?_
                refine sg_get (v := .ref (b + 1)) hx hb hts hown hK hM (sh0 kc_0) (kd_lt kc_0 (by decide)) rfl inX10 0 (by decide) wf_X10_10 rfl dX10_drift_103 ?_
                refine sg_get (v := .ref (b + 2)) hx hb hts hown hK hM (sh1 kc_1) (kd_lt kc_1 (by decide)) rfl inX3 0 (by decide) wf_X10_68 rfl dX10_drift_106 ?_
                refine lv_iload hx hb dX10_drift_109 (lv_at hl 1 rfl) ?_
                refine lv_iload hx hb dX10_drift_111 (lv_at hl 0 rfl) ?_
                refine sg_ci (sg_runV (d := 2) (As := [.ref (b + 2), .int (nI (lt1 a1 % 2)), .int (nI (lt1 (lt1 a1) % 4))]) (rest := []) hx hb hml hts hown hK hM (c_Row_append l G b σ4 3 (rS B1) 2 (rM B1) (rG B1) (rH B1) (stS B1 (rS B1)) (lt1 a1 % 2) (lt1 (lt1 a1) % 4) kc_3 kc_2 hC4.1 hC4.2.2.1 ds hC4.last (stS_lt hB _ (Nat.le_refl _)) (by omega) (by omega)) mi_X7_append wl_X10_100 (sh3 kc_3) (kd_lt kc_3 (by decide)) rfl rfl rfl hl.1 rfl (Nat.le_of_ble_eq_true rfl) dX10_drift_113 ⟨by decide, by decide⟩ ⟨Nat.le_refl 0, Nat.le_refl 0⟩) hM sgA (fun r_113 σ5 H locs hs5 hM => ?_)
                obtain ⟨hr_113, hs5⟩ := hs5; subst r_113
                have hC5 : CM σ5 1 (sentR B1 (lt1 a1 % 2) (lt1 (lt1 a1) % 4)) := by rw [hs5]; exact sent_CM (mo := 1) hC4 _ _
                have hf5 : ∀ c, 11 ≤ c → σ5 c = σ4 c := fun c z => by rw [hs5]; exact rowApp_o (by omega)
                have hv5 : σ5 115 0 = nI (lt1 (lt1 a1)) := by rw [hf5 115 (by decide)]; exact hv4
                have hB2 := sent_ok hB (show lt1 a1 % 2 < 2 by omega) (show lt1 (lt1 a1) % 4 < 4 by omega) ds
                have hp16 : ptS (sentR B1 (lt1 a1 % 2) (lt1 (lt1 a1) % 4)) (rS B1) < 16 := pt_lt (fam_lt _ _ _ _ _) (hB2.2.2.1 (rS B1) (Nat.lt_succ_self _)).2
                refine sn_top (y := nI (ptS (sentR B1 (lt1 a1 % 2) (lt1 (lt1 a1) % 4)) (rS B1))) (by rw [ptS_sent']) ?_
                refine lv_istore (lv' := [(6, .int (nI (ptS (sentR B1 (lt1 a1 % 2) (lt1 (lt1 a1) % 4)) (rS B1)))), (5, .int (nI (lt1 (lt1 a1) % 4))), (4, .int (nI (lt1 a1 % 2))), (0, .ref (b + 0)), (1, .int (nI k1)), (2, .int (nI x1)), (3, .int (nI d1))]) hx hb dX10_drift_116 hl (by decide) rfl (fun ls hl => ?_)
                refine lv_iload hx hb dX10_drift_118 (lv_at hl 0 rfl) ?_
                refine sg_ci (sg_runS (d := 0) (As := [.int (nI (ptS (sentR B1 (lt1 a1 % 2) (lt1 (lt1 a1) % 4)) (rS B1)))]) (rest := []) hx hb hml hts hown hK hM (c_g_xOf l G b σ5 (ptS (sentR B1 (lt1 a1 % 2) (lt1 (lt1 a1) % 4)) (rS B1)) hp16) mi_X1_xOf wl_X10_126 rfl hl.1 rfl (Nat.le_of_ble_eq_true rfl) dX10_drift_120 ⟨by decide, by decide⟩ ⟨Nat.le_refl 0, Nat.le_refl 0⟩) hM sgA (fun r_120 σ_120 H locs hp_120 hM => ?_)
                obtain ⟨hr_120, hs_120⟩ := hp_120; subst r_120; subst σ_120
                refine lv_aload_n hx hb dX10_drift_123 rfl (lv_at hl 3 rfl) ?_
                refine sg_get (v := .ref (b + 115)) hx hb hts hown hK hM (sh0 kc_0) (kd_lt kc_0 (by decide)) rfl inX10 4 (by decide) wf_X10_34 rfl dX10_drift_124 ?_
                refine lv_bipush (v := nI 25) hx hb dX10_drift_127 (by decide) ?_
                refine sg_ci (sg_runV (d := 0) (As := [.int (nI 25)]) (rest := [.int (gx (ptS (sentR B1 (lt1 a1 % 2) (lt1 (lt1 a1) % 4)) (rS B1)))]) hx hb hml hts hown hK hM (c_Lo_draw l G b σ5 (lt1 (lt1 a1)) 25 (hv5) (lt1_lt _) (by decide) (by decide)) mi_X2_draw wl_X10_122 (sh24 kc_115) (kd_lt kc_115 (by decide)) rfl rfl rfl hl.1 rfl (Nat.le_of_ble_eq_true rfl) dX10_drift_129 ⟨by decide, by decide⟩ ⟨Nat.le_refl 0, Nat.le_refl 0⟩) hM sgA (fun r_129 σ6 H locs hs6 hM => ?_)
                obtain ⟨hr_129, hs6⟩ := hs6; subst r_129
                have hv6 : σ6 115 0 = nI (lt1 (lt1 (lt1 a1))) := by rw [hs6]; exact m2_ss
                have hf6 : ∀ c, c ≠ 115 → σ6 c = σ5 c := fun c z => by rw [hs6]; exact m2_o z
                have hC6 : CM σ6 1 (sentR B1 (lt1 a1 % 2) (lt1 (lt1 a1) % 4)) := hC5.keep (fun k _ _ => hf6 k (by omega))
                refine lv_iadd hx hb dX10_drift_132 ?_
                refine lv_bipush (v := nI 12) hx hb dX10_drift_133 (by decide) ?_
                refine lv_isub hx hb dX10_drift_135 ?_
                refine sn_top (y := gx (ptS (sentR B1 (lt1 a1 % 2) (lt1 (lt1 a1) % 4)) (rS B1)) + nI (lt1 (lt1 (lt1 a1)) % 25) - nI 12) (rfl) ?_
                refine lv_istore (lv' := [(7, .int (gx (ptS (sentR B1 (lt1 a1 % 2) (lt1 (lt1 a1) % 4)) (rS B1)) + nI (lt1 (lt1 (lt1 a1)) % 25) - nI 12)), (6, .int (nI (ptS (sentR B1 (lt1 a1 % 2) (lt1 (lt1 a1) % 4)) (rS B1)))), (5, .int (nI (lt1 (lt1 a1) % 4))), (4, .int (nI (lt1 a1 % 2))), (0, .ref (b + 0)), (1, .int (nI k1)), (2, .int (nI x1)), (3, .int (nI d1))]) hx hb dX10_drift_136 hl (by decide) rfl (fun ls hl => ?_)
                refine lv_iload hx hb dX10_drift_138 (lv_at hl 1 rfl) ?_
                refine sg_ci (sg_runS (d := 0) (As := [.int (nI (ptS (sentR B1 (lt1 a1 % 2) (lt1 (lt1 a1) % 4)) (rS B1)))]) (rest := []) hx hb hml hts hown hK hM (c_g_yOf l G b σ6 (ptS (sentR B1 (lt1 a1 % 2) (lt1 (lt1 a1) % 4)) (rS B1)) hp16) mi_X1_yOf wl_X10_131 rfl hl.1 rfl (Nat.le_of_ble_eq_true rfl) dX10_drift_140 ⟨by decide, by decide⟩ ⟨Nat.le_refl 0, Nat.le_refl 0⟩) hM sgA (fun r_140 σ_140 H locs hp_140 hM => ?_)
                obtain ⟨hr_140, hs_140⟩ := hp_140; subst r_140; subst σ_140
                refine lv_aload_n hx hb dX10_drift_143 rfl (lv_at hl 4 rfl) ?_
                refine sg_get (v := .ref (b + 115)) hx hb hts hown hK hM (sh0 kc_0) (kd_lt kc_0 (by decide)) rfl inX10 4 (by decide) wf_X10_34 rfl dX10_drift_144 ?_
                refine lv_bipush (v := nI 25) hx hb dX10_drift_147 (by decide) ?_
                refine sg_ci (sg_runV (d := 0) (As := [.int (nI 25)]) (rest := [.int (gy (ptS (sentR B1 (lt1 a1 % 2) (lt1 (lt1 a1) % 4)) (rS B1)))]) hx hb hml hts hown hK hM (c_Lo_draw l G b σ6 (lt1 (lt1 (lt1 a1))) 25 (hv6) (lt1_lt _) (by decide) (by decide)) mi_X2_draw wl_X10_122 (sh24 kc_115) (kd_lt kc_115 (by decide)) rfl rfl rfl hl.1 rfl (Nat.le_of_ble_eq_true rfl) dX10_drift_149 ⟨by decide, by decide⟩ ⟨Nat.le_refl 0, Nat.le_refl 0⟩) hM sgA (fun r_149 σ7 H locs hs7 hM => ?_)
                obtain ⟨hr_149, hs7⟩ := hs7; subst r_149
                have hv7 : σ7 115 0 = nI (lt1 (lt1 (lt1 (lt1 a1)))) := by rw [hs7]; exact m2_ss
                have hf7 : ∀ c, c ≠ 115 → σ7 c = σ6 c := fun c z => by rw [hs7]; exact m2_o z
                have hC7 : CM σ7 1 (sentR B1 (lt1 a1 % 2) (lt1 (lt1 a1) % 4)) := hC6.keep (fun k _ _ => hf7 k (by omega))
                refine lv_iadd hx hb dX10_drift_152 ?_
                refine lv_bipush (v := nI 12) hx hb dX10_drift_153 (by decide) ?_
                refine lv_isub hx hb dX10_drift_155 ?_
                refine sn_top (y := gy (ptS (sentR B1 (lt1 a1 % 2) (lt1 (lt1 a1) % 4)) (rS B1)) + nI (lt1 (lt1 (lt1 (lt1 a1))) % 25) - nI 12) (rfl) ?_
                refine lv_istore (lv' := [(8, .int (gy (ptS (sentR B1 (lt1 a1 % 2) (lt1 (lt1 a1) % 4)) (rS B1)) + nI (lt1 (lt1 (lt1 (lt1 a1))) % 25) - nI 12)), (7, .int (gx (ptS (sentR B1 (lt1 a1 % 2) (lt1 (lt1 a1) % 4)) (rS B1)) + nI (lt1 (lt1 (lt1 a1)) % 25) - nI 12)), (6, .int (nI (ptS (sentR B1 (lt1 a1 % 2) (lt1 (lt1 a1) % 4)) (rS B1)))), (5, .int (nI (lt1 (lt1 a1) % 4))), (4, .int (nI (lt1 a1 % 2))), (0, .ref (b + 0)), (1, .int (nI k1)), (2, .int (nI x1)), (3, .int (nI d1))]) hx hb dX10_drift_156 hl (by decide) rfl (fun ls hl => ?_)
                refine lv_aload_n hx hb dX10_drift_158 rfl (lv_at hl 5 rfl) ?_
                refine sg_get (v := .ref (b + 1)) hx hb hts hown hK hM (sh0 kc_0) (kd_lt kc_0 (by decide)) rfl inX10 0 (by decide) wf_X10_10 rfl dX10_drift_159 ?_
                refine sg_get (v := .ref (b + 8)) hx hb hts hown hK hM (sh1 kc_1) (kd_lt kc_1 (by decide)) rfl inX3 2 (by decide) wf_X10_104 rfl dX10_drift_162 ?_
                refine lv_iload hx hb dX10_drift_165 (lv_at hl 1 rfl) ?_
                refine lv_iload hx hb dX10_drift_167 (lv_at hl 0 rfl) ?_
                refine sg_cv (sg_runV (d := 1) (As := [.int (gx (ptS (sentR B1 (lt1 a1 % 2) (lt1 (lt1 a1) % 4)) (rS B1)) + nI (lt1 (lt1 (lt1 a1)) % 25) - nI 12), .int (gy (ptS (sentR B1 (lt1 a1 % 2) (lt1 (lt1 a1) % 4)) (rS B1)) + nI (lt1 (lt1 (lt1 (lt1 a1))) % 25) - nI 12)]) (rest := []) hx hb hml hts hown hK hM (c_Pl_append l G b σ7 8 (rN B1) (gx (ptS (sentR B1 (lt1 a1 % 2) (lt1 (lt1 a1) % 4)) (rS B1)) + nI (lt1 (lt1 (lt1 a1)) % 25) - nI 12) (gy (ptS (sentR B1 (lt1 a1 % 2) (lt1 (lt1 a1) % 4)) (rS B1)) + nI (lt1 (lt1 (lt1 (lt1 a1))) % 25) - nI 12) kc_8 hC7.2.2.2.2.1 dn) mi_X6_append wl_X10_111 (sh5 kc_8) (kd_lt kc_8 (by decide)) rfl rfl rfl hl.1 rfl (Nat.le_of_ble_eq_true rfl) dX10_drift_169 ⟨by decide, by decide⟩ ⟨Nat.le_refl 0, Nat.le_refl 0⟩) hM sgA (fun σ8 H locs hp_169 hM => ?_)
                subst σ8
                refine lv_iinc (v := nI (d1 + 1)) (lv' := [(3, .int (nI (d1 + 1))), (8, .int (gy (ptS (sentR B1 (lt1 a1 % 2) (lt1 (lt1 a1) % 4)) (rS B1)) + nI (lt1 (lt1 (lt1 (lt1 a1))) % 25) - nI 12)), (7, .int (gx (ptS (sentR B1 (lt1 a1 % 2) (lt1 (lt1 a1) % 4)) (rS B1)) + nI (lt1 (lt1 (lt1 a1)) % 25) - nI 12)), (6, .int (nI (ptS (sentR B1 (lt1 a1 % 2) (lt1 (lt1 a1) % 4)) (rS B1)))), (5, .int (nI (lt1 (lt1 a1) % 4))), (4, .int (nI (lt1 a1 % 2))), (0, .ref (b + 0)), (1, .int (nI k1)), (2, .int (nI x1))]) hx hb dX10_drift_172 hl (k := 8) rfl (q_inc _) (by decide) rfl (fun ls hl => ?_)
                refine lv_goto (tgt := 44) hx hb dX10_drift_175 (by decide) ?_
                exact ih44 (d1 + 1) (plApp σ7 8 (rN B1) (gx (ptS (sentR B1 (lt1 a1 % 2) (lt1 (lt1 a1) % 4)) (rS B1)) + nI (lt1 (lt1 (lt1 a1)) % 25) - nI 12) (gy (ptS (sentR B1 (lt1 a1 % 2) (lt1 (lt1 a1) % 4)) (rS B1)) + nI (lt1 (lt1 (lt1 (lt1 a1))) % 25) - nI 12)) (drR B1 a1) (lt1 (lt1 (lt1 (lt1 a1)))) (by omega) (lt1_lt _) (by rw [plApp_o (by omega)]; exact hv7) (dr_ok hB a1 ds dn) (heard_CM (mo := 1) hC7 _ _) (dr_step dd ds dn hdr) (fun c z1 z2 => by rw [plApp_o (by omega), hf7 c z2, hf6 c z2, hf5 c z1, hf4 c z2, hf3 c z2]; exact hfr c z1 z2) (by omega) _ _ _ hM (lv_sub hl [6, 7, 8, 0] rfl)
      exact L44 (_ + 1) 0 σ9 w.1 x1 (Nat.zero_le _) (by omega) hv9 hR hC9 (by rw [Nat.sub_zero, Nat.zero_add]) (fun c _ z => hf9 c z) (Nat.lt_succ_self _) _ _ _ hM (lv_sub hl [1, 2, 3, 0] rfl)
    · refine lv_ldc (v := (-1000000002)) hx hb hown (hts (Cond.constant RX10 59 ((-1000000002))) wk_X10_59) dX10_drift_20 ?_
      exact hret _ _ _ _ _ _ dX10_drift_22 hM (⟨by rw [S_drift_o2 (not_t dq2)], by rw [S_drift_o2 (not_t dq2)]; exact hI, fun _ _ => rfl⟩)

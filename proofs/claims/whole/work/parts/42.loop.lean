/-! the law's loop -/
set_option maxHeartbeats 4000000 in
set_option maxRecDepth 100000 in
theorem law_loop {p : Program} {l : Launch} {e : Env} {s : State} {m : MethodId} {args : Array Value} {below : List Frame} {meth : Method} {c : Code} {Q : State → Prop} {G : GT} {sa b L : Nat} {xs : Nat → Int32} (hLA : LA p s m args c G sa b L xs) (hend : ∀ (H : Heap) (locs : List Loc) (ls : Array Slot) (cells slots : Nat), va_S (Fb b) s.heap H locs → cells ≤ 600000 → slots ≤ 7302250 → W p l e room_1 s m args below meth c H locs cells slots Q (F0 m 805 ls [])) :
    ∀ (fuel k : Nat) (σ : Mem) (w : World), ICw σ w → IRw σ w → k ≤ L → (L < 4 → k = 0) → L - k < fuel → ∀ (H : Heap) (locs : List Loc) (ls : Array Slot), St G (Fb b) b σ s H locs → lv_has ls 4 [(3, .int (nI k)), (2, .ref (b + 131)), (1, .ref (b + 0)), (0, .ref sa)] → W p l e room_1 s m args below meth c H locs (144 + k) (8308 + k) Q (F0 m 18 ls []) := by
  obtain ⟨hx, hb, hml, hown, hts, hK, hX, hsl, hbs, hL⟩ := id hLA
  intro fuel
  induction fuel with
  | zero => intro k σ w _ _ _ _ hF; exact absurd hF (Nat.not_lt_zero _)
  | succ fuel ihL =>
    intro k σ w hI hJ hk hk4 hF H locs ls hM hl
    refine lv_iload_n hx hb dL_law_18 rfl (lv_at hl 0 rfl) ?_
    refine lv_aload_n hx hb dL_law_19 rfl (lv_at hl 3 rfl) ?_
    refine lw_len hx hb hX hsl hbs hM.2 dL_law_20 ?_
    refine lv_iconst (v := nI 4) hx hb dL_law_21 (by decide) ?_
    refine lv_isub hx hb dL_law_22 ?_
    refine lv_icmp_gt (tgt := 805) hx hb dL_law_23 (by decide) (fun _ => ?_) (fun cq => ?_)
    · exact hend _ _ _ _ _ hM.2 (by omega) (by omega)
    · have hk2 := law_in hL hk hk4 cq
      have hcl : 144 + k + 1 ≤ 600000 := by omega
      have hsl2 : 8308 + k + 1 ≤ 7302250 := by omega
      have hgo : ∀ (σ' : Mem) (w' : World) (H1 : Heap) (locs1 : List Loc), ICw σ' w' → IRw σ' w' → St G (Fb b) b σ' s H1 locs1 → W p l e room_1 s m args below meth c H1 locs1 (144 + k + 1) (8308 + k + 1) Q (F0 m 799 ls []) := by
        intro σ' w' H1 locs1 hI' hJ' hM'
        refine lv_iinc (v := nI (k + 4)) (lv' := [(3, .int (nI (k + 4))), (2, .ref (b + 131)), (1, .ref (b + 0)), (0, .ref sa)]) hx hb dL_law_799 hl (k := 0) rfl (q_inc4 _) (by decide) rfl (fun ls hl => ?_)
        refine lv_goto (tgt := 18) hx hb dL_law_802 (by decide) ?_
        refine W.widen (k := 144 + (k + 4)) (n := 8308 + (k + 4)) (by omega) (by omega) ?_
        exact ihL (k + 4) σ' w' hI' hJ' hk2 (by omega) (by omega) _ _ _ hM' hl
      refine lv_aload_n hx hb dL_law_26 rfl (lv_at hl 3 rfl) ?_
      refine lv_iload_n hx hb dL_law_27 rfl (lv_at hl 0 rfl) ?_
      refine lw_ld (k := k) hx hb hX hsl hbs hM.2 (by omega) hL dL_law_28 ?_
      refine lv_bipush (v := nI 31) hx hb dL_law_29 (by decide) ?_
      refine lv_iand hx hb dL_law_31 ?_
      refine lv_topi (fun zw e_zw => ?_)
      clear e_zw
      rcases swc zw 22 with cz | ⟨j, hj, cz⟩
      · refine lv_tableOut (tgt := 799) hx hb dL_law_32 cz (by decide) ?_
        refine W.widen (k := 144 + k + 1) (n := 8308 + k + 1) (Nat.le_succ _) (Nat.le_succ _) ?_
        exact hgo _ _ _ _ hI hJ hM
      · subst cz
        match j, hj with
        | 0, _ =>
          refine lv_tableIn (tgt := 140) (off := 108) hx hb dL_law_32 (by decide) (by decide) (by decide) (by decide) ?_
          exact lc_code hLA hk2 hcl hsl2 hI hJ hM hl hgo
        | 1, _ =>
          refine lv_tableIn (tgt := 183) (off := 151) hx hb dL_law_32 (by decide) (by decide) (by decide) (by decide) ?_
          exact lc_send hLA hk2 hcl hsl2 hI hJ hM hl hgo
        | 2, _ =>
          refine lv_tableIn (tgt := 216) (off := 184) hx hb dL_law_32 (by decide) (by decide) (by decide) (by decide) ?_
          exact lc_hear hLA hk2 hcl hsl2 hI hJ hM hl hgo
        | 3, _ =>
          refine lv_tableIn (tgt := 249) (off := 217) hx hb dL_law_32 (by decide) (by decide) (by decide) (by decide) ?_
          exact lc_drift hLA hk2 hcl hsl2 hI hJ hM hl hgo
        | 4, _ =>
          refine lv_tableIn (tgt := 282) (off := 250) hx hb dL_law_32 (by decide) (by decide) (by decide) (by decide) ?_
          exact lc_wipe hLA hk2 hcl hsl2 hI hJ hM hl hgo
        | 5, _ =>
          refine lv_tableIn (tgt := 295) (off := 263) hx hb dL_law_32 (by decide) (by decide) (by decide) (by decide) ?_
          exact lc_end hLA hk2 hcl hsl2 hI hJ hM hl hgo
        | 6, _ =>
          refine lv_tableIn (tgt := 318) (off := 286) hx hb dL_law_32 (by decide) (by decide) (by decide) (by decide) ?_
          exact lc_undo hLA hk2 hcl hsl2 hI hJ hM hl hgo
        | 7, _ =>
          refine lv_tableIn (tgt := 331) (off := 299) hx hb dL_law_32 (by decide) (by decide) (by decide) (by decide) ?_
          exact lc_told hLA hk2 hcl hsl2 hI hJ hM hl hgo
        | 8, _ =>
          refine lv_tableIn (tgt := 354) (off := 322) hx hb dL_law_32 (by decide) (by decide) (by decide) (by decide) ?_
          exact lc_point hLA hk2 hcl hsl2 hI hJ hM hl hgo
        | 9, _ =>
          refine lv_tableIn (tgt := 387) (off := 355) hx hb dL_law_32 (by decide) (by decide) (by decide) (by decide) ?_
          exact lc_member hLA hk2 hcl hsl2 hI hJ hM hl hgo
        | 10, _ =>
          refine lv_tableIn (tgt := 420) (off := 388) hx hb dL_law_32 (by decide) (by decide) (by decide) (by decide) ?_
          exact lc_apart hLA hk2 hcl hsl2 hI hJ hM hl hgo
        | 11, _ =>
          refine lv_tableIn (tgt := 453) (off := 421) hx hb dL_law_32 (by decide) (by decide) (by decide) (by decide) ?_
          exact lc_distance hLA hk2 hcl hsl2 hI hJ hM hl hgo
        | 12, _ =>
          refine lv_tableIn (tgt := 486) (off := 454) hx hb dL_law_32 (by decide) (by decide) (by decide) (by decide) ?_
          exact lc_turned hLA hk2 hcl hsl2 hI hJ hM hl hgo
        | 13, _ =>
          refine lv_tableIn (tgt := 509) (off := 477) hx hb dL_law_32 (by decide) (by decide) (by decide) (by decide) ?_
          exact lc_next hLA hk2 hcl hsl2 hI hJ hM hl hgo
        | 14, _ =>
          refine lv_tableIn (tgt := 552) (off := 520) hx hb dL_law_32 (by decide) (by decide) (by decide) (by decide) ?_
          exact lc_sent hLA hk2 hcl hsl2 hI hJ hM hl hgo
        | 15, _ =>
          refine lv_tableIn (tgt := 585) (off := 553) hx hb dL_law_32 (by decide) (by decide) (by decide) (by decide) ?_
          exact lc_heard hLA hk2 hcl hsl2 hI hJ hM hl hgo
        | 16, _ =>
          refine lv_tableIn (tgt := 618) (off := 586) hx hb dL_law_32 (by decide) (by decide) (by decide) (by decide) ?_
          exact lc_nearest hLA hk2 hcl hsl2 hI hJ hM hl hgo
        | 17, _ =>
          refine lv_tableIn (tgt := 651) (off := 619) hx hb dL_law_32 (by decide) (by decide) (by decide) (by decide) ?_
          exact lc_ahead hLA hk2 hcl hsl2 hI hJ hM hl hgo
        | 18, _ =>
          refine lv_tableIn (tgt := 684) (off := 652) hx hb dL_law_32 (by decide) (by decide) (by decide) (by decide) ?_
          exact lc_decided hLA hk2 hcl hsl2 hI hJ hM hl hgo
        | 19, _ =>
          refine lv_tableIn (tgt := 717) (off := 685) hx hb dL_law_32 (by decide) (by decide) (by decide) (by decide) ?_
          exact lc_cost hLA hk2 hcl hsl2 hI hJ hM hl hgo
        | 20, _ =>
          refine lv_tableIn (tgt := 730) (off := 698) hx hb dL_law_32 (by decide) (by decide) (by decide) (by decide) ?_
          exact lc_sign hLA hk2 hcl hsl2 hI hJ hM hl hgo
        | 21, _ =>
          refine lv_tableIn (tgt := 753) (off := 721) hx hb dL_law_32 (by decide) (by decide) (by decide) (by decide) ?_
          exact lc_keep hLA hk2 hcl hsl2 hI hJ hM hl hgo
        | 22, _ =>
          refine lv_tableIn (tgt := 776) (off := 744) hx hb dL_law_32 (by decide) (by decide) (by decide) (by decide) ?_
          exact lc_goBack hLA hk2 hcl hsl2 hI hJ hM hl hgo
        | j + 23, hj => exact absurd hj (by omega)

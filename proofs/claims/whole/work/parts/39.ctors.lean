/-! the constructors -/
theorem nn_met {l : Launch} {G : GT} {b k n : Nat} {y : MethodName} {bytes : ByteArray} {maxL d mc ms : Nat} {o0 : va_E} (hy : plainName y.cls = true) (hy1 : y.name = "<init>") (hlen : 1 ≤ maxL)
    (body : ∀ (p : Program) (e : Env) (s : State) (m : MethodId) (args : Array Value) (below : List Frame) (meth : Method) (c : Code) (ls : Array Slot) (Q : State → Prop), p.tables.exec = Jvm.exec → c.code = bytes → c.maxLocals = maxL → s.vm.findClass y.cls = some m.cls → (∀ w ∈ TB, w.before args s = true) → meth.name = "<init>" → va_K G.1 vwCl (gtys G) s → NN s → NS G b k (k + 1) o0 k o0 s s.heap [] → lv_has ls maxL [(0, .ref (b + k))] →
      (∀ (pc : Nat) (o1 : va_E) (a : Nat) (o2 : va_E) (H : Heap) (locs : List Loc) (ls : Array Slot) (cells slots : Nat), NS G b k n o1 a o2 s H locs → o1 = shr G b k (sz0 k) → (a ≠ k → o2 = shr G b a (sz0 a)) → cells ≤ mc → slots ≤ ms → decode bytes pc = .ok (.return_, 1) → W p l e (RC d mc ms) s m args below meth c H locs cells slots Q (F0 m pc ls [])) → W p l e (RC d mc ms) s m args below meth c s.heap [] 0 0 Q (F0 m 0 ls [])) : KN l G b y bytes maxL d mc ms k n o0 := by
  refine gg_met [.ref (b + k)] hy hlen ?_
  intro vp ve vs vm below meth vc ls hx hb hr hlk hnm hml hown hts hB hl
  exact body vp ve vs vm _ below meth vc ls _ hx hb hml hown hts (hnm.trans hy1) hB.2.2.1 hB.2.2.2 (NS.start hB) hl (fun pc o1 a o2 H locs ls cells slots hM h1 h2 hc hs hd => ns_ret hx hb hr hlk hM h1 h2 hc hs hd)
theorem sz_1 {k : Nat} (h : kd k = 1) : sz0 k 3 = (-1) := by unfold sz0; rw [h]; rfl
theorem sz_2 {k : Nat} (h : kd k = 2) : sz0 k 0 = nI 2 ∧ sz0 k 1 = nI 5 ∧ sz0 k 2 = nI 2 := by unfold sz0; rw [h]; exact ⟨rfl, rfl, rfl⟩
theorem sz_k {k d : Nat} (h : kd k = d) (h1 : d ≠ 1) (h2 : d ≠ 2) (h3 : d ≠ 19) : sz0 k = fun _ => 0 := sz_0 (by rw [h]; exact h1) (by rw [h]; exact h2) (by rw [h]; exact h3)
theorem sz_19 {k : Nat} (h : kd k = 19) : upd (upd (upd (upd (fun _ => 0) 0 (nI 2)) 1 (nI 5)) 2 (nI 2)) 3 (-1) = sz0 k := by
  funext i
  unfold sz0 upd
  rw [h]
  by_cases h0 : i = 0
  · subst h0; rfl
  · by_cases h1 : i = 1
    · subst h1; rfl
    · by_cases h2 : i = 2
      · subst h2; rfl
      · by_cases h3 : i = 3
        · subst h3; rfl
        · simp [h0, h1, h2, h3]
def rfE (G : GT) (b N base i : Nat) : va_E := .inl (G.2.2.2, N, .inr (.inr (.inr (.inr (fun j => if j < i then some (b + (base + 10 * j)) else none)))))
theorem rf_cong {D : va_G} {cl : List vw_C} {q N : Nat} {cA : ClassId} {f g : Nat → Option Nat} (h : ∀ j, j < N → f j = g j) {H : Heap} (ha : va_at D cl (q, .inl (cA, N, .inr (.inr (.inr (.inr f))))) H) : va_at D cl (q, .inl (cA, N, .inr (.inr (.inr (.inr g))))) H := by
  have ha : H[q]? = some (vp_cell cA (N, .inr (.inr (.inr (.inr f))))) := ha
  show H[q]? = some (vp_cell cA (N, .inr (.inr (.inr (.inr g)))))
  rw [ha, vp_cell_q, vp_cell_q]
  unfold arrV
  have e : (fun j : Fin N => va_rf (f j.val)) = fun j : Fin N => va_rf (g j.val) := by
    funext j
    rw [h j.val j.isLt]
  rw [e]
theorem rf_0 {G : GT} {b a N base : Nat} {H : Heap} (ha : va_at G.1 vwCl (b + a, .inl (G.2.2.2, N, .inr (.inr (.inr (.inr (fun _ => none)))))) H) : va_at G.1 vwCl (b + a, rfE G b N base 0) H := rf_cong (fun j _ => by rw [if_neg (Nat.not_lt_zero _)]) ha
theorem rf_s {G : GT} {b a N base i : Nat} {H : Heap} (ha : va_at G.1 vwCl (b + a, .inl (G.2.2.2, N, .inr (.inr (.inr (.inr (va_up (fun j => if j < i then some (b + (base + 10 * j)) else none) i (some (b + (base + 10 * i))))))))) H) : va_at G.1 vwCl (b + a, rfE G b N base (i + 1)) H := rf_cong (fun j _ => by
  unfold va_up
  by_cases e : j = i
  · subst e
    rw [if_pos rfl, if_pos (Nat.lt_succ_self _)]
  · rw [if_neg e]
    show (if j < i then some (b + (base + 10 * j)) else none) = if j < i + 1 then some (b + (base + 10 * j)) else none
    by_cases e2 : j < i
    · rw [if_pos e2, if_pos (by omega)]
    · rw [if_neg e2, if_neg (by omega)]) ha
theorem rf_e {G : GT} {b a N base : Nat} {H : Heap} (ha : va_at G.1 vwCl (b + a, rfE G b N base N) H) : va_at G.1 vwCl (b + a, .inl (G.2.2.2, N, .inr (.inr (.inr (.inr (fun j => some (b + (base + 10 * j)))))))) H := rf_cong (fun j hj => by rw [if_pos hj]) ha
theorem df_X0 : ∀ j, j < 3 → defaultValue (tyX0 j) = vp_V [.int 0, .int 0, .int 0] j := by
  intro j hj
  match j, hj with
  | 0, _ => rfl
  | 1, _ => rfl
  | 2, _ => rfl
  | j + 3, hj => exact absurd hj (by omega)
theorem df_X3 : ∀ j, j < 4 → defaultValue (tyX3 j) = vp_V [.null, .null, .null, .int 0] j := by
  intro j hj
  match j, hj with
  | 0, _ => rfl
  | 1, _ => rfl
  | 2, _ => rfl
  | 3, _ => rfl
  | j + 4, hj => exact absurd hj (by omega)
theorem df_X7 : ∀ j, j < 5 → defaultValue (tyX7 j) = vp_V [.int 0, .null, .null, .null, .null] j := by
  intro j hj
  match j, hj with
  | 0, _ => rfl
  | 1, _ => rfl
  | 2, _ => rfl
  | 3, _ => rfl
  | 4, _ => rfl
  | j + 5, hj => exact absurd hj (by omega)
theorem df_X6 : ∀ j, j < 3 → defaultValue (tyX6 j) = vp_V [.int 0, .null, .null] j := by
  intro j hj
  match j, hj with
  | 0, _ => rfl
  | 1, _ => rfl
  | 2, _ => rfl
  | j + 3, hj => exact absurd hj (by omega)
theorem df_X5 : ∀ j, j < 3 → defaultValue (tyX5 j) = vp_V [.int 0, .int 0, .null] j := by
  intro j hj
  match j, hj with
  | 0, _ => rfl
  | 1, _ => rfl
  | 2, _ => rfl
  | j + 3, hj => exact absurd hj (by omega)
theorem df_X8 : ∀ j, j < 4 → defaultValue (tyX8 j) = vp_V [.null, .null, .null, .null] j := by
  intro j hj
  match j, hj with
  | 0, _ => rfl
  | 1, _ => rfl
  | 2, _ => rfl
  | 3, _ => rfl
  | j + 4, hj => exact absurd hj (by omega)
theorem df_X4 : ∀ j, j < 3 → defaultValue (tyX4 j) = vp_V [.null, .null, .null] j := by
  intro j hj
  match j, hj with
  | 0, _ => rfl
  | 1, _ => rfl
  | 2, _ => rfl
  | j + 3, hj => exact absurd hj (by omega)
theorem df_X9 : ∀ j, j < 2 → defaultValue (tyX9 j) = vp_V [.null, .int 0] j := by
  intro j hj
  match j, hj with
  | 0, _ => rfl
  | 1, _ => rfl
  | j + 2, hj => exact absurd hj (by omega)
theorem df_X10 : ∀ j, j < 8 → defaultValue (tyX10 j) = vp_V [.null, .null, .null, .null, .null, .null, .null, .null] j := by
  intro j hj
  match j, hj with
  | 0, _ => rfl
  | 1, _ => rfl
  | 2, _ => rfl
  | 3, _ => rfl
  | 4, _ => rfl
  | 5, _ => rfl
  | 6, _ => rfl
  | 7, _ => rfl
  | j + 8, hj => exact absurd hj (by omega)
theorem df_X2 : ∀ j, j < 1 → defaultValue (tyX2 j) = vp_V [.long 0] j := by
  intro j hj
  match j, hj with
  | 0, _ => rfl
  | j + 1, hj => exact absurd hj (by omega)
theorem df_X11 : ∀ j, j < 13 → defaultValue (tyX11 j) = vp_V [.null, .null, .int 0, .null, .null, .null, .null, .null, .null, .null, .null, .null, .null] j := by
  intro j hj
  match j, hj with
  | 0, _ => rfl
  | 1, _ => rfl
  | 2, _ => rfl
  | 3, _ => rfl
  | 4, _ => rfl
  | 5, _ => rfl
  | 6, _ => rfl
  | 7, _ => rfl
  | 8, _ => rfl
  | 9, _ => rfl
  | 10, _ => rfl
  | 11, _ => rfl
  | 12, _ => rfl
  | j + 13, hj => exact absurd hj (by omega)
set_option maxHeartbeats 4000000 in
theorem k_set (l : Launch) (G : GT) (b k : Nat) (hk : kd k = 2) : Met l yX0_set (Cond.code yX0_set cX0_set 4 none :: TB) (RM 0) (va_Pc [.ref (b + k), .int (nI 2), .int (nI 5), .int (nI 2)] (NP G b k (k + 1) (.inr (0, [.int 0, .int 0, .int 0])))) (va_Qv (fun _ : Unit => True) (fun _ t => NQ G b k (k + 1) t) (Fb (b + k))) 0 0 (Fb (b + k)) := by
  refine gg_met [.ref (b + k), .int (nI 2), .int (nI 5), .int (nI 2)] (by decide) (Nat.le_of_ble_eq_true rfl) ?_
  intro vp ve vs vm below meth vc ls hx hb hr hlk hnm hml hown hts hB hl
  have hK := hB.2.2.1
  have hM := NS.start hB
  have hl : lv_has ls 4 [(0, .ref (b + k)), (1, .int (nI 2)), (2, .int (nI 5)), (3, .int (nI 2))] := hl
  refine lv_aload_n hx hb dX0_set_0 rfl (lv_at hl 0 rfl) ?_
  refine lv_iload_n hx hb dX0_set_1 rfl (lv_at hl 1 rfl) ?_
  refine ns_put (C := RX0) (T := TX0) (N := 3) (ty := .int) hx hb hts hown hK hM (by omega) rfl inX0 tyX0 tyX0_ok nmX0 0 (by decide) wf_X0_13 rfl (by decide +kernel) rfl rfl (Nat.le_of_ble_eq_true rfl) dX0_set_2 (fun H locs hM => ?_)
  refine lv_aload_n hx hb dX0_set_5 rfl (lv_at hl 0 rfl) ?_
  refine lv_iload_n hx hb dX0_set_6 rfl (lv_at hl 2 rfl) ?_
  refine ns_put (C := RX0) (T := TX0) (N := 3) (ty := .int) hx hb hts hown hK hM (by omega) rfl inX0 tyX0 tyX0_ok nmX0 1 (by decide) wf_X0_17 rfl (by decide +kernel) rfl rfl (Nat.le_of_ble_eq_true rfl) dX0_set_7 (fun H locs hM => ?_)
  refine lv_aload_n hx hb dX0_set_10 rfl (lv_at hl 0 rfl) ?_
  refine lv_iload_n hx hb dX0_set_11 rfl (lv_at hl 3 rfl) ?_
  refine ns_put (C := RX0) (T := TX0) (N := 3) (ty := .int) hx hb hts hown hK hM (by omega) rfl inX0 tyX0 tyX0_ok nmX0 2 (by decide) wf_X0_20 rfl (by decide +kernel) rfl rfl (Nat.le_of_ble_eq_true rfl) dX0_set_12 (fun H locs hM => ?_)
  exact ns_ret hx hb hr hlk hM (by rw [sh2 hk, (sz_2 hk).1, (sz_2 hk).2.1, (sz_2 hk).2.2]; rfl) (fun q => absurd rfl q) (Nat.le_refl 0) (Nat.le_refl 0) dX0_set_15
set_option maxHeartbeats 4000000 in
theorem k_code (l : Launch) (G : GT) (b k : Nat) (hk : kd k = 2) : KN l G b yX0_init cX0_init 1 1 0 0 k (k + 1) (.inr (0, [.int 0, .int 0, .int 0])) := by
  refine nn_met (by decide) rfl (Nat.le_refl 1) ?_
  intro vp ve vs vm args below meth vc ls Q hx hb hml hown hts hin2 hK hN hM hl hret
  refine lv_aload_n hx hb dX0_init_0 rfl (lv_at hl 0 rfl) ?_
  refine W.objInit hx hb hown (hts _ wl_X0_1) (hts _ wm_objectInit) (hts _ wc_objectInit) rfl (by rw [hml]; exact hl.1) rfl dX0_init_1 (Nat.le_of_ble_eq_true rfl) (Nat.le_of_ble_eq_true rfl) ?_
  refine W.eq (g2 := F0 vm 4 ls []) rfl ?_
  refine lv_aload_n hx hb dX0_init_4 rfl (lv_at hl 0 rfl) ?_
  refine lv_iconst (v := nI 2) hx hb dX0_init_5 (by decide) ?_
  refine lv_iconst (v := nI 5) hx hb dX0_init_6 (by decide) ?_
  refine lv_iconst (v := nI 2) hx hb dX0_init_7 (by decide) ?_
  refine va_callv (va_runV (C := RX0) (As := [.int (nI 2), .int (nI 5), .int (nI 2)]) (rest := []) ⟨hx, hb, hml, hown, hts⟩ (k_set l G b k hk) ⟨sg_cb (d := 0) hts mi_X0_set.1 wl_X0_7 ⟨by decide, by decide⟩, hts _ mi_X0_set.2.1, hts _ mi_X0_set.2.2⟩ ⟨NP_blind, va_recv (q0 := 0) (ci := 0) (q := (RX0, TX0, 3)) hK (va_one (hM.at1 (Nat.lt_succ_self _))) rfl rfl, fun U hU hWm => ⟨rfl, by rw [hU]; exact hM.1, by rw [hU]; exact hM.at1 (Nat.lt_succ_self _), va_K.moved hWm.alike hK, NN.warm hWm hN⟩⟩ rfl rfl hl.1 rfl (lv_room (Nat.le_of_ble_eq_true rfl)) dX0_init_8 ⟨Nat.le_refl 0, Nat.le_refl 0⟩) hM.2.2 (fun _ _ h => h) (fun _ h => h) (fun u t H1 locs1 ht _ _ hB _ _ hS => ?_)
  have hM1 : NS G b k (k + 1) (shr G b k (sz0 k)) k (shr G b k (sz0 k)) vs H1 locs1 := by
    refine ⟨by rw [← ht]; exact hB.1, fun j h1 h2 => ?_, hS⟩
    have hj : j = k := by omega
    subst hj
    unfold ovr
    rw [if_pos rfl, ← ht]
    exact hB.2 j h1 h2
  exact hret _ _ _ _ _ _ _ _ _ hM1 rfl (fun q => absurd rfl q) (Nat.le_refl 0) (Nat.le_refl 0) dX0_init_11
set_option maxHeartbeats 4000000 in
set_option maxRecDepth 100000 in
theorem k_row (l : Launch) (G : GT) (b : Nat) (k : Nat) (hk : kd k = 3) : KN l G b yX7_init cX7_init 1 1 4 96 k (k + 5) (.inr (6, [.int 0, .null, .null, .null, .null])) := by
  refine nn_met (by decide) rfl (Nat.le_of_ble_eq_true rfl) ?_
  intro vp ve vs vm args below meth vc ls Q hx hb hml hown hts hin2 hK hN hM hl hret
  refine lv_aload_n hx hb dX7_init_0 rfl (lv_at hl 0 rfl) ?_
  refine W.objInit hx hb hown (hts _ wl_X7_3) (hts _ wm_objectInit) (hts _ wc_objectInit) rfl (by rw [hml]; exact hl.1) rfl dX7_init_1 (Nat.le_of_ble_eq_true rfl) (Nat.le_of_ble_eq_true rfl) ?_
  refine W.eq (g2 := F0 vm 4 ls []) rfl ?_
  refine lv_aload_n hx hb dX7_init_4 rfl (lv_at hl 0 rfl) ?_
  refine lv_bipush (v := nI 24) hx hb dX7_init_5 (by decide) ?_
  refine ns_arrI (N := 24) (n := k + 1) hx hb hts hK hM (by omega) (by omega) (by rw [sh4 (kR1 hk), sz_k (kR1 hk) (by decide) (by decide) (by decide)]) (by decide) (Nat.le_of_ble_eq_true rfl) (Nat.le_of_ble_eq_true rfl) dX7_init_7 (fun H locs hM => ?_)
  refine ns_putF (C := RX7) (T := TX7) (N := 5) (n := k + 2) (v := .ref (b + (k + 1))) (ty := .array .int) hx hb hts hown hK hM (by omega) rfl inX7 tyX7 tyX7_ok nmX7 1 (by decide) wf_X7_9 rfl hin2 rfl (by decide +kernel) rfl rfl (Nat.le_of_ble_eq_true rfl) dX7_init_9 (fun H locs hM => ?_)
  have hM : NS G b k (k + 2) (.inr (6, [.int 0, .ref (b + (k + 1)), .null, .null, .null])) k (.inr (6, [.int 0, .null, .null, .null, .null])) vs H locs := hM
  refine lv_aload_n hx hb dX7_init_12 rfl (lv_at hl 0 rfl) ?_
  refine lv_bipush (v := nI 24) hx hb dX7_init_13 (by decide) ?_
  refine ns_arrI (N := 24) (n := k + 2) hx hb hts hK hM (by omega) (by omega) (by rw [sh4 (kR2 hk), sz_k (kR2 hk) (by decide) (by decide) (by decide)]) (by decide) (Nat.le_of_ble_eq_true rfl) (Nat.le_of_ble_eq_true rfl) dX7_init_15 (fun H locs hM => ?_)
  refine ns_putF (C := RX7) (T := TX7) (N := 5) (n := k + 3) (v := .ref (b + (k + 2))) (ty := .array .int) hx hb hts hown hK hM (by omega) rfl inX7 tyX7 tyX7_ok nmX7 2 (by decide) wf_X7_15 rfl hin2 rfl (by decide +kernel) rfl rfl (Nat.le_of_ble_eq_true rfl) dX7_init_17 (fun H locs hM => ?_)
  have hM : NS G b k (k + 3) (.inr (6, [.int 0, .ref (b + (k + 1)), .ref (b + (k + 2)), .null, .null])) k (.inr (6, [.int 0, .null, .null, .null, .null])) vs H locs := hM
  refine lv_aload_n hx hb dX7_init_20 rfl (lv_at hl 0 rfl) ?_
  refine lv_bipush (v := nI 24) hx hb dX7_init_21 (by decide) ?_
  refine ns_arrI (N := 24) (n := k + 3) hx hb hts hK hM (by omega) (by omega) (by rw [sh4 (kR3 hk), sz_k (kR3 hk) (by decide) (by decide) (by decide)]) (by decide) (Nat.le_of_ble_eq_true rfl) (Nat.le_of_ble_eq_true rfl) dX7_init_23 (fun H locs hM => ?_)
  refine ns_putF (C := RX7) (T := TX7) (N := 5) (n := k + 4) (v := .ref (b + (k + 3))) (ty := .array .int) hx hb hts hown hK hM (by omega) rfl inX7 tyX7 tyX7_ok nmX7 3 (by decide) wf_X7_18 rfl hin2 rfl (by decide +kernel) rfl rfl (Nat.le_of_ble_eq_true rfl) dX7_init_25 (fun H locs hM => ?_)
  have hM : NS G b k (k + 4) (.inr (6, [.int 0, .ref (b + (k + 1)), .ref (b + (k + 2)), .ref (b + (k + 3)), .null])) k (.inr (6, [.int 0, .null, .null, .null, .null])) vs H locs := hM
  refine lv_aload_n hx hb dX7_init_28 rfl (lv_at hl 0 rfl) ?_
  refine lv_bipush (v := nI 24) hx hb dX7_init_29 (by decide) ?_
  refine ns_arrI (N := 24) (n := k + 4) hx hb hts hK hM (by omega) (by omega) (by rw [sh4 (kR4 hk), sz_k (kR4 hk) (by decide) (by decide) (by decide)]) (by decide) (Nat.le_of_ble_eq_true rfl) (Nat.le_of_ble_eq_true rfl) dX7_init_31 (fun H locs hM => ?_)
  refine ns_putF (C := RX7) (T := TX7) (N := 5) (n := k + 5) (v := .ref (b + (k + 4))) (ty := .array .int) hx hb hts hown hK hM (by omega) rfl inX7 tyX7 tyX7_ok nmX7 4 (by decide) wf_X7_21 rfl hin2 rfl (by decide +kernel) rfl rfl (Nat.le_of_ble_eq_true rfl) dX7_init_33 (fun H locs hM => ?_)
  have hM : NS G b k (k + 5) (.inr (6, [.int 0, .ref (b + (k + 1)), .ref (b + (k + 2)), .ref (b + (k + 3)), .ref (b + (k + 4))])) k (.inr (6, [.int 0, .null, .null, .null, .null])) vs H locs := hM
  exact hret _ _ _ _ _ _ _ _ _ hM (by rw [sh3 hk, sz_k hk (by decide) (by decide) (by decide)]) (fun q => absurd rfl q) (Nat.le_of_ble_eq_true rfl) (Nat.le_of_ble_eq_true rfl) dX7_init_36
set_option maxHeartbeats 4000000 in
set_option maxRecDepth 100000 in
theorem k_places (l : Launch) (G : GT) (b : Nat) (k : Nat) (hk : kd k = 5) : KN l G b yX6_init cX6_init 1 1 2 48 k (k + 3) (.inr (5, [.int 0, .null, .null])) := by
  refine nn_met (by decide) rfl (Nat.le_of_ble_eq_true rfl) ?_
  intro vp ve vs vm args below meth vc ls Q hx hb hml hown hts hin2 hK hN hM hl hret
  refine lv_aload_n hx hb dX6_init_0 rfl (lv_at hl 0 rfl) ?_
  refine W.objInit hx hb hown (hts _ wl_X6_3) (hts _ wm_objectInit) (hts _ wc_objectInit) rfl (by rw [hml]; exact hl.1) rfl dX6_init_1 (Nat.le_of_ble_eq_true rfl) (Nat.le_of_ble_eq_true rfl) ?_
  refine W.eq (g2 := F0 vm 4 ls []) rfl ?_
  refine lv_aload_n hx hb dX6_init_4 rfl (lv_at hl 0 rfl) ?_
  refine lv_bipush (v := nI 24) hx hb dX6_init_5 (by decide) ?_
  refine ns_arrI (N := 24) (n := k + 1) hx hb hts hK hM (by omega) (by omega) (by rw [sh4 (kP1 hk), sz_k (kP1 hk) (by decide) (by decide) (by decide)]) (by decide) (Nat.le_of_ble_eq_true rfl) (Nat.le_of_ble_eq_true rfl) dX6_init_7 (fun H locs hM => ?_)
  refine ns_putF (C := RX6) (T := TX6) (N := 3) (n := k + 2) (v := .ref (b + (k + 1))) (ty := .array .int) hx hb hts hown hK hM (by omega) rfl inX6 tyX6 tyX6_ok nmX6 1 (by decide) wf_X6_9 rfl hin2 rfl (by decide +kernel) rfl rfl (Nat.le_of_ble_eq_true rfl) dX6_init_9 (fun H locs hM => ?_)
  have hM : NS G b k (k + 2) (.inr (5, [.int 0, .ref (b + (k + 1)), .null])) k (.inr (5, [.int 0, .null, .null])) vs H locs := hM
  refine lv_aload_n hx hb dX6_init_12 rfl (lv_at hl 0 rfl) ?_
  refine lv_bipush (v := nI 24) hx hb dX6_init_13 (by decide) ?_
  refine ns_arrI (N := 24) (n := k + 2) hx hb hts hK hM (by omega) (by omega) (by rw [sh4 (kP2 hk), sz_k (kP2 hk) (by decide) (by decide) (by decide)]) (by decide) (Nat.le_of_ble_eq_true rfl) (Nat.le_of_ble_eq_true rfl) dX6_init_15 (fun H locs hM => ?_)
  refine ns_putF (C := RX6) (T := TX6) (N := 3) (n := k + 3) (v := .ref (b + (k + 2))) (ty := .array .int) hx hb hts hown hK hM (by omega) rfl inX6 tyX6 tyX6_ok nmX6 2 (by decide) wf_X6_15 rfl hin2 rfl (by decide +kernel) rfl rfl (Nat.le_of_ble_eq_true rfl) dX6_init_17 (fun H locs hM => ?_)
  have hM : NS G b k (k + 3) (.inr (5, [.int 0, .ref (b + (k + 1)), .ref (b + (k + 2))])) k (.inr (5, [.int 0, .null, .null])) vs H locs := hM
  exact hret _ _ _ _ _ _ _ _ _ hM (by rw [sh5 hk, sz_k hk (by decide) (by decide) (by decide)]) (fun q => absurd rfl q) (Nat.le_of_ble_eq_true rfl) (Nat.le_of_ble_eq_true rfl) dX6_init_20
set_option maxHeartbeats 4000000 in
set_option maxRecDepth 100000 in
theorem k_moment (l : Launch) (G : GT) (b : Nat) (k : Nat) (hk : kd k = 1) : KN l G b yX3_init cX3_init 1 2 9 155 k (k + 10) (.inr (2, [.null, .null, .null, .int 0])) := by
  refine nn_met (by decide) rfl (Nat.le_of_ble_eq_true rfl) ?_
  intro vp ve vs vm args below meth vc ls Q hx hb hml hown hts hin2 hK hN hM hl hret
  refine lv_aload_n hx hb dX3_init_0 rfl (lv_at hl 0 rfl) ?_
  refine W.objInit hx hb hown (hts _ wl_X3_3) (hts _ wm_objectInit) (hts _ wc_objectInit) rfl (by rw [hml]; exact hl.1) rfl dX3_init_1 (Nat.le_of_ble_eq_true rfl) (Nat.le_of_ble_eq_true rfl) ?_
  refine W.eq (g2 := F0 vm 4 ls []) rfl ?_
  refine lv_aload_n hx hb dX3_init_4 rfl (lv_at hl 0 rfl) ?_
  refine ns_make (ci := 0) (fs := [.int 0, .int 0, .int 0]) (C := RX0) (T := TX0) (N := 3) (n := k + 1) (n' := k + 1 + 1) hx hb hts hown hK hM (by omega) (by omega) rfl inX0 tyX0 tyX0_ok wcl_X3_9 win_X0 wi_RX0 df_X0 (Nat.le_of_ble_eq_true rfl) (Nat.le_of_ble_eq_true rfl) dX3_init_5 dX3_init_8 (ns_runI (d := 1) (rest := [.ref (b + k)]) hx hb hml hts hown hK hN (k_code l G b (k + 1) (kM1 hk)) mi_X0_init wl_X3_11 wm_X0_init rfl hl.1 (Nat.le_of_ble_eq_true rfl) dX3_init_9 ⟨by decide, by decide⟩ ⟨(Nat.le_of_ble_eq_true rfl), (Nat.le_of_ble_eq_true rfl)⟩) (fun H locs hM => ?_)
  refine ns_putF (C := RX3) (T := TX3) (N := 4) (n := k + 2) (v := .ref (b + (k + 1))) (ty := .object "GridRows$Code") hx hb hts hown hK hM (by omega) rfl inX3 tyX3 tyX3_ok nmX3 0 (by decide) wf_X3_12 rfl hin2 rfl (by decide +kernel) rfl rfl (Nat.le_of_ble_eq_true rfl) dX3_init_12 (fun H locs hM => ?_)
  have hM : NS G b k (k + 2) (.inr (2, [.ref (b + (k + 1)), .null, .null, .int 0])) k (.inr (2, [.null, .null, .null, .int 0])) vs H locs := hM
  refine lv_aload_n hx hb dX3_init_15 rfl (lv_at hl 0 rfl) ?_
  refine ns_make (ci := 6) (fs := [.int 0, .null, .null, .null, .null]) (C := RX7) (T := TX7) (N := 5) (n := k + 2) (n' := k + 2 + 5) hx hb hts hown hK hM (by omega) (by omega) rfl inX7 tyX7 tyX7_ok wcl_X3_18 win_X7 wi_RX7 df_X7 (Nat.le_of_ble_eq_true rfl) (Nat.le_of_ble_eq_true rfl) dX3_init_16 dX3_init_19 (ns_runIN (d := 1) (rest := [.ref (b + k)]) hx hb hml hts hown hK hN (k_row l G b (k + 2) (kM2 hk)) mi_X7_init hN.2.2.1 wm_X7_init rfl hl.1 (Nat.le_of_ble_eq_true rfl) dX3_init_20 ⟨by decide, by decide⟩ ⟨(Nat.le_of_ble_eq_true rfl), (Nat.le_of_ble_eq_true rfl)⟩) (fun H locs hM => ?_)
  refine ns_putF (C := RX3) (T := TX3) (N := 4) (n := k + 7) (v := .ref (b + (k + 2))) (ty := .object "GridRows$Row") hx hb hts hown hK hM (by omega) rfl inX3 tyX3 tyX3_ok nmX3 1 (by decide) wf_X3_21 rfl hin2 rfl (by decide +kernel) rfl rfl (Nat.le_of_ble_eq_true rfl) dX3_init_23 (fun H locs hM => ?_)
  have hM : NS G b k (k + 7) (.inr (2, [.ref (b + (k + 1)), .ref (b + (k + 2)), .null, .int 0])) k (.inr (2, [.null, .null, .null, .int 0])) vs H locs := hM
  refine lv_aload_n hx hb dX3_init_26 rfl (lv_at hl 0 rfl) ?_
  refine ns_make (ci := 5) (fs := [.int 0, .null, .null]) (C := RX6) (T := TX6) (N := 3) (n := k + 7) (n' := k + 7 + 3) hx hb hts hown hK hM (by omega) (by omega) rfl inX6 tyX6 tyX6_ok wcl_X3_25 win_X6 wi_RX6 df_X6 (Nat.le_of_ble_eq_true rfl) (Nat.le_of_ble_eq_true rfl) dX3_init_27 dX3_init_30 (ns_runIN (d := 1) (rest := [.ref (b + k)]) hx hb hml hts hown hK hN (k_places l G b (k + 7) (kM7 hk)) mi_X6_init hN.2.2.2.1 wm_X6_init rfl hl.1 (Nat.le_of_ble_eq_true rfl) dX3_init_31 ⟨by decide, by decide⟩ ⟨(Nat.le_of_ble_eq_true rfl), (Nat.le_of_ble_eq_true rfl)⟩) (fun H locs hM => ?_)
  refine ns_putF (C := RX3) (T := TX3) (N := 4) (n := k + 10) (v := .ref (b + (k + 7))) (ty := .object "GridRows$Places") hx hb hts hown hK hM (by omega) rfl inX3 tyX3 tyX3_ok nmX3 2 (by decide) wf_X3_28 rfl hin2 rfl (by decide +kernel) rfl rfl (Nat.le_of_ble_eq_true rfl) dX3_init_34 (fun H locs hM => ?_)
  have hM : NS G b k (k + 10) (.inr (2, [.ref (b + (k + 1)), .ref (b + (k + 2)), .ref (b + (k + 7)), .int 0])) k (.inr (2, [.null, .null, .null, .int 0])) vs H locs := hM
  refine lv_aload_n hx hb dX3_init_37 rfl (lv_at hl 0 rfl) ?_
  refine lv_iconst (v := (-1)) hx hb dX3_init_38 (by decide) ?_
  refine ns_put (C := RX3) (T := TX3) (N := 4) (n := k + 10) (v := .int (-1)) (ty := .int) hx hb hts hown hK hM (by omega) rfl inX3 tyX3 tyX3_ok nmX3 3 (by decide) wf_X3_32 rfl (by decide +kernel) rfl rfl (Nat.le_of_ble_eq_true rfl) dX3_init_39 (fun H locs hM => ?_)
  exact hret _ _ _ _ _ _ _ _ _ hM (by rw [sh1 hk, sz_1 hk]; rfl) (fun q => absurd rfl q) (Nat.le_of_ble_eq_true rfl) (Nat.le_of_ble_eq_true rfl) dX3_init_42
set_option maxHeartbeats 4000000 in
set_option maxRecDepth 100000 in
theorem k_past (l : Launch) (G : GT) (b : Nat) : KN l G b yX5_init cX5_init 2 3 81 1280 11 93 (.inr (4, [.int 0, .int 0, .null])) := by
  refine nn_met (by decide) rfl (Nat.le_of_ble_eq_true rfl) ?_
  intro vp ve vs vm args below meth vc ls Q hx hb hml hown hts hin2 hK hN hM hl hret
  refine lv_aload_n hx hb dX5_init_0 rfl (lv_at hl 0 rfl) ?_
  refine W.objInit hx hb hown (hts _ wl_X5_3) (hts _ wm_objectInit) (hts _ wc_objectInit) rfl (by rw [hml]; exact hl.1) rfl dX5_init_1 (Nat.le_of_ble_eq_true rfl) (Nat.le_of_ble_eq_true rfl) ?_
  refine W.eq (g2 := F0 vm 4 ls []) rfl ?_
  refine lv_aload_n hx hb dX5_init_4 rfl (lv_at hl 0 rfl) ?_
  refine lv_bipush (v := nI 8) hx hb dX5_init_5 (by decide) ?_
  refine ns_anew (N := 8) (n := 12) hx hb hts hown hK hN hM (by decide) wcl_X5_9 (by decide) (Nat.le_of_ble_eq_true rfl) (Nat.le_of_ble_eq_true rfl) dX5_init_7 (fun H locs hM => ?_)
  refine ns_putF (C := RX5) (T := TX5) (N := 3) (n := 13) (v := .ref (b + 12)) (ty := .array (.object "GridRows$Moment")) hx hb hts hown hK hM (by omega) rfl inX5 tyX5 tyX5_ok nmX5 2 (by decide) wf_X5_11 rfl hin2 rfl (by decide +kernel) rfl rfl (Nat.le_of_ble_eq_true rfl) dX5_init_10 (fun H locs hM => ?_)
  have hM : NS G b 11 (13) (.inr (4, [.int 0, .int 0, .ref (b + 12)])) 12 (.inl (G.2.2.2, 8, .inr (.inr (.inr (.inr (fun _ => none)))))) vs H locs := hM
  refine lv_iconst (v := nI 0) hx hb dX5_init_13 (by decide) ?_
  refine lv_istore_n (lv' := [(1, .int (nI 0)), (0, .ref (b + 11))]) hx hb dX5_init_14 rfl hl (by decide) rfl (fun ls hl => ?_)
  have hM : NS G b 11 (13 + 10 * 0) (.inr (4, [.int 0, .int 0, .ref (b + 12)])) 12 (rfE G b 8 13 0) vs H locs := hM.sub2 (fun _ h => rf_0 h)
  have L15 : ∀ (fuel i : Nat), i ≤ 8 → 8 - i < fuel → ∀ (H : Heap) (locs : List Loc) (ls : Array Slot), NS G b 11 (13 + 10 * i) (.inr (4, [.int 0, .int 0, .ref (b + 12)])) 12 (rfE G b 8 13 i) vs H locs → lv_has ls 2 [(1, .int (nI i)), (0, .ref (b + 11))] → W vp l ve (RC 3 81 1280) vs vm args below meth vc H locs (1 + 10 * i) (8 + 159 * i) Q (F0 vm 15 ls []) := by
    intro fuel
    induction fuel with
    | zero => intro i _ hF; exact absurd hF (Nat.not_lt_zero _)
    | succ fuel ihL =>
      intro i hi hF H locs ls hM hl
      refine lv_iload_n hx hb dX5_init_15 rfl (lv_at hl 0 rfl) ?_
      refine lv_bipush (v := nI 8) hx hb dX5_init_16 (by decide) ?_
      refine sn_icmp_ge (tgt := 40) hx hb dX5_init_18 (by decide) (by omega) (by decide) (fun dq1 => ?_) (fun dq1 => ?_)
      · have hi8 : i = 8 := by omega
        subst hi8
        have hM := hM.sub2 (fun _ h => rf_e h)
        exact hret _ _ _ _ _ _ _ _ _ hM (by rw [sh6 kc_11, sz_k kc_11 (by decide) (by decide) (by decide)]) (fun _ => by rw [sh7 kc_12]) (Nat.le_of_ble_eq_true rfl) (Nat.le_of_ble_eq_true rfl) dX5_init_40
      · refine lv_aload_n hx hb dX5_init_21 rfl (lv_at hl 1 rfl) ?_
        refine ns_get (C := RX5) (T := TX5) (N := 3) (v := .ref (b + 12)) hx hb hts hown hK hM (by omega) rfl inX5 2 (by decide) wf_X5_11 rfl dX5_init_22 ?_
        refine lv_iload_n hx hb dX5_init_25 rfl (lv_at hl 0 rfl) ?_
        refine ns_make (ci := 2) (fs := [.null, .null, .null, .int 0]) (C := RX3) (T := TX3) (N := 4) (n := 13 + 10 * i) (n' := 13 + 10 * i + 10) hx hb hts hown hK hM (by omega) (by omega) rfl inX3 tyX3 tyX3_ok wcl_X5_9 win_X3 wi_RX3 df_X3 (show 1 + 10 * i + 1 ≤ 81 by omega) (show 8 + 159 * i + 4 ≤ 1280 by omega) dX5_init_26 dX5_init_29 (ns_runIN (d := 2) (rest := [.int (nI i), .ref (b + 12)]) hx hb hml hts hown hK hN (k_moment l G b (13 + 10 * i) (kdRing i dq1)) mi_X3_init hN.2.2.2.2.1 wm_X3_init rfl hl.1 (Nat.le_of_ble_eq_true rfl) dX5_init_30 ⟨by decide, by decide⟩ ⟨(show 1 + 10 * i + 1 + 9 ≤ 81 by omega), (show 8 + 159 * i + 4 + 155 ≤ 1280 by omega)⟩) (fun H locs hM => ?_)
        have hv := hM.at3 (j := 13 + 10 * i) (by omega) (by omega) (by omega)
        rw [sh1 (kdRing i dq1)] at hv
        refine ns_aast (v := 13 + 10 * i) (i := i) hx hb hK hM (by decide) (by omega) hv dq1 (by decide) dX5_init_33 (fun H locs hM => ?_)
        refine lv_iinc (v := nI (i + 1)) (lv' := [(1, .int (nI (i + 1))), (0, .ref (b + 11))]) hx hb dX5_init_34 hl (k := 0) rfl (q_inc _) (by decide) rfl (fun ls hl => ?_)
        refine lv_goto (tgt := 15) hx hb dX5_init_37 (by decide) ?_
        refine W.widen (k := 1 + 10 * (i + 1)) (n := 8 + 159 * (i + 1)) (by omega) (by omega) ?_
        exact ihL (i + 1) dq1 (by omega) _ _ _ (hM.sub2 (fun _ h => rf_s h)) hl
  exact L15 (_ + 1) 0 (Nat.zero_le _) (Nat.lt_succ_self _) _ _ _ hM hl
set_option maxHeartbeats 4000000 in
set_option maxRecDepth 100000 in
theorem k_lots (l : Launch) (G : GT) (b : Nat) : KN l G b yX2_init cX2_init 1 1 0 0 115 116 (.inr (1, [.long 0])) := by
  refine nn_met (by decide) rfl (Nat.le_of_ble_eq_true rfl) ?_
  intro vp ve vs vm args below meth vc ls Q hx hb hml hown hts hin2 hK hN hM hl hret
  refine lv_aload_n hx hb dX2_init_0 rfl (lv_at hl 0 rfl) ?_
  refine W.objInit hx hb hown (hts _ wl_X2_1) (hts _ wm_objectInit) (hts _ wc_objectInit) rfl (by rw [hml]; exact hl.1) rfl dX2_init_1 (Nat.le_of_ble_eq_true rfl) (Nat.le_of_ble_eq_true rfl) ?_
  refine W.eq (g2 := F0 vm 4 ls []) rfl ?_
  exact hret _ _ _ _ _ _ _ _ _ hM (by rw [sh24 kc_115, sz_k kc_115 (by decide) (by decide) (by decide)]; rfl) (fun q => absurd rfl q) (Nat.le_of_ble_eq_true rfl) (Nat.le_of_ble_eq_true rfl) dX2_init_4
set_option maxHeartbeats 4000000 in
set_option maxRecDepth 100000 in
theorem k_search (l : Launch) (G : GT) (b : Nat) : KN l G b yX8_init cX8_init 1 2 8 493 116 125 (.inr (7, [.null, .null, .null, .null])) := by
  refine nn_met (by decide) rfl (Nat.le_of_ble_eq_true rfl) ?_
  intro vp ve vs vm args below meth vc ls Q hx hb hml hown hts hin2 hK hN hM hl hret
  refine lv_aload_n hx hb dX8_init_0 rfl (lv_at hl 0 rfl) ?_
  refine W.objInit hx hb hown (hts _ wl_X8_3) (hts _ wm_objectInit) (hts _ wc_objectInit) rfl (by rw [hml]; exact hl.1) rfl dX8_init_1 (Nat.le_of_ble_eq_true rfl) (Nat.le_of_ble_eq_true rfl) ?_
  refine W.eq (g2 := F0 vm 4 ls []) rfl ?_
  refine lv_aload_n hx hb dX8_init_4 rfl (lv_at hl 0 rfl) ?_
  refine ns_make (ci := 6) (fs := [.int 0, .null, .null, .null, .null]) (C := RX7) (T := TX7) (N := 5) (n := 117) (n' := 117 + 5) hx hb hts hown hK hM (by omega) (by omega) rfl inX7 tyX7 tyX7_ok wcl_X8_9 win_X7 wi_RX7 df_X7 (Nat.le_of_ble_eq_true rfl) (Nat.le_of_ble_eq_true rfl) dX8_init_5 dX8_init_8 (ns_runIN (d := 1) (rest := [.ref (b + 116)]) hx hb hml hts hown hK hN (k_row l G b 117 kc_117) mi_X7_init hN.2.2.2.2.2.2.2.1 wm_X7_init rfl hl.1 (Nat.le_of_ble_eq_true rfl) dX8_init_9 ⟨by decide, by decide⟩ ⟨(Nat.le_of_ble_eq_true rfl), (Nat.le_of_ble_eq_true rfl)⟩) (fun H locs hM => ?_)
  refine ns_putF (C := RX8) (T := TX8) (N := 4) (n := 122) (v := .ref (b + 117)) (ty := .object "GridRows$Row") hx hb hts hown hK hM (by omega) rfl inX8 tyX8 tyX8_ok nmX8 0 (by decide) wf_X8_12 rfl hin2 rfl (by decide +kernel) rfl rfl (Nat.le_of_ble_eq_true rfl) dX8_init_12 (fun H locs hM => ?_)
  have hM : NS G b 116 (122) (.inr (7, [.ref (b + 117), .null, .null, .null])) 116 (.inr (7, [.null, .null, .null, .null])) vs H locs := hM
  refine lv_aload_n hx hb dX8_init_15 rfl (lv_at hl 0 rfl) ?_
  refine lv_bipush (v := nI 96) hx hb dX8_init_16 (by decide) ?_
  refine ns_arrI (N := 96) (n := 122) hx hb hts hK hM (by omega) (by omega) (by rw [sh11 kc_122, sz_k kc_122 (by decide) (by decide) (by decide)]) (by decide) (Nat.le_of_ble_eq_true rfl) (Nat.le_of_ble_eq_true rfl) dX8_init_18 (fun H locs hM => ?_)
  refine ns_putF (C := RX8) (T := TX8) (N := 4) (n := 123) (v := .ref (b + 122)) (ty := .array .int) hx hb hts hown hK hM (by omega) rfl inX8 tyX8 tyX8_ok nmX8 1 (by decide) wf_X8_18 rfl hin2 rfl (by decide +kernel) rfl rfl (Nat.le_of_ble_eq_true rfl) dX8_init_20 (fun H locs hM => ?_)
  have hM : NS G b 116 (123) (.inr (7, [.ref (b + 117), .ref (b + 122), .null, .null])) 116 (.inr (7, [.null, .null, .null, .null])) vs H locs := hM
  refine lv_aload_n hx hb dX8_init_23 rfl (lv_at hl 0 rfl) ?_
  refine lv_bipush (v := nI 96) hx hb dX8_init_24 (by decide) ?_
  refine ns_arrI (N := 96) (n := 123) hx hb hts hK hM (by omega) (by omega) (by rw [sh11 kc_123, sz_k kc_123 (by decide) (by decide) (by decide)]) (by decide) (Nat.le_of_ble_eq_true rfl) (Nat.le_of_ble_eq_true rfl) dX8_init_26 (fun H locs hM => ?_)
  refine ns_putF (C := RX8) (T := TX8) (N := 4) (n := 124) (v := .ref (b + 123)) (ty := .array .int) hx hb hts hown hK hM (by omega) rfl inX8 tyX8 tyX8_ok nmX8 2 (by decide) wf_X8_22 rfl hin2 rfl (by decide +kernel) rfl rfl (Nat.le_of_ble_eq_true rfl) dX8_init_28 (fun H locs hM => ?_)
  have hM : NS G b 116 (124) (.inr (7, [.ref (b + 117), .ref (b + 122), .ref (b + 123), .null])) 116 (.inr (7, [.null, .null, .null, .null])) vs H locs := hM
  refine lv_aload_n hx hb dX8_init_31 rfl (lv_at hl 0 rfl) ?_
  refine lv_sipush (v := nI 200) hx hb dX8_init_32 (by decide) ?_
  refine ns_arrI (N := 200) (n := 124) hx hb hts hK hM (by omega) (by omega) (by rw [sh12 kc_124, sz_k kc_124 (by decide) (by decide) (by decide)]) (by decide) (Nat.le_of_ble_eq_true rfl) (Nat.le_of_ble_eq_true rfl) dX8_init_35 (fun H locs hM => ?_)
  refine ns_putF (C := RX8) (T := TX8) (N := 4) (n := 125) (v := .ref (b + 124)) (ty := .array .int) hx hb hts hown hK hM (by omega) rfl inX8 tyX8 tyX8_ok nmX8 3 (by decide) wf_X8_25 rfl hin2 rfl (by decide +kernel) rfl rfl (Nat.le_of_ble_eq_true rfl) dX8_init_37 (fun H locs hM => ?_)
  have hM : NS G b 116 (125) (.inr (7, [.ref (b + 117), .ref (b + 122), .ref (b + 123), .ref (b + 124)])) 116 (.inr (7, [.null, .null, .null, .null])) vs H locs := hM
  exact hret _ _ _ _ _ _ _ _ _ hM (by rw [sh10 kc_116]) (fun q => absurd rfl q) (Nat.le_of_ble_eq_true rfl) (Nat.le_of_ble_eq_true rfl) dX8_init_40
set_option maxHeartbeats 4000000 in
set_option maxRecDepth 100000 in
theorem k_parting (l : Launch) (G : GT) (b : Nat) : KN l G b yX4_init cX4_init 1 1 3 144 125 129 (.inr (3, [.null, .null, .null])) := by
  refine nn_met (by decide) rfl (Nat.le_of_ble_eq_true rfl) ?_
  intro vp ve vs vm args below meth vc ls Q hx hb hml hown hts hin2 hK hN hM hl hret
  refine lv_aload_n hx hb dX4_init_0 rfl (lv_at hl 0 rfl) ?_
  refine W.objInit hx hb hown (hts _ wl_X4_3) (hts _ wm_objectInit) (hts _ wc_objectInit) rfl (by rw [hml]; exact hl.1) rfl dX4_init_1 (Nat.le_of_ble_eq_true rfl) (Nat.le_of_ble_eq_true rfl) ?_
  refine W.eq (g2 := F0 vm 4 ls []) rfl ?_
  refine lv_aload_n hx hb dX4_init_4 rfl (lv_at hl 0 rfl) ?_
  refine lv_bipush (v := nI 16) hx hb dX4_init_5 (by decide) ?_
  refine ns_arrI (N := 16) (n := 126) hx hb hts hK hM (by omega) (by omega) (by rw [sh14 kc_126, sz_k kc_126 (by decide) (by decide) (by decide)]) (by decide) (Nat.le_of_ble_eq_true rfl) (Nat.le_of_ble_eq_true rfl) dX4_init_7 (fun H locs hM => ?_)
  refine ns_putF (C := RX4) (T := TX4) (N := 3) (n := 127) (v := .ref (b + 126)) (ty := .array .int) hx hb hts hown hK hM (by omega) rfl inX4 tyX4 tyX4_ok nmX4 0 (by decide) wf_X4_9 rfl hin2 rfl (by decide +kernel) rfl rfl (Nat.le_of_ble_eq_true rfl) dX4_init_9 (fun H locs hM => ?_)
  have hM : NS G b 125 (127) (.inr (3, [.ref (b + 126), .null, .null])) 125 (.inr (3, [.null, .null, .null])) vs H locs := hM
  refine lv_aload_n hx hb dX4_init_12 rfl (lv_at hl 0 rfl) ?_
  refine lv_bipush (v := nI 64) hx hb dX4_init_13 (by decide) ?_
  refine ns_arrI (N := 64) (n := 127) hx hb hts hK hM (by omega) (by omega) (by rw [sh15 kc_127, sz_k kc_127 (by decide) (by decide) (by decide)]) (by decide) (Nat.le_of_ble_eq_true rfl) (Nat.le_of_ble_eq_true rfl) dX4_init_15 (fun H locs hM => ?_)
  refine ns_putF (C := RX4) (T := TX4) (N := 3) (n := 128) (v := .ref (b + 127)) (ty := .array .int) hx hb hts hown hK hM (by omega) rfl inX4 tyX4 tyX4_ok nmX4 1 (by decide) wf_X4_15 rfl hin2 rfl (by decide +kernel) rfl rfl (Nat.le_of_ble_eq_true rfl) dX4_init_17 (fun H locs hM => ?_)
  have hM : NS G b 125 (128) (.inr (3, [.ref (b + 126), .ref (b + 127), .null])) 125 (.inr (3, [.null, .null, .null])) vs H locs := hM
  refine lv_aload_n hx hb dX4_init_20 rfl (lv_at hl 0 rfl) ?_
  refine lv_bipush (v := nI 64) hx hb dX4_init_21 (by decide) ?_
  refine ns_arrI (N := 64) (n := 128) hx hb hts hK hM (by omega) (by omega) (by rw [sh15 kc_128, sz_k kc_128 (by decide) (by decide) (by decide)]) (by decide) (Nat.le_of_ble_eq_true rfl) (Nat.le_of_ble_eq_true rfl) dX4_init_23 (fun H locs hM => ?_)
  refine ns_putF (C := RX4) (T := TX4) (N := 3) (n := 129) (v := .ref (b + 128)) (ty := .array .int) hx hb hts hown hK hM (by omega) rfl inX4 tyX4 tyX4_ok nmX4 2 (by decide) wf_X4_18 rfl hin2 rfl (by decide +kernel) rfl rfl (Nat.le_of_ble_eq_true rfl) dX4_init_25 (fun H locs hM => ?_)
  have hM : NS G b 125 (129) (.inr (3, [.ref (b + 126), .ref (b + 127), .ref (b + 128)])) 125 (.inr (3, [.null, .null, .null])) vs H locs := hM
  exact hret _ _ _ _ _ _ _ _ _ hM (by rw [sh13 kc_125]) (fun q => absurd rfl q) (Nat.le_of_ble_eq_true rfl) (Nat.le_of_ble_eq_true rfl) dX4_init_28
set_option maxHeartbeats 4000000 in
set_option maxRecDepth 100000 in
theorem k_turning (l : Launch) (G : GT) (b : Nat) : KN l G b yX9_init cX9_init 1 1 1 256 129 131 (.inr (8, [.null, .int 0])) := by
  refine nn_met (by decide) rfl (Nat.le_of_ble_eq_true rfl) ?_
  intro vp ve vs vm args below meth vc ls Q hx hb hml hown hts hin2 hK hN hM hl hret
  refine lv_aload_n hx hb dX9_init_0 rfl (lv_at hl 0 rfl) ?_
  refine W.objInit hx hb hown (hts _ wl_X9_3) (hts _ wm_objectInit) (hts _ wc_objectInit) rfl (by rw [hml]; exact hl.1) rfl dX9_init_1 (Nat.le_of_ble_eq_true rfl) (Nat.le_of_ble_eq_true rfl) ?_
  refine W.eq (g2 := F0 vm 4 ls []) rfl ?_
  refine lv_aload_n hx hb dX9_init_4 rfl (lv_at hl 0 rfl) ?_
  refine lv_sipush (v := nI 256) hx hb dX9_init_5 (by decide) ?_
  refine ns_arrI (N := 256) (n := 130) hx hb hts hK hM (by omega) (by omega) (by rw [sh17 kc_130, sz_k kc_130 (by decide) (by decide) (by decide)]) (by decide) (Nat.le_of_ble_eq_true rfl) (Nat.le_of_ble_eq_true rfl) dX9_init_8 (fun H locs hM => ?_)
  refine ns_putF (C := RX9) (T := TX9) (N := 2) (n := 131) (v := .ref (b + 130)) (ty := .array .int) hx hb hts hown hK hM (by omega) rfl inX9 tyX9 tyX9_ok nmX9 0 (by decide) wf_X9_11 rfl hin2 rfl (by decide +kernel) rfl rfl (Nat.le_of_ble_eq_true rfl) dX9_init_10 (fun H locs hM => ?_)
  have hM : NS G b 129 (131) (.inr (8, [.ref (b + 130), .int 0])) 129 (.inr (8, [.null, .int 0])) vs H locs := hM
  exact hret _ _ _ _ _ _ _ _ _ hM (by rw [sh16 kc_129, sz_k kc_129 (by decide) (by decide) (by decide)]) (fun q => absurd rfl q) (Nat.le_of_ble_eq_true rfl) (Nat.le_of_ble_eq_true rfl) dX9_init_13
set_option maxHeartbeats 4000000 in
set_option maxRecDepth 100000 in
theorem k_grid (l : Launch) (G : GT) (b : Nat) : KN l G b yX10_init cX10_init 2 4 130 2667 0 131 (.inr (9, [.null, .null, .null, .null, .null, .null, .null, .null])) := by
  refine nn_met (by decide) rfl (Nat.le_of_ble_eq_true rfl) ?_
  intro vp ve vs vm args below meth vc ls Q hx hb hml hown hts hin2 hK hN hM hl hret
  refine lv_aload_n hx hb dX10_init_0 rfl (lv_at hl 0 rfl) ?_
  refine W.objInit hx hb hown (hts _ wl_X10_1) (hts _ wm_objectInit) (hts _ wc_objectInit) rfl (by rw [hml]; exact hl.1) rfl dX10_init_1 (Nat.le_of_ble_eq_true rfl) (Nat.le_of_ble_eq_true rfl) ?_
  refine W.eq (g2 := F0 vm 4 ls []) rfl ?_
  refine lv_aload_n hx hb dX10_init_4 rfl (lv_at hl 0 rfl) ?_
  refine ns_make (ci := 2) (fs := [.null, .null, .null, .int 0]) (C := RX3) (T := TX3) (N := 4) (n := 1) (n' := 1 + 10) hx hb hts hown hK hM (by omega) (by omega) rfl inX3 tyX3 tyX3_ok wcl_X10_7 win_X3 wi_RX3 df_X3 (Nat.le_of_ble_eq_true rfl) (Nat.le_of_ble_eq_true rfl) dX10_init_5 dX10_init_8 (ns_runIN (d := 2) (rest := [.ref (b + 0)]) hx hb hml hts hown hK hN (k_moment l G b 1 kc_1) mi_X3_init hN.2.1 wm_X3_init rfl hl.1 (Nat.le_of_ble_eq_true rfl) dX10_init_9 ⟨by decide, by decide⟩ ⟨(Nat.le_of_ble_eq_true rfl), (Nat.le_of_ble_eq_true rfl)⟩) (fun H locs hM => ?_)
  refine ns_putF (C := RX10) (T := TX10) (N := 8) (n := 11) (v := .ref (b + 1)) (ty := .object "GridRows$Moment") hx hb hts hown hK hM (by omega) rfl inX10 tyX10 tyX10_ok nmX10 0 (by decide) wf_X10_10 rfl hin2 rfl (by decide +kernel) rfl rfl (Nat.le_of_ble_eq_true rfl) dX10_init_12 (fun H locs hM => ?_)
  have hM : NS G b 0 (11) (.inr (9, [.ref (b + 1), .null, .null, .null, .null, .null, .null, .null])) 0 (.inr (9, [.null, .null, .null, .null, .null, .null, .null, .null])) vs H locs := hM
  refine lv_aload_n hx hb dX10_init_15 rfl (lv_at hl 0 rfl) ?_
  refine ns_make (ci := 4) (fs := [.int 0, .int 0, .null]) (C := RX5) (T := TX5) (N := 3) (n := 11) (n' := 11 + 82) hx hb hts hown hK hM (by omega) (by omega) rfl inX5 tyX5 tyX5_ok wcl_X10_16 win_X5 wi_RX5 df_X5 (Nat.le_of_ble_eq_true rfl) (Nat.le_of_ble_eq_true rfl) dX10_init_16 dX10_init_19 (ns_runI (d := 3) (rest := [.ref (b + 0)]) hx hb hml hts hown hK hN (k_past l G b) mi_X5_init wl_X10_18 wm_X5_init rfl hl.1 (Nat.le_of_ble_eq_true rfl) dX10_init_20 ⟨by decide, by decide⟩ ⟨(Nat.le_of_ble_eq_true rfl), (Nat.le_of_ble_eq_true rfl)⟩) (fun H locs hM => ?_)
  refine ns_putF (C := RX10) (T := TX10) (N := 8) (n := 93) (v := .ref (b + 11)) (ty := .object "GridRows$Past") hx hb hts hown hK hM (by omega) rfl inX10 tyX10 tyX10_ok nmX10 1 (by decide) wf_X10_19 rfl hin2 rfl (by decide +kernel) rfl rfl (Nat.le_of_ble_eq_true rfl) dX10_init_23 (fun H locs hM => ?_)
  have hM : NS G b 0 (93) (.inr (9, [.ref (b + 1), .ref (b + 11), .null, .null, .null, .null, .null, .null])) 0 (.inr (9, [.null, .null, .null, .null, .null, .null, .null, .null])) vs H locs := hM
  refine lv_aload_n hx hb dX10_init_26 rfl (lv_at hl 0 rfl) ?_
  refine lv_iconst (v := nI 2) hx hb dX10_init_27 (by decide) ?_
  refine ns_anew (N := 2) (n := 93) hx hb hts hown hK hN hM (by decide) wcl_X10_7 (by decide) (Nat.le_of_ble_eq_true rfl) (Nat.le_of_ble_eq_true rfl) dX10_init_28 (fun H locs hM => ?_)
  refine ns_putF (C := RX10) (T := TX10) (N := 8) (n := 94) (v := .ref (b + 93)) (ty := .array (.object "GridRows$Moment")) hx hb hts hown hK hM (by omega) rfl inX10 tyX10 tyX10_ok nmX10 2 (by decide) wf_X10_23 rfl hin2 rfl (by decide +kernel) rfl rfl (Nat.le_of_ble_eq_true rfl) dX10_init_31 (fun H locs hM => ?_)
  have hM : NS G b 0 (94) (.inr (9, [.ref (b + 1), .ref (b + 11), .ref (b + 93), .null, .null, .null, .null, .null])) 93 (.inl (G.2.2.2, 2, .inr (.inr (.inr (.inr (fun _ => none)))))) vs H locs := hM
  refine lv_iconst (v := nI 0) hx hb dX10_init_34 (by decide) ?_
  refine lv_istore_n (lv' := [(1, .int (nI 0)), (0, .ref (b + 0))]) hx hb dX10_init_35 rfl hl (by decide) rfl (fun ls hl => ?_)
  have hM : NS G b 0 (94 + 10 * 0) (.inr (9, [.ref (b + 1), .ref (b + 11), .ref (b + 93), .null, .null, .null, .null, .null])) 93 (rfE G b 2 94 0) vs H locs := hM.sub2 (fun _ h => rf_0 h)
  have L36 : ∀ (fuel i : Nat), i ≤ 2 → 2 - i < fuel → ∀ (H : Heap) (locs : List Loc) (ls : Array Slot), NS G b 0 (94 + 10 * i) (.inr (9, [.ref (b + 1), .ref (b + 11), .ref (b + 93), .null, .null, .null, .null, .null])) 93 (rfE G b 2 94 i) vs H locs → lv_has ls 2 [(1, .int (nI i)), (0, .ref (b + 0))] → W vp l ve (RC 4 130 2667) vs vm args below meth vc H locs (93 + 10 * i) (1444 + 159 * i) Q (F0 vm 36 ls []) := by
    intro fuel
    induction fuel with
    | zero => intro i _ hF; exact absurd hF (Nat.not_lt_zero _)
    | succ fuel ihL =>
      intro i hi hF H locs ls hM hl
      refine lv_iload_n hx hb dX10_init_36 rfl (lv_at hl 0 rfl) ?_
      refine lv_iconst (v := nI 2) hx hb dX10_init_37 (by decide) ?_
      refine sn_icmp_ge (tgt := 60) hx hb dX10_init_38 (by decide) (by omega) (by decide) (fun dq1 => ?_) (fun dq1 => ?_)
      · have hi8 : i = 2 := by omega
        subst hi8
        have hM := hM.sub2 (fun _ h => rf_e h)
        have hM : NS G b 0 (114) (.inr (9, [.ref (b + 1), .ref (b + 11), .ref (b + 93), .null, .null, .null, .null, .null])) 93 (.inl (G.2.2.2, 2, .inr (.inr (.inr (.inr (fun j => some (b + (94 + 10 * j)))))))) vs H locs := hM
        refine lv_aload_n hx hb dX10_init_60 rfl (lv_at hl 1 rfl) ?_
        refine lv_iconst (v := nI 2) hx hb dX10_init_61 (by decide) ?_
        refine ns_arrZ (N := 2) (n := 114) hx hb hts hK hM (by omega) (by omega) (by rw [sh9 kc_114, sz_k kc_114 (by decide) (by decide) (by decide)]) (by decide) (Nat.le_of_ble_eq_true rfl) (Nat.le_of_ble_eq_true rfl) dX10_init_62 (fun H locs hM => ?_)
        refine ns_putF (C := RX10) (T := TX10) (N := 8) (n := 115) (v := .ref (b + 114)) (ty := .array .boolean) hx hb hts hown hK hM (by omega) rfl inX10 tyX10 tyX10_ok nmX10 3 (by decide) wf_X10_27 rfl hin2 rfl (by decide +kernel) rfl rfl (Nat.le_of_ble_eq_true rfl) dX10_init_64 (fun H locs hM => ?_)
        have hM : NS G b 0 (115) (.inr (9, [.ref (b + 1), .ref (b + 11), .ref (b + 93), .ref (b + 114), .null, .null, .null, .null])) 93 (.inl (G.2.2.2, 2, .inr (.inr (.inr (.inr (fun j => some (b + (94 + 10 * j)))))))) vs H locs := hM
        refine lv_aload_n hx hb dX10_init_67 rfl (lv_at hl 1 rfl) ?_
        refine ns_make (ci := 1) (fs := [.long 0]) (C := RX2) (T := TX2) (N := 1) (n := 115) (n' := 115 + 1) hx hb hts hown hK hM (by omega) (by omega) rfl inX2 tyX2 tyX2_ok wcl_X10_31 win_X2 wi_RX2 df_X2 (Nat.le_of_ble_eq_true rfl) (Nat.le_of_ble_eq_true rfl) dX10_init_68 dX10_init_71 (ns_runIN (d := 1) (rest := [.ref (b + 0)]) hx hb hml hts hown hK hN (k_lots l G b) mi_X2_init hN.2.2.2.2.2.1 wm_X2_init rfl hl.1 (Nat.le_of_ble_eq_true rfl) dX10_init_72 ⟨by decide, by decide⟩ ⟨(Nat.le_of_ble_eq_true rfl), (Nat.le_of_ble_eq_true rfl)⟩) (fun H locs hM => ?_)
        refine ns_putF (C := RX10) (T := TX10) (N := 8) (n := 116) (v := .ref (b + 115)) (ty := .object "GridRows$Lots") hx hb hts hown hK hM (by omega) rfl inX10 tyX10 tyX10_ok nmX10 4 (by decide) wf_X10_34 rfl hin2 rfl (by decide +kernel) rfl rfl (Nat.le_of_ble_eq_true rfl) dX10_init_75 (fun H locs hM => ?_)
        have hM : NS G b 0 (116) (.inr (9, [.ref (b + 1), .ref (b + 11), .ref (b + 93), .ref (b + 114), .ref (b + 115), .null, .null, .null])) 93 (.inl (G.2.2.2, 2, .inr (.inr (.inr (.inr (fun j => some (b + (94 + 10 * j)))))))) vs H locs := hM
        refine lv_aload_n hx hb dX10_init_78 rfl (lv_at hl 1 rfl) ?_
        refine ns_make (ci := 7) (fs := [.null, .null, .null, .null]) (C := RX8) (T := TX8) (N := 4) (n := 116) (n' := 116 + 9) hx hb hts hown hK hM (by omega) (by omega) rfl inX8 tyX8 tyX8_ok wcl_X10_38 win_X8 wi_RX8 df_X8 (Nat.le_of_ble_eq_true rfl) (Nat.le_of_ble_eq_true rfl) dX10_init_79 dX10_init_82 (ns_runIN (d := 2) (rest := [.ref (b + 0)]) hx hb hml hts hown hK hN (k_search l G b) mi_X8_init hN.2.2.2.2.2.2.1 wm_X8_init rfl hl.1 (Nat.le_of_ble_eq_true rfl) dX10_init_83 ⟨by decide, by decide⟩ ⟨(Nat.le_of_ble_eq_true rfl), (Nat.le_of_ble_eq_true rfl)⟩) (fun H locs hM => ?_)
        refine ns_putF (C := RX10) (T := TX10) (N := 8) (n := 125) (v := .ref (b + 116)) (ty := .object "GridRows$Search") hx hb hts hown hK hM (by omega) rfl inX10 tyX10 tyX10_ok nmX10 5 (by decide) wf_X10_41 rfl hin2 rfl (by decide +kernel) rfl rfl (Nat.le_of_ble_eq_true rfl) dX10_init_86 (fun H locs hM => ?_)
        have hM : NS G b 0 (125) (.inr (9, [.ref (b + 1), .ref (b + 11), .ref (b + 93), .ref (b + 114), .ref (b + 115), .ref (b + 116), .null, .null])) 93 (.inl (G.2.2.2, 2, .inr (.inr (.inr (.inr (fun j => some (b + (94 + 10 * j)))))))) vs H locs := hM
        refine lv_aload_n hx hb dX10_init_89 rfl (lv_at hl 1 rfl) ?_
        refine ns_make (ci := 3) (fs := [.null, .null, .null]) (C := RX4) (T := TX4) (N := 3) (n := 125) (n' := 125 + 4) hx hb hts hown hK hM (by omega) (by omega) rfl inX4 tyX4 tyX4_ok wcl_X10_45 win_X4 wi_RX4 df_X4 (Nat.le_of_ble_eq_true rfl) (Nat.le_of_ble_eq_true rfl) dX10_init_90 dX10_init_93 (ns_runIN (d := 1) (rest := [.ref (b + 0)]) hx hb hml hts hown hK hN (k_parting l G b) mi_X4_init hN.2.2.2.2.2.2.2.2.1 wm_X4_init rfl hl.1 (Nat.le_of_ble_eq_true rfl) dX10_init_94 ⟨by decide, by decide⟩ ⟨(Nat.le_of_ble_eq_true rfl), (Nat.le_of_ble_eq_true rfl)⟩) (fun H locs hM => ?_)
        refine ns_putF (C := RX10) (T := TX10) (N := 8) (n := 129) (v := .ref (b + 125)) (ty := .object "GridRows$Parting") hx hb hts hown hK hM (by omega) rfl inX10 tyX10 tyX10_ok nmX10 6 (by decide) wf_X10_48 rfl hin2 rfl (by decide +kernel) rfl rfl (Nat.le_of_ble_eq_true rfl) dX10_init_97 (fun H locs hM => ?_)
        have hM : NS G b 0 (129) (.inr (9, [.ref (b + 1), .ref (b + 11), .ref (b + 93), .ref (b + 114), .ref (b + 115), .ref (b + 116), .ref (b + 125), .null])) 93 (.inl (G.2.2.2, 2, .inr (.inr (.inr (.inr (fun j => some (b + (94 + 10 * j)))))))) vs H locs := hM
        refine lv_aload_n hx hb dX10_init_100 rfl (lv_at hl 1 rfl) ?_
        refine ns_make (ci := 8) (fs := [.null, .int 0]) (C := RX9) (T := TX9) (N := 2) (n := 129) (n' := 129 + 2) hx hb hts hown hK hM (by omega) (by omega) rfl inX9 tyX9 tyX9_ok wcl_X10_52 win_X9 wi_RX9 df_X9 (Nat.le_of_ble_eq_true rfl) (Nat.le_of_ble_eq_true rfl) dX10_init_101 dX10_init_104 (ns_runIN (d := 1) (rest := [.ref (b + 0)]) hx hb hml hts hown hK hN (k_turning l G b) mi_X9_init hN.2.2.2.2.2.2.2.2.2 wm_X9_init rfl hl.1 (Nat.le_of_ble_eq_true rfl) dX10_init_105 ⟨by decide, by decide⟩ ⟨(Nat.le_of_ble_eq_true rfl), (Nat.le_of_ble_eq_true rfl)⟩) (fun H locs hM => ?_)
        refine ns_putF (C := RX10) (T := TX10) (N := 8) (n := 131) (v := .ref (b + 129)) (ty := .object "GridRows$Turning") hx hb hts hown hK hM (by omega) rfl inX10 tyX10 tyX10_ok nmX10 7 (by decide) wf_X10_55 rfl hin2 rfl (by decide +kernel) rfl rfl (Nat.le_of_ble_eq_true rfl) dX10_init_108 (fun H locs hM => ?_)
        have hM : NS G b 0 (131) (.inr (9, [.ref (b + 1), .ref (b + 11), .ref (b + 93), .ref (b + 114), .ref (b + 115), .ref (b + 116), .ref (b + 125), .ref (b + 129)])) 93 (.inl (G.2.2.2, 2, .inr (.inr (.inr (.inr (fun j => some (b + (94 + 10 * j)))))))) vs H locs := hM
        exact hret _ _ _ _ _ _ _ _ _ hM (by rw [sh0 kc_0]) (fun _ => by rw [sh8 kc_93]) (Nat.le_of_ble_eq_true rfl) (Nat.le_of_ble_eq_true rfl) dX10_init_111
      · refine lv_aload_n hx hb dX10_init_41 rfl (lv_at hl 1 rfl) ?_
        refine ns_get (C := RX10) (T := TX10) (N := 8) (v := .ref (b + 93)) hx hb hts hown hK hM (by omega) rfl inX10 2 (by decide) wf_X10_23 rfl dX10_init_42 ?_
        refine lv_iload_n hx hb dX10_init_45 rfl (lv_at hl 0 rfl) ?_
        refine ns_make (ci := 2) (fs := [.null, .null, .null, .int 0]) (C := RX3) (T := TX3) (N := 4) (n := 94 + 10 * i) (n' := 94 + 10 * i + 10) hx hb hts hown hK hM (by omega) (by omega) rfl inX3 tyX3 tyX3_ok wcl_X10_7 win_X3 wi_RX3 df_X3 (show 93 + 10 * i + 1 ≤ 130 by omega) (show 1444 + 159 * i + 4 ≤ 2667 by omega) dX10_init_46 dX10_init_49 (ns_runIN (d := 2) (rest := [.int (nI i), .ref (b + 93)]) hx hb hml hts hown hK hN (k_moment l G b (94 + 10 * i) (kdIma i dq1)) mi_X3_init hN.2.1 wm_X3_init rfl hl.1 (Nat.le_of_ble_eq_true rfl) dX10_init_50 ⟨by decide, by decide⟩ ⟨(show 93 + 10 * i + 1 + 9 ≤ 130 by omega), (show 1444 + 159 * i + 4 + 155 ≤ 2667 by omega)⟩) (fun H locs hM => ?_)
        have hv := hM.at3 (j := 94 + 10 * i) (by omega) (by omega) (by omega)
        rw [sh1 (kdIma i dq1)] at hv
        refine ns_aast (v := 94 + 10 * i) (i := i) hx hb hK hM (by decide) (by omega) hv dq1 (by decide) dX10_init_53 (fun H locs hM => ?_)
        refine lv_iinc (v := nI (i + 1)) (lv' := [(1, .int (nI (i + 1))), (0, .ref (b + 0))]) hx hb dX10_init_54 hl (k := 0) rfl (q_inc _) (by decide) rfl (fun ls hl => ?_)
        refine lv_goto (tgt := 36) hx hb dX10_init_57 (by decide) ?_
        refine W.widen (k := 93 + 10 * (i + 1)) (n := 1444 + 159 * (i + 1)) (by omega) (by omega) ?_
        exact ihL (i + 1) dq1 (by omega) _ _ _ (hM.sub2 (fun _ h => rf_s h)) hl
  exact L36 (_ + 1) 0 (Nat.zero_le _) (Nat.lt_succ_self _) _ _ _ hM hl
set_option maxHeartbeats 4000000 in
set_option maxRecDepth 100000 in
theorem k_model (l : Launch) (G : GT) (b : Nat) : KN l G b yX11_init cX11_init 1 1 12 5620 131 144 (.inr (10, [.null, .null, .int 0, .null, .null, .null, .null, .null, .null, .null, .null, .null, .null])) := by
  refine nn_met (by decide) rfl (Nat.le_of_ble_eq_true rfl) ?_
  intro vp ve vs vm args below meth vc ls Q hx hb hml hown hts hin2 hK hN hM hl hret
  refine lv_aload_n hx hb dX11_init_0 rfl (lv_at hl 0 rfl) ?_
  refine W.objInit hx hb hown (hts _ wl_X11_1) (hts _ wm_objectInit) (hts _ wc_objectInit) rfl (by rw [hml]; exact hl.1) rfl dX11_init_1 (Nat.le_of_ble_eq_true rfl) (Nat.le_of_ble_eq_true rfl) ?_
  refine W.eq (g2 := F0 vm 4 ls []) rfl ?_
  refine lv_aload_n hx hb dX11_init_4 rfl (lv_at hl 0 rfl) ?_
  refine lv_bipush (v := nI 102) hx hb dX11_init_5 (by decide) ?_
  refine ns_arrIA (N := 102) (n := 132) hx hb hts hK hM (by omega) (by decide) (Nat.le_of_ble_eq_true rfl) (Nat.le_of_ble_eq_true rfl) dX11_init_7 (fun H locs hM => ?_)
  refine ns_putF (C := RX11) (T := TX11) (N := 13) (n := 133) (v := .ref (b + 132)) (ty := .array .int) hx hb hts hown hK hM (by omega) rfl inX11 tyX11 tyX11_ok nmX11 0 (by decide) wf_X11_7 rfl hin2 rfl (by decide +kernel) rfl rfl (Nat.le_of_ble_eq_true rfl) dX11_init_9 (fun H locs hM => ?_)
  have hM : NS G b 131 (133) (.inr (10, [.ref (b + 132), .null, .int 0, .null, .null, .null, .null, .null, .null, .null, .null, .null, .null])) 132 (.inl (G.2.1, 102, .inl (fun _ => 0))) vs H locs := hM
  refine lv_aload_n hx hb dX11_init_12 rfl (lv_at hl 0 rfl) ?_
  refine lv_sipush (v := nI 816) hx hb dX11_init_13 (by decide) ?_
  refine ns_arrI (N := 816) (n := 133) hx hb hts hK hM (by omega) (by omega) (by rw [sh20 kc_133, sz_k kc_133 (by decide) (by decide) (by decide)]) (by decide) (Nat.le_of_ble_eq_true rfl) (Nat.le_of_ble_eq_true rfl) dX11_init_16 (fun H locs hM => ?_)
  refine ns_putF (C := RX11) (T := TX11) (N := 13) (n := 134) (v := .ref (b + 133)) (ty := .array .int) hx hb hts hown hK hM (by omega) rfl inX11 tyX11 tyX11_ok nmX11 1 (by decide) wf_X11_13 rfl hin2 rfl (by decide +kernel) rfl rfl (Nat.le_of_ble_eq_true rfl) dX11_init_18 (fun H locs hM => ?_)
  have hM : NS G b 131 (134) (.inr (10, [.ref (b + 132), .ref (b + 133), .int 0, .null, .null, .null, .null, .null, .null, .null, .null, .null, .null])) 132 (.inl (G.2.1, 102, .inl (fun _ => 0))) vs H locs := hM
  refine lv_aload_n hx hb dX11_init_21 rfl (lv_at hl 0 rfl) ?_
  refine lv_sipush (v := nI 204) hx hb dX11_init_22 (by decide) ?_
  refine ns_arrI (N := 204) (n := 134) hx hb hts hK hM (by omega) (by omega) (by rw [sh21 kc_134, sz_k kc_134 (by decide) (by decide) (by decide)]) (by decide) (Nat.le_of_ble_eq_true rfl) (Nat.le_of_ble_eq_true rfl) dX11_init_25 (fun H locs hM => ?_)
  refine ns_putF (C := RX11) (T := TX11) (N := 13) (n := 135) (v := .ref (b + 134)) (ty := .array .int) hx hb hts hown hK hM (by omega) rfl inX11 tyX11 tyX11_ok nmX11 3 (by decide) wf_X11_16 rfl hin2 rfl (by decide +kernel) rfl rfl (Nat.le_of_ble_eq_true rfl) dX11_init_27 (fun H locs hM => ?_)
  have hM : NS G b 131 (135) (.inr (10, [.ref (b + 132), .ref (b + 133), .int 0, .ref (b + 134), .null, .null, .null, .null, .null, .null, .null, .null, .null])) 132 (.inl (G.2.1, 102, .inl (fun _ => 0))) vs H locs := hM
  refine lv_aload_n hx hb dX11_init_30 rfl (lv_at hl 0 rfl) ?_
  refine lv_iconst (v := nI 2) hx hb dX11_init_31 (by decide) ?_
  refine ns_arrZ (N := 2) (n := 135) hx hb hts hK hM (by omega) (by omega) (by rw [sh9 kc_135, sz_k kc_135 (by decide) (by decide) (by decide)]) (by decide) (Nat.le_of_ble_eq_true rfl) (Nat.le_of_ble_eq_true rfl) dX11_init_32 (fun H locs hM => ?_)
  refine ns_putF (C := RX11) (T := TX11) (N := 13) (n := 136) (v := .ref (b + 135)) (ty := .array .boolean) hx hb hts hown hK hM (by omega) rfl inX11 tyX11 tyX11_ok nmX11 4 (by decide) wf_X11_19 rfl hin2 rfl (by decide +kernel) rfl rfl (Nat.le_of_ble_eq_true rfl) dX11_init_34 (fun H locs hM => ?_)
  have hM : NS G b 131 (136) (.inr (10, [.ref (b + 132), .ref (b + 133), .int 0, .ref (b + 134), .ref (b + 135), .null, .null, .null, .null, .null, .null, .null, .null])) 132 (.inl (G.2.1, 102, .inl (fun _ => 0))) vs H locs := hM
  refine lv_aload_n hx hb dX11_init_37 rfl (lv_at hl 0 rfl) ?_
  refine lv_sipush (v := nI 200) hx hb dX11_init_38 (by decide) ?_
  refine ns_arrI (N := 200) (n := 136) hx hb hts hK hM (by omega) (by omega) (by rw [sh12 kc_136, sz_k kc_136 (by decide) (by decide) (by decide)]) (by decide) (Nat.le_of_ble_eq_true rfl) (Nat.le_of_ble_eq_true rfl) dX11_init_41 (fun H locs hM => ?_)
  refine ns_putF (C := RX11) (T := TX11) (N := 13) (n := 137) (v := .ref (b + 136)) (ty := .array .int) hx hb hts hown hK hM (by omega) rfl inX11 tyX11 tyX11_ok nmX11 5 (by decide) wf_X11_23 rfl hin2 rfl (by decide +kernel) rfl rfl (Nat.le_of_ble_eq_true rfl) dX11_init_43 (fun H locs hM => ?_)
  have hM : NS G b 131 (137) (.inr (10, [.ref (b + 132), .ref (b + 133), .int 0, .ref (b + 134), .ref (b + 135), .ref (b + 136), .null, .null, .null, .null, .null, .null, .null])) 132 (.inl (G.2.1, 102, .inl (fun _ => 0))) vs H locs := hM
  refine lv_aload_n hx hb dX11_init_46 rfl (lv_at hl 0 rfl) ?_
  refine lv_bipush (v := nI 24) hx hb dX11_init_47 (by decide) ?_
  refine ns_arrI (N := 24) (n := 137) hx hb hts hK hM (by omega) (by omega) (by rw [sh4 kc_137, sz_k kc_137 (by decide) (by decide) (by decide)]) (by decide) (Nat.le_of_ble_eq_true rfl) (Nat.le_of_ble_eq_true rfl) dX11_init_49 (fun H locs hM => ?_)
  refine ns_putF (C := RX11) (T := TX11) (N := 13) (n := 138) (v := .ref (b + 137)) (ty := .array .int) hx hb hts hown hK hM (by omega) rfl inX11 tyX11 tyX11_ok nmX11 6 (by decide) wf_X11_26 rfl hin2 rfl (by decide +kernel) rfl rfl (Nat.le_of_ble_eq_true rfl) dX11_init_51 (fun H locs hM => ?_)
  have hM : NS G b 131 (138) (.inr (10, [.ref (b + 132), .ref (b + 133), .int 0, .ref (b + 134), .ref (b + 135), .ref (b + 136), .ref (b + 137), .null, .null, .null, .null, .null, .null])) 132 (.inl (G.2.1, 102, .inl (fun _ => 0))) vs H locs := hM
  refine lv_aload_n hx hb dX11_init_54 rfl (lv_at hl 0 rfl) ?_
  refine lv_bipush (v := nI 24) hx hb dX11_init_55 (by decide) ?_
  refine ns_arrI (N := 24) (n := 138) hx hb hts hK hM (by omega) (by omega) (by rw [sh4 kc_138, sz_k kc_138 (by decide) (by decide) (by decide)]) (by decide) (Nat.le_of_ble_eq_true rfl) (Nat.le_of_ble_eq_true rfl) dX11_init_57 (fun H locs hM => ?_)
  refine ns_putF (C := RX11) (T := TX11) (N := 13) (n := 139) (v := .ref (b + 138)) (ty := .array .int) hx hb hts hown hK hM (by omega) rfl inX11 tyX11 tyX11_ok nmX11 7 (by decide) wf_X11_29 rfl hin2 rfl (by decide +kernel) rfl rfl (Nat.le_of_ble_eq_true rfl) dX11_init_59 (fun H locs hM => ?_)
  have hM : NS G b 131 (139) (.inr (10, [.ref (b + 132), .ref (b + 133), .int 0, .ref (b + 134), .ref (b + 135), .ref (b + 136), .ref (b + 137), .ref (b + 138), .null, .null, .null, .null, .null])) 132 (.inl (G.2.1, 102, .inl (fun _ => 0))) vs H locs := hM
  refine lv_aload_n hx hb dX11_init_62 rfl (lv_at hl 0 rfl) ?_
  refine lv_bipush (v := nI 24) hx hb dX11_init_63 (by decide) ?_
  refine ns_arrI (N := 24) (n := 139) hx hb hts hK hM (by omega) (by omega) (by rw [sh4 kc_139, sz_k kc_139 (by decide) (by decide) (by decide)]) (by decide) (Nat.le_of_ble_eq_true rfl) (Nat.le_of_ble_eq_true rfl) dX11_init_65 (fun H locs hM => ?_)
  refine ns_putF (C := RX11) (T := TX11) (N := 13) (n := 140) (v := .ref (b + 139)) (ty := .array .int) hx hb hts hown hK hM (by omega) rfl inX11 tyX11 tyX11_ok nmX11 8 (by decide) wf_X11_32 rfl hin2 rfl (by decide +kernel) rfl rfl (Nat.le_of_ble_eq_true rfl) dX11_init_67 (fun H locs hM => ?_)
  have hM : NS G b 131 (140) (.inr (10, [.ref (b + 132), .ref (b + 133), .int 0, .ref (b + 134), .ref (b + 135), .ref (b + 136), .ref (b + 137), .ref (b + 138), .ref (b + 139), .null, .null, .null, .null])) 132 (.inl (G.2.1, 102, .inl (fun _ => 0))) vs H locs := hM
  refine lv_aload_n hx hb dX11_init_70 rfl (lv_at hl 0 rfl) ?_
  refine lv_bipush (v := nI 64) hx hb dX11_init_71 (by decide) ?_
  refine ns_arrI (N := 64) (n := 140) hx hb hts hK hM (by omega) (by omega) (by rw [sh15 kc_140, sz_k kc_140 (by decide) (by decide) (by decide)]) (by decide) (Nat.le_of_ble_eq_true rfl) (Nat.le_of_ble_eq_true rfl) dX11_init_73 (fun H locs hM => ?_)
  refine ns_putF (C := RX11) (T := TX11) (N := 13) (n := 141) (v := .ref (b + 140)) (ty := .array .int) hx hb hts hown hK hM (by omega) rfl inX11 tyX11 tyX11_ok nmX11 9 (by decide) wf_X11_35 rfl hin2 rfl (by decide +kernel) rfl rfl (Nat.le_of_ble_eq_true rfl) dX11_init_75 (fun H locs hM => ?_)
  have hM : NS G b 131 (141) (.inr (10, [.ref (b + 132), .ref (b + 133), .int 0, .ref (b + 134), .ref (b + 135), .ref (b + 136), .ref (b + 137), .ref (b + 138), .ref (b + 139), .ref (b + 140), .null, .null, .null])) 132 (.inl (G.2.1, 102, .inl (fun _ => 0))) vs H locs := hM
  refine lv_aload_n hx hb dX11_init_78 rfl (lv_at hl 0 rfl) ?_
  refine lv_bipush (v := nI 64) hx hb dX11_init_79 (by decide) ?_
  refine ns_arrI (N := 64) (n := 141) hx hb hts hK hM (by omega) (by omega) (by rw [sh15 kc_141, sz_k kc_141 (by decide) (by decide) (by decide)]) (by decide) (Nat.le_of_ble_eq_true rfl) (Nat.le_of_ble_eq_true rfl) dX11_init_81 (fun H locs hM => ?_)
  refine ns_putF (C := RX11) (T := TX11) (N := 13) (n := 142) (v := .ref (b + 141)) (ty := .array .int) hx hb hts hown hK hM (by omega) rfl inX11 tyX11 tyX11_ok nmX11 10 (by decide) wf_X11_38 rfl hin2 rfl (by decide +kernel) rfl rfl (Nat.le_of_ble_eq_true rfl) dX11_init_83 (fun H locs hM => ?_)
  have hM : NS G b 131 (142) (.inr (10, [.ref (b + 132), .ref (b + 133), .int 0, .ref (b + 134), .ref (b + 135), .ref (b + 136), .ref (b + 137), .ref (b + 138), .ref (b + 139), .ref (b + 140), .ref (b + 141), .null, .null])) 132 (.inl (G.2.1, 102, .inl (fun _ => 0))) vs H locs := hM
  refine lv_aload_n hx hb dX11_init_86 rfl (lv_at hl 0 rfl) ?_
  refine lv_sipush (v := nI 2048) hx hb dX11_init_87 (by decide) ?_
  refine ns_arrZ (N := 2048) (n := 142) hx hb hts hK hM (by omega) (by omega) (by rw [sh22 kc_142, sz_k kc_142 (by decide) (by decide) (by decide)]) (by decide) (Nat.le_of_ble_eq_true rfl) (Nat.le_of_ble_eq_true rfl) dX11_init_90 (fun H locs hM => ?_)
  refine ns_putF (C := RX11) (T := TX11) (N := 13) (n := 143) (v := .ref (b + 142)) (ty := .array .boolean) hx hb hts hown hK hM (by omega) rfl inX11 tyX11 tyX11_ok nmX11 11 (by decide) wf_X11_41 rfl hin2 rfl (by decide +kernel) rfl rfl (Nat.le_of_ble_eq_true rfl) dX11_init_92 (fun H locs hM => ?_)
  have hM : NS G b 131 (143) (.inr (10, [.ref (b + 132), .ref (b + 133), .int 0, .ref (b + 134), .ref (b + 135), .ref (b + 136), .ref (b + 137), .ref (b + 138), .ref (b + 139), .ref (b + 140), .ref (b + 141), .ref (b + 142), .null])) 132 (.inl (G.2.1, 102, .inl (fun _ => 0))) vs H locs := hM
  refine lv_aload_n hx hb dX11_init_95 rfl (lv_at hl 0 rfl) ?_
  refine lv_sipush (v := nI 2048) hx hb dX11_init_96 (by decide) ?_
  refine ns_arrI (N := 2048) (n := 143) hx hb hts hK hM (by omega) (by omega) (by rw [sh23 kc_143, sz_k kc_143 (by decide) (by decide) (by decide)]) (by decide) (Nat.le_of_ble_eq_true rfl) (Nat.le_of_ble_eq_true rfl) dX11_init_99 (fun H locs hM => ?_)
  refine ns_putF (C := RX11) (T := TX11) (N := 13) (n := 144) (v := .ref (b + 143)) (ty := .array .int) hx hb hts hown hK hM (by omega) rfl inX11 tyX11 tyX11_ok nmX11 12 (by decide) wf_X11_44 rfl hin2 rfl (by decide +kernel) rfl rfl (Nat.le_of_ble_eq_true rfl) dX11_init_101 (fun H locs hM => ?_)
  have hM : NS G b 131 (144) (.inr (10, [.ref (b + 132), .ref (b + 133), .int 0, .ref (b + 134), .ref (b + 135), .ref (b + 136), .ref (b + 137), .ref (b + 138), .ref (b + 139), .ref (b + 140), .ref (b + 141), .ref (b + 142), .ref (b + 143)])) 132 (.inl (G.2.1, 102, .inl (fun _ => 0))) vs H locs := hM
  refine lv_aload_n hx hb dX11_init_104 rfl (lv_at hl 0 rfl) ?_
  refine ns_get (C := RX11) (T := TX11) (N := 13) (v := .ref (b + 132)) hx hb hts hown hK hM (by decide) rfl inX11 0 (by decide) wf_X11_7 rfl dX11_init_105 ?_
  refine lv_iconst (v := nI 0) hx hb dX11_init_108 (by decide) ?_
  refine lv_iconst (v := nI 2) hx hb dX11_init_109 (by decide) ?_
  refine ns_iast (i := 0) hx hb hK hM (by decide) (by decide) (by decide) (by decide) dX11_init_110 (fun H locs hM => ?_)
  refine lv_aload_n hx hb dX11_init_111 rfl (lv_at hl 0 rfl) ?_
  refine ns_get (C := RX11) (T := TX11) (N := 13) (v := .ref (b + 132)) hx hb hts hown hK hM (by decide) rfl inX11 0 (by decide) wf_X11_7 rfl dX11_init_112 ?_
  refine lv_iconst (v := nI 1) hx hb dX11_init_115 (by decide) ?_
  refine lv_iconst (v := nI 5) hx hb dX11_init_116 (by decide) ?_
  refine ns_iast (i := 1) hx hb hK hM (by decide) (by decide) (by decide) (by decide) dX11_init_117 (fun H locs hM => ?_)
  refine lv_aload_n hx hb dX11_init_118 rfl (lv_at hl 0 rfl) ?_
  refine ns_get (C := RX11) (T := TX11) (N := 13) (v := .ref (b + 132)) hx hb hts hown hK hM (by decide) rfl inX11 0 (by decide) wf_X11_7 rfl dX11_init_119 ?_
  refine lv_iconst (v := nI 2) hx hb dX11_init_122 (by decide) ?_
  refine lv_iconst (v := nI 2) hx hb dX11_init_123 (by decide) ?_
  refine ns_iast (i := 2) hx hb hK hM (by decide) (by decide) (by decide) (by decide) dX11_init_124 (fun H locs hM => ?_)
  refine lv_aload_n hx hb dX11_init_125 rfl (lv_at hl 0 rfl) ?_
  refine ns_get (C := RX11) (T := TX11) (N := 13) (v := .ref (b + 132)) hx hb hts hown hK hM (by decide) rfl inX11 0 (by decide) wf_X11_7 rfl dX11_init_126 ?_
  refine lv_iconst (v := nI 3) hx hb dX11_init_129 (by decide) ?_
  refine lv_iconst (v := (-1)) hx hb dX11_init_130 (by decide) ?_
  refine ns_iast (i := 3) hx hb hK hM (by decide) (by decide) (by decide) (by decide) dX11_init_131 (fun H locs hM => ?_)
  exact hret _ _ _ _ _ _ _ _ _ hM (by rw [sh18 kc_131, sz_k kc_131 (by decide) (by decide) (by decide)]) (fun _ => by rw [sh19 kc_132, ← sz_19 kc_132]) (Nat.le_of_ble_eq_true rfl) (Nat.le_of_ble_eq_true rfl) dX11_init_132

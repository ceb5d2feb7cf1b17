/-! THE CLASS'S DRIFT: it makes a Lots, a cell of its own behind all others -/
theorem gg_met {l : Launch} {y : MethodName} {bytes : ByteArray} {maxL : Nat} {ret : Option FieldType} {rm : Room} {mc ms : Nat} {free : Nat → Prop} {Qc : Array Value → State → Outcome → State → Prop} {B0 : State → Prop} (av : List Value) (hy : plainName y.cls = true) (hlen : (lg_sl av).length ≤ maxL)
    (body : ∀ (p : Program) (e : Env) (s : State) (m : MethodId) (below : List Frame) (meth : Method) (c : Code) (ls : Array Slot), p.tables.exec = Jvm.exec → c.code = bytes → meth.sig.returnType = ret → meth.locks = false → meth.name = y.name → c.maxLocals = maxL → s.vm.findClass y.cls = some m.cls → (∀ w ∈ TB, w.before av.toArray s = true) → B0 s → lv_has ls maxL (lv_args 0 av) →
      W p l e rm s m av.toArray below meth c s.heap [] 0 0 (MQ below Qc av.toArray s mc ms free) (F0 m 0 ls [])) : Met l y (Cond.code y bytes maxL ret :: TB) rm (va_Pc av B0) Qc mc ms free := by
  refine Met.ofW (cc := bytes) (maxL := maxL) (ret := ret) hy rfl ?_
  intro p e s m args below meth c s₁ B hml hv
  obtain ⟨rfl, hB0⟩ := hv
  have hts := atoms_spec (ws := Cond.code y bytes maxL ret :: TB) B.pre
  have hl := lv_entry av (n := maxL) hlen
  rw [lg_entry_eq]
  exact body p e s m below meth c _ B.exec B.bytes B.returns B.notSynchronized (name_of_methodNamed B.named B.method).1 hml (findClass_of_methodNamed B.named) (fun w h => hts w (List.mem_cons_of_mem _ h)) hB0 hl
def LW (q : Nat) (v : Int64) : va_W := [(q, .inr (1, [.long v]))]
def SL (G : GT) (q : Nat) (v : Int64) (U : State) : Prop := va_P G.1 vwCl (LW q v) U.heap ∧ va_K G.1 vwCl (gtys G) U
def Eq1 (q : Nat) : Nat → Prop := fun z => z = q
def Fb (b : Nat) : Nat → Prop := fun z => b ≤ z
theorem sgB {b : Nat} : ∀ q, Fr b q → Fb b q := fun _ h => h.1
theorem LW_D {q : Nat} {v : Int64} {A : Nat → Prop} (h : A q) : va_D A (LW q v) := by
  refine ⟨fun i j p p' hi hj _ => ?_, fun k p hk => ?_⟩
  · have h1 : i < 1 := (List.getElem?_eq_some_iff.mp hi).1
    have h2 : j < 1 := (List.getElem?_eq_some_iff.mp hj).1
    omega
  · have h1 : k < 1 := (List.getElem?_eq_some_iff.mp hk).1
    rw [show k = 0 by omega] at hk
    cases hk
    exact h
theorem SL_blind {G : GT} {q : Nat} {v : Int64} {av : List Value} : FrameBlind (va_Pc av (SL G q v)) := fun _ U _ _ h => ⟨h.1, h.2.1, va_K.moved (u := U) (Vm.Alike.refl U.vm) h.2.2⟩
theorem lN_ne0 {n : Nat} (h0 : 0 < n) (h : n < 2 ^ 31) : ¬ lN n = 0 := fun q => by
  have h2 := (pk_lEQ (a := n) (b := 0) (by omega) (by decide)).mp q
  omega
set_option maxHeartbeats 4000000 in
theorem k_lots_init (l : Launch) (G : GT) (q x : Nat) (hx1 : x < 2 ^ 31) : Met l yX2_init (Cond.code yX2_init cX2_init 2 none :: TB) (RM 1) (va_Pc [.ref q, .int (nI x)] (SL G q 0)) (va_Qv (fun v => v = lN x) (fun v t => SL G q v t) (Eq1 q)) 0 0 (Eq1 q) := by
  refine gg_met [.ref q, .int (nI x)] (by decide) (Nat.le_of_ble_eq_true rfl) ?_
  intro vp ve vs vm below meth vc ls hx hb hr hlk hnm hml hown hts hB hl
  obtain ⟨hP, hK⟩ := hB
  have hl : lv_has ls 2 [(0, .ref q), (1, .int (nI x))] := hl
  refine lv_aload_n hx hb dX2_init_0 rfl (lv_at hl 0 rfl) ?_
  refine W.objInit hx hb hown (hts _ wl_X2_1) (hts _ wm_objectInit) (hts _ wc_objectInit) rfl (by rw [hml]; exact hl.1) rfl dX2_init_1 (Nat.le_of_ble_eq_true rfl) (Nat.le_of_ble_eq_true rfl) ?_
  refine W.eq (g2 := F0 vm 4 ls []) rfl ?_
  refine lv_aload_n hx hb dX2_init_4 rfl (lv_at hl 0 rfl) ?_
  refine lv_iload_n hx hb dX2_init_5 rfl (lv_at hl 1 rfl) ?_
  refine lv_i2l hx hb dX2_init_6 rfl ?_
  refine sn_topl (y := lN x) (nI_l hx1) ?_
  refine va_put (C := RX2) (T := TX2) (N := 1) (v := .long (lN x)) (ty := .long) (A := Eq1 q) (tys := gtys G) hx hb hts inX2 tyX2 tyX2_ok nmX2 hown hK hP (LW_D rfl) (va_S.rf) 0 rfl rfl 0 (by decide) (hts _ wf_X2_7) (fun _ h => h) rfl (by decide +kernel) rfl rfl (Nat.le_of_ble_eq_true rfl) dX2_init_7 (fun H locs hP hD hS => ?_)
  exact W.vret hx hb hr (fun t ht hW => ⟨⟨lN x, rfl, rfl, by rw [ht]; exact hP, va_K.moved hW.alike hK⟩, hS.F ht⟩) hS.2.2 dX2_init_10 hlk
set_option maxHeartbeats 4000000 in
theorem k_draw (l : Launch) (G : GT) (q a kn : Nat) (ha : a < 2147483647) (hk0 : 1 ≤ kn) (hk1 : kn < 2 ^ 31) : Met l yX2_draw (Cond.code yX2_draw cX2_draw 2 (some .int) :: TB) (RM 0) (va_Pc [.ref q, .int (nI kn)] (SL G q (lN a))) (va_Qi (fun r v => r = nI (lt1 a % kn) ∧ v = lN (lt1 a)) (fun v t => SL G q v t) (Eq1 q)) 0 0 (Eq1 q) := by
  refine gg_met [.ref q, .int (nI kn)] (by decide) (Nat.le_of_ble_eq_true rfl) ?_
  intro vp ve vs vm below meth vc ls hx hb hr hlk hnm hml hown hts hB hl
  obtain ⟨hP, hK⟩ := hB
  have hl : lv_has ls 2 [(0, .ref q), (1, .int (nI kn))] := hl
  refine lv_aload_n hx hb dX2_draw_0 rfl (lv_at hl 0 rfl) ?_
  refine lv_aload_n hx hb dX2_draw_1 rfl (lv_at hl 0 rfl) ?_
  refine va_get (C := RX2) (T := TX2) (N := 1) (v := .long (lN a)) (tys := gtys G) hx hb hts inX2 hown hK hP 0 rfl rfl 0 (by decide) (hts _ wf_X2_7) (fun _ h => h) rfl dX2_draw_2 ?_
  refine lv_ldc2 (v := 16807) hx hb hown (hts _ wkl_X2_13) dX2_draw_5 ?_
  refine lv_lmul hx hb dX2_draw_8 ?_
  refine sn_topl (y := lN (a * 16807)) (lN_mul a 16807) ?_
  refine lv_ldc2 (v := 2147483647) hx hb hown (hts _ wkl_X2_15) dX2_draw_9 ?_
  refine lv_lrem hx hb dX2_draw_12 (by decide) ?_
  refine sn_topl (y := lN (lt1 a)) (pk_lRem (by omega) (by decide) (by decide)) ?_
  refine va_put (C := RX2) (T := TX2) (N := 1) (v := .long (lN (lt1 a))) (ty := .long) (A := Eq1 q) (tys := gtys G) hx hb hts inX2 tyX2 tyX2_ok nmX2 hown hK hP (LW_D rfl) (va_S.rf) 0 rfl rfl 0 (by decide) (hts _ wf_X2_7) (fun _ h => h) rfl (by decide +kernel) rfl rfl (Nat.le_of_ble_eq_true rfl) dX2_draw_13 (fun H locs hP hD hS => ?_)
  have hP : va_P G.1 vwCl (LW q (lN (lt1 a))) H := hP
  refine lv_iload_n hx hb dX2_draw_16 rfl (lv_at hl 1 rfl) ?_
  refine lv_iconst (v := nI 1) hx hb dX2_draw_17 (by decide) ?_
  refine sn_icmp_ge (tgt := 25) hx hb dX2_draw_18 (by decide) hk1 (by decide) (fun dq1 => ?_) (fun dq1 => ?_)
  · refine lv_aload_n hx hb dX2_draw_25 rfl (lv_at hl 0 rfl) ?_
    refine va_get (C := RX2) (T := TX2) (N := 1) (v := .long (lN (lt1 a))) (tys := gtys G) hx hb hts inX2 hown hK hP 0 rfl rfl 0 (by decide) (hts _ wf_X2_7) (fun _ h => h) rfl dX2_draw_26 ?_
    refine lv_iload_n hx hb dX2_draw_29 rfl (lv_at hl 1 rfl) ?_
    refine lv_i2l hx hb dX2_draw_30 rfl ?_
    refine sn_topl (y := lN kn) (nI_l hk1) ?_
    refine lv_lrem hx hb dX2_draw_31 (lN_ne0 hk0 hk1) ?_
    refine sn_topl (y := lN (lt1 a % kn)) (pk_lRem (Nat.lt_of_lt_of_le (lt1_lt _) (by decide)) hk0 (by omega)) ?_
    refine lv_l2i hx hb dX2_draw_32 rfl ?_
    refine sn_top (y := nI (lt1 a % kn)) (lN_i _) ?_
    exact W.iret hx hb hr (fun t ht hW => ⟨⟨nI (lt1 a % kn), lN (lt1 a), rfl, ⟨rfl, rfl⟩, by rw [ht]; exact hP, va_K.moved hW.alike hK⟩, hS.F ht⟩) hS.2.2 dX2_draw_33 hlk
  · exact absurd hk0 (by omega)
/-- the world of the class beside a Lots -/
def StL (G : GT) (b q : Nat) (v : Int64) (σ : Mem) (s : State) (H : Heap) (locs : List Loc) : Prop := St G (Fb b) b σ s H locs ∧ va_P G.1 vwCl (LW q v) H ∧ ¬ Fr b q ∧ b ≤ q
abbrev RL1 (d : Nat) : Room := { frames := d, cells := 1, slots := 1, locals := 36 * d }
abbrev KD (l : Launch) (G : GT) (b : Nat) (y : MethodName) (bytes : ByteArray) (maxL d : Nat) (σ : Mem) (av : List Value) (post : Int32 → Mem → Prop) : Prop := Met l y (Cond.code y bytes maxL (some .int) :: TB) (RL1 d) (va_Pc av (SM G b σ)) (va_Qi post (fun σ' t => SM G b σ' t) (Fb b)) 1 1 (Fb b)
theorem sl_metI {l : Launch} {G : GT} {b : Nat} {σ : Mem} {y : MethodName} {bytes : ByteArray} {maxL d : Nat} {post : Int32 → Mem → Prop} (av : List Value) (hy : plainName y.cls = true) (hlen : (lg_sl av).length ≤ maxL)
    (body : ∀ (p : Program) (e : Env) (s : State) (m : MethodId) (args : Array Value) (below : List Frame) (meth : Method) (c : Code) (ls : Array Slot) (Q : State → Prop), p.tables.exec = Jvm.exec → c.code = bytes → c.maxLocals = maxL → s.vm.findClass y.cls = some m.cls → (∀ w ∈ TB, w.before args s = true) → va_K G.1 vwCl (gtys G) s → St G (Fb b) b σ s s.heap [] → lv_has ls maxL (lv_args 0 av) →
      (∀ (pc : Nat) (r : Int32) (σ' : Mem) (H : Heap) (locs : List Loc) (ls : Array Slot) (cells slots : Nat), cells ≤ 1 → slots ≤ 1 → decode bytes pc = .ok (.ireturn, 1) → St G (Fb b) b σ' s H locs → post r σ' → W p l e (RL1 d) s m args below meth c H locs cells slots Q (F0 m pc ls [.int r])) → W p l e (RL1 d) s m args below meth c s.heap [] 0 0 Q (F0 m 0 ls [])) : KD l G b y bytes maxL d σ av post := by
  refine gg_met av hy hlen ?_
  intro vp ve vs vm below meth vc ls hx hb hr hlk hnm hml hown hts hB hl
  refine body vp ve vs vm _ below meth vc ls _ hx hb hml hown hts hB.2 ⟨hB.1, va_S.rf⟩ hl ?_
  intro pc r σ' H locs ls cells slots h1 h2 hdg hM hp
  refine W.widen h1 h2 ?_
  exact W.iret hx hb hr (fun t ht hW => ⟨⟨r, σ', rfl, hp, by rw [ht]; exact hM.1, va_K.moved hW.alike hB.2⟩, hM.2.F ht⟩) hM.2.2.2 hdg hlk
section SLC
variable {p : Program} {l : Launch} {e : Env} {R : Room} {s : State} {m : MethodId} {args : Array Value} {below : List Frame} {meth : Method} {c : Code} {H : Heap} {locs : List Loc} {cells slots : Nat} {Q : State → Prop}
variable {cc : ByteArray} {pc : Nat} {ls : Array Slot} {rest : List Value} {G : GT} {b q nL : Nat} {v : Int64} {σ : Mem}
theorem repW_kept {H1 : Heap} (h : va_P G.1 vwCl (repW G b σ) H) (hk : ∀ z : Nat, z < H.size → ¬ Eq1 q z → H1[z]? = H[z]?) (hq : ¬ Fr b q) : va_P G.1 vwCl (repW G b σ) H1 := h.kept (fun k x hx => by
  refine hk x.1 ((h k x hx).lt) (fun z => hq ?_)
  have h2 := (repW_in hx)
  have z : x.1 = q := z
  rw [← z, h2.2]
  exact ⟨Nat.le_add_right _ _, Nat.add_lt_add_left h2.1 _⟩)
theorem LW_kept {H1 : Heap} (h : va_P G.1 vwCl (LW q v) H) (hk : ∀ z : Nat, z < H.size → ¬ Fr b z → H1[z]? = H[z]?) (hq : ¬ Fr b q) : va_P G.1 vwCl (LW q v) H1 := h.kept (fun k x hx => by
  have h1 : k < 1 := (List.getElem?_eq_some_iff.mp hx).1
  have h2 := (h k x hx).lt
  rw [show k = 0 by omega] at hx
  cases hx
  exact hk q h2 hq)
theorem sl_made {H1 : Heap} {locs1 : List Loc} (hP : va_P G.1 vwCl (repW G b σ ++ [(q, .inr (1, [.long v]))]) H1) (hD : va_D (Fb b) (repW G b σ ++ [(q, .inr (1, [.long v]))])) (hS : va_S (Fb b) s.heap H1 locs1) : StL G b q v σ s H1 locs1 := by
  have hlen : (repW G b σ).length = 143 := by unfold repW; rw [List.length_map, List.length_range]
  have hA : ∀ (k : Nat) (x : Nat × va_E), (repW G b σ)[k]? = some x → (repW G b σ ++ [(q, .inr (1, [.long v]))])[k]? = some x := fun k x hx => by rw [List.getElem?_append_left (List.getElem?_eq_some_iff.mp hx).1]; exact hx
  have hZ : (repW G b σ ++ [(q, .inr (1, [.long v]))])[143]? = some (q, .inr (1, [.long v])) := by rw [List.getElem?_append_right (by omega), hlen]; rfl
  refine ⟨⟨fun k x hx => hP k x (hA k x hx), hS⟩, fun k x hx => ?_, fun hF => ?_, hD.2 143 _ hZ⟩
  · have h1 : k < 1 := (List.getElem?_eq_some_iff.mp hx).1
    rw [show k = 0 by omega] at hx
    cases hx
    exact hP 143 _ hZ
  · have h2 : q - b < 143 := by have := hF.1; have := hF.2; omega
    have h3 := hD.1 (q - b) 143 _ _ (hA _ _ (repW_at h2)) hZ (by show b + (q - b) = q; have := hF.1; omega)
    omega
theorem sl_ci {post : Int32 → Mem → Prop} {a : Array Value} {st0 : List Value} (hr : va_Run p l e R s m args below meth c H locs cells slots 0 0 (F0 m pc ls st0) rest (va_Qi post (fun σ' t => SM G b σ' t) (Fr b) a) (Fr b)) (hM : StL G b q v σ s H locs)
    (kk : ∀ (r : Int32) (σ' : Mem) (H1 : Heap) (locs1 : List Loc), post r σ' → StL G b q v σ' s H1 locs1 → W p l e R s m args below meth c H1 locs1 cells slots Q (F0 m (pc + 3) ls (.int r :: rest))) : W p l e R s m args below meth c H locs cells slots Q (F0 m pc ls st0) :=
  va_calli hr hM.1.2 (fun q _ h => sgB q h) sgB (fun r u t H1 locs1 ht _ hp hB _ hk hS => kk r u H1 locs1 hp ⟨⟨by rw [← ht]; exact hB.1, hS⟩, LW_kept hM.2.1 hk hM.2.2.1, hM.2.2⟩)
theorem sl_cv {post : Mem → Prop} {a : Array Value} {st0 : List Value} (hr : va_Run p l e R s m args below meth c H locs cells slots 0 0 (F0 m pc ls st0) rest (va_Qv post (fun σ' t => SM G b σ' t) (Fr b) a) (Fr b)) (hM : StL G b q v σ s H locs)
    (kk : ∀ (σ' : Mem) (H1 : Heap) (locs1 : List Loc), post σ' → StL G b q v σ' s H1 locs1 → W p l e R s m args below meth c H1 locs1 cells slots Q (F0 m (pc + 3) ls rest)) : W p l e R s m args below meth c H locs cells slots Q (F0 m pc ls st0) :=
  va_callv hr hM.1.2 (fun q _ h => sgB q h) sgB (fun u t H1 locs1 ht _ hp hB _ hk hS => kk u H1 locs1 hp ⟨⟨by rw [← ht]; exact hB.1, hS⟩, LW_kept hM.2.1 hk hM.2.2.1, hM.2.2⟩)
theorem sl_draw (hexec : p.tables.exec = Jvm.exec) (hb : c.code = cc) (hml : c.maxLocals = nL) (hts : ∀ w ∈ TB, w.before args s = true) (hown : s.vm.findClass RX10 = some m.cls) (hK : va_K G.1 vwCl (gtys G) s) {a kn : Nat} (hM : StL G b q (lN a) σ s H locs) (ha : a < 2147483647) (hk0 : 1 ≤ kn) (hk1 : kn < 2 ^ 31) (hsz : ls.size = nL) (hW : (rest.map fun v => v.category).sum ≤ 8) (hdg : decode cc pc = .ok (.invokevirtual 116, 3)) (hR : 0 + 1 ≤ R.frames ∧ 8 + (2 + 11) + 36 * 0 ≤ R.locals) (hf : cells ≤ R.cells ∧ slots ≤ R.slots)
    (kk : ∀ (H1 : Heap) (locs1 : List Loc), StL G b q (lN (lt1 a)) σ s H1 locs1 → W p l e R s m args below meth c H1 locs1 cells slots Q (F0 m (pc + 3) ls (.int (nI (lt1 a % kn)) :: rest))) : W p l e R s m args below meth c H locs cells slots Q (F0 m pc ls (.int (nI kn) :: .ref q :: rest)) := by
  refine va_calli (va_runV (C := RX2) (As := [.int (nI kn)]) (rest := rest) ⟨hexec, hb, hml, hown, hts⟩ (k_draw l G q a kn ha hk0 hk1) ⟨sg_cb hts mi_X2_draw.1 wl_X10_116 hR, hts _ mi_X2_draw.2.1, hts _ mi_X2_draw.2.2⟩ ⟨SL_blind, va_recv (q0 := 0) (ci := 1) (q := (RX2, TX2, 1)) hK hM.2.1 rfl rfl, fun U hU hW => ⟨rfl, by rw [hU]; exact hM.2.1, va_K.moved hW.alike hK⟩⟩ rfl rfl hsz rfl (lv_room hW) hdg hf) hM.1.2 (fun z _ h => by rw [show z = q from h]; exact hM.2.2.2) (fun z h => by rw [show z = q from h]; exact hM.2.2.2) (fun r u t H1 locs1 ht _ hp hB _ hk hS => ?_)
  obtain ⟨e1, e2⟩ := hp
  rw [e1]
  rw [e2] at hB
  exact kk H1 locs1 ⟨⟨repW_kept hM.1.1 hk hM.2.2.1, hS⟩, by rw [← ht]; exact hB.1, hM.2.2⟩
theorem sl_init (hexec : p.tables.exec = Jvm.exec) (hb : c.code = cc) (hml : c.maxLocals = nL) (hts : ∀ w ∈ TB, w.before args s = true) (hown : s.vm.findClass RX10 = some m.cls) (hK : va_K G.1 vwCl (gtys G) s) {x : Nat} (hM : StL G b q 0 σ s H locs) (hx1 : x < 2 ^ 31) (hsz : ls.size = nL) (hW : (rest.map fun v => v.category).sum ≤ 8) (hdg : decode cc pc = .ok (.invokespecial 113, 3)) (hR : 1 + 1 ≤ R.frames ∧ 8 + (2 + 11) + 36 * 1 ≤ R.locals) (hf : cells ≤ R.cells ∧ slots ≤ R.slots)
    (kk : ∀ (H1 : Heap) (locs1 : List Loc), StL G b q (lN x) σ s H1 locs1 → W p l e R s m args below meth c H1 locs1 cells slots Q (F0 m (pc + 3) ls rest)) : W p l e R s m args below meth c H locs cells slots Q (F0 m pc ls (.int (nI x) :: .ref q :: rest)) := by
  refine va_callv (va_runI (As := [.int (nI x)]) (rest := rest) ⟨hexec, hb, hml, hown, hts⟩ (k_lots_init l G q x hx1) ⟨sg_cb hts mi_X2_init wl_X10_113 hR, rfl, hts _ wm_X2_init⟩ ⟨SL_blind, fun U hU hW => ⟨rfl, by rw [hU]; exact hM.2.1, va_K.moved hW.alike hK⟩⟩ rfl rfl hsz rfl (lv_room hW) hdg hf) hM.1.2 (fun z _ h => by rw [show z = q from h]; exact hM.2.2.2) (fun z h => by rw [show z = q from h]; exact hM.2.2.2) (fun u t H1 locs1 ht _ hp hB _ hk hS => ?_)
  have hp : u = lN x := hp
  rw [hp] at hB
  exact kk H1 locs1 ⟨⟨repW_kept hM.1.1 hk hM.2.2.1, hS⟩, by rw [← ht]; exact hB.1, hM.2.2⟩
end SLC
set_option maxHeartbeats 4000000 in
set_option maxRecDepth 100000 in
theorem x_drift (l : Launch) (G : GT) (b : Nat) (σ : Mem) (w : World) (hI : ICw σ w) (x y : Int32) : KD l G b yX10_drift cX10_drift 10 4 σ [.ref (b + 0), .int x, .int y] (fun r σ' => r = (S_drift w x y).1 ∧ ICw σ' (S_drift w x y).2 ∧ ∀ k, 130 ≤ k → σ' k = σ k) := by
  refine sl_metI [.ref (b + 0), .int x, .int y] (by decide) (Nat.le_of_ble_eq_true rfl) ?_
  intro vp ve vs vm args below meth vc ls Q hx hb hml hown hts hK hM hl hret
  have hA0 : ∀ q, vs.heap.size ≤ q → Fb b q := fun q hq => Nat.le_trans (Nat.le_of_lt (show b + 0 < vs.heap.size from (hM.1 0 _ (repW_at (by decide))).lt)) hq
  have hl : lv_has ls 10 [(0, .ref (b + 0)), (1, .int x), (2, .int y)] := hl
  obtain ⟨hR, hA, ⟨o, hPI⟩, hJ⟩ := id hI
  have hc : CodeAt σ 2 (rM w.1) (rG w.1) (rH w.1) := hA.1
  have h3 : σ 3 0 = nI (rS w.1) := hA.2.2.1
  have h8 : σ 8 0 = nI (rN w.1) := hA.2.2.2.2.1
  have hE : σ 1 3 = rE w.1 := hA.2.1
  have hS24 := hR.2.1.1
  have hN24 := hR.2.1.2
  have hm8 := p2_le hR.1.1.2
  refine lv_iload_n hx hb dX10_drift_0 rfl (lv_at hl 1 rfl) ?_
  refine lv_iconst (v := nI 1) hx hb dX10_drift_1 (by decide) ?_
  refine lv_bipush (v := nI 24) hx hb dX10_drift_2 (by decide) ?_
  refine sg_ci (sg_runS (d := 0) (As := [.int x, .int (nI 1), .int (nI 24)]) (rest := []) hx hb hml hts hown hK hM (c_isOutside l G b σ x (nI 1) (nI 24)) mi_X10_isOutside wl_X10_53 rfl hl.1 rfl (Nat.le_of_ble_eq_true rfl) dX10_drift_4 ⟨by decide, by decide⟩ ⟨Nat.zero_le _, Nat.zero_le _⟩) hM sgB (fun r_4 σ_4 H locs hp_4 hM => ?_)
  obtain ⟨hr_4, hs_4⟩ := hp_4; subst r_4; subst σ_4
  refine sn_ifz_ne (tgt := 20) hx hb dX10_drift_7 (by decide) (fun dq1 => ?_) (fun dq1 => ?_)
  · refine lv_ldc (v := (-1000000002)) hx hb hown (hts (Cond.constant RX10 52 ((-1000000002))) wk_X10_52) dX10_drift_20 ?_
    exact hret _ _ _ _ _ _ _ _ (Nat.zero_le _) (Nat.zero_le _) dX10_drift_22 hM (⟨by rw [S_drift_o1 (not_t dq1)], by rw [S_drift_o1 (not_t dq1)]; exact hI, fun _ _ => rfl⟩)
  · obtain ⟨k1, hka, hkb, rfl⟩ := inR_nat1 (by decide) (not_f dq1)
    have hl : lv_has ls 10 [(0, .ref (b + 0)), (1, .int (nI k1)), (2, .int y)] := hl
    refine lv_iload_n hx hb dX10_drift_10 rfl (lv_at hl 2 rfl) ?_
    refine lv_iconst (v := nI 1) hx hb dX10_drift_11 (by decide) ?_
    refine lv_ldc (v := nI 999999) hx hb hown (hts (Cond.constant RX10 110 (nI 999999)) wk_X10_110) dX10_drift_12 ?_
    refine sg_ci (sg_runS (d := 0) (As := [.int y, .int (nI 1), .int (nI 999999)]) (rest := []) hx hb hml hts hown hK hM (c_isOutside l G b σ y (nI 1) (nI 999999)) mi_X10_isOutside wl_X10_53 rfl hl.1 rfl (Nat.le_of_ble_eq_true rfl) dX10_drift_14 ⟨by decide, by decide⟩ ⟨Nat.zero_le _, Nat.zero_le _⟩) hM sgB (fun r_14 σ_14 H locs hp_14 hM => ?_)
    obtain ⟨hr_14, hs_14⟩ := hp_14; subst r_14; subst σ_14
    refine sn_ifz_eq (tgt := 23) hx hb dX10_drift_17 (by decide) (fun dq2 => ?_) (fun dq2 => ?_)
    · obtain ⟨x1, hxa, hxb, rfl⟩ := inR_nat1 (by decide) (not_f dq2)
      have hl : lv_has ls 10 [(0, .ref (b + 0)), (1, .int (nI k1)), (2, .int (nI x1))] := hl
      refine lv_aload_n hx hb dX10_drift_23 rfl (lv_at hl 0 rfl) ?_
      refine sg_get (v := .ref (b + 11)) hx hb hts hown hK hM (sh0 kc_0) (kd_lt kc_0 (by decide)) rfl inX10 1 (by decide) wf_X10_19 rfl dX10_drift_24 ?_
      refine lv_aload_n hx hb dX10_drift_27 rfl (lv_at hl 0 rfl) ?_
      refine sg_get (v := .ref (b + 1)) hx hb hts hown hK hM (sh0 kc_0) (kd_lt kc_0 (by decide)) rfl inX10 0 (by decide) wf_X10_10 rfl dX10_drift_28 ?_
      refine sg_cv (sg_runV (d := 3) (As := [.ref (b + 1)]) (rest := []) hx hb hml hts hown hK hM (c_Past_push l G b σ w.1 w.2.1 o w.2.2.1 hPI hA hR) mi_X5_push wl_X10_57 (sh6 kc_11) (kd_lt kc_11 (by decide)) rfl rfl rfl hl.1 rfl (Nat.le_of_ble_eq_true rfl) dX10_drift_31 ⟨by decide, by decide⟩ ⟨Nat.zero_le _, Nat.zero_le _⟩) hM sgB (fun σ1 H locs hp1 hM => ?_)
      obtain ⟨⟨o', hPI1⟩, hq1⟩ := hp1
      have hI1 : IC σ1 w.1 (phN w.2.1) (phP w.2.1 w.2.2.1 w.1) w.2.2.2.1 w.2.2.2.2 := IC.pushed hI hPI1 hq1
      have hA1 : CM σ1 1 w.1 := hI1.2.1
      refine va_new (ci := 1) (fs := [.long 0]) (C := RX2) (T := TX2) (N := 1) (tys := gtys G) hx hb hts inX2 tyX2 tyX2_ok hown (hts _ wcl_X10_111) (hts _ win_X2) (hts _ wi_RX2) hK hM.1 (repW_D sgB) hM.2 hA0 rfl (fun j hj => by rcases (show j = 0 by omega) with rfl; rfl) (Nat.le_refl 1) (Nat.le_refl 1) dX10_drift_34 (fun q1 H hP hD hS => ?_)
      refine W.widen (k := 1) (n := 1) (by decide) (by decide) ?_
      have hM : StL G b q1 0 σ1 vs H locs := sl_made hP hD hS
      refine lv_dup hx hb dX10_drift_37 rfl ?_
      refine lv_iload_n hx hb dX10_drift_38 rfl (lv_at hl 2 rfl) ?_
      refine sl_init (x := x1) (rest := [.ref q1]) hx hb hml hts hown hK hM (by omega) hl.1 (Nat.le_of_ble_eq_true rfl) dX10_drift_39 ⟨by decide, by decide⟩ ⟨Nat.le_refl 1, Nat.le_refl 1⟩ (fun H locs hM => ?_)
      refine lv_astore_n (lv' := [(3, .ref q1), (0, .ref (b + 0)), (1, .int (nI k1)), (2, .int (nI x1))]) hx hb dX10_drift_42 rfl hl (by decide) rfl (fun ls hl => ?_)
      refine lv_iconst (v := nI 0) hx hb dX10_drift_43 (by decide) ?_
      refine lv_istore (lv' := [(4, .int (nI 0)), (3, .ref q1), (0, .ref (b + 0)), (1, .int (nI k1)), (2, .int (nI x1))]) hx hb dX10_drift_44 hl (by decide) rfl (fun ls hl => ?_)
      have L46 : ∀ (fuel : Nat) (d1 : Nat) (σ2 : Mem) (B1 : Rec) (a1 : Nat), (d1 ≤ k1) → (a1 < 2147483647) → (ROk B1) → (CM σ2 1 B1) → (dr k1 w.1 x1 = (d1 + (dr (k1 - d1) B1 a1).1, (dr (k1 - d1) B1 a1).2)) → (∀ c, 11 ≤ c → σ2 c = σ1 c) → (25 - d1) < fuel → ∀ (H : Heap) (locs : List Loc) (ls : Array Slot), StL G b q1 (lN a1) σ2 vs H locs → lv_has ls 10 [(0, .ref (b + 0)), (1, .int (nI k1)), (2, .int (nI x1)), (3, .ref q1), (4, .int (nI d1))] → W vp l ve (RL1 4) vs vm args below meth vc H locs 1 1 Q (F0 vm 46 ls []) := by
        intro fuel
        induction fuel with
        | zero => intro d1 σ2 B1 a1 hd1 ha1 hB hC hdr hfr hF; exact absurd hF (Nat.not_lt_zero _)
        | succ fuel ih46 =>
          intro d1 σ2 B1 a1 hd1 ha1 hB hC hdr hfr hF H locs ls hM hl
          refine lv_iload hx hb dX10_drift_46 (lv_at hl 4 rfl) ?_
          refine lv_iload_n hx hb dX10_drift_48 rfl (lv_at hl 1 rfl) ?_
          refine sn_icmp_ge (tgt := 169) hx hb dX10_drift_49 (by decide) (by omega) (by omega) (fun dd => ?_) (fun dd => ?_)
          · refine lv_iload hx hb dX10_drift_169 (lv_at hl 4 rfl) ?_
            have hde := dr_end hdr (by omega)
            exact hret _ _ _ _ _ _ _ _ (Nat.le_refl 1) (Nat.le_refl 1) dX10_drift_171 hM.1 (⟨by rw [S_drift_ok ⟨hka, hkb⟩ ⟨hxa, hxb⟩, hde], by rw [S_drift_ok ⟨hka, hkb⟩ ⟨hxa, hxb⟩, hde]; exact IC.nowed hI1 hB hC (fun k hk1 hk2 => hfr k hk1), fun k hk => by rw [hfr k (by omega), hq1 k (by omega)]⟩)
          · refine lv_aload_n hx hb dX10_drift_52 rfl (lv_at hl 0 rfl) ?_
            refine sg_get (v := .ref (b + 1)) hx hb hts hown hK hM.1 (sh0 kc_0) (kd_lt kc_0 (by decide)) rfl inX10 0 (by decide) wf_X10_10 rfl dX10_drift_53 ?_
            refine sg_get (v := .ref (b + 3)) hx hb hts hown hK hM.1 (sh1 kc_1) (kd_lt kc_1 (by decide)) rfl inX3 1 (by decide) wf_X10_82 rfl dX10_drift_56 ?_
            refine sl_ci (sg_runV (d := 0) (As := []) (rest := []) hx hb hml hts hown hK hM.1 (c_Row_isFull l G b σ2 3 (rS B1) kc_3 hC.2.2.1 hB.2.1.1) mi_X7_isFull wl_X10_86 (sh3 kc_3) (kd_lt kc_3 (by decide)) rfl rfl rfl hl.1 rfl (Nat.le_of_ble_eq_true rfl) dX10_drift_59 ⟨by decide, by decide⟩ ⟨Nat.le_refl 1, Nat.le_refl 1⟩) hM (fun r_59 σ_59 H locs hp_59 hM => ?_)
            obtain ⟨hr_59, hs_59⟩ := hp_59; subst r_59; subst σ_59
            refine sn_ifz_ne (tgt := 169) hx hb dX10_drift_62 (by decide) (fun ds => ?_) (fun ds => ?_)
            · have ds := of_decide_eq_true ds
              refine lv_iload hx hb dX10_drift_169 (lv_at hl 4 rfl) ?_
              have hde := dr_end hdr (by omega)
              exact hret _ _ _ _ _ _ _ _ (Nat.le_refl 1) (Nat.le_refl 1) dX10_drift_171 hM.1 (⟨by rw [S_drift_ok ⟨hka, hkb⟩ ⟨hxa, hxb⟩, hde], by rw [S_drift_ok ⟨hka, hkb⟩ ⟨hxa, hxb⟩, hde]; exact IC.nowed hI1 hB hC (fun k hk1 hk2 => hfr k hk1), fun k hk => by rw [hfr k (by omega), hq1 k (by omega)]⟩)
            · have ds := Nat.not_le.mp (of_decide_eq_false ds)
              refine lv_aload_n hx hb dX10_drift_65 rfl (lv_at hl 0 rfl) ?_
              refine sg_get (v := .ref (b + 1)) hx hb hts hown hK hM.1 (sh0 kc_0) (kd_lt kc_0 (by decide)) rfl inX10 0 (by decide) wf_X10_10 rfl dX10_drift_66 ?_
              refine sg_get (v := .ref (b + 8)) hx hb hts hown hK hM.1 (sh1 kc_1) (kd_lt kc_1 (by decide)) rfl inX3 2 (by decide) wf_X10_97 rfl dX10_drift_69 ?_
              refine sl_ci (sg_runV (d := 0) (As := []) (rest := []) hx hb hml hts hown hK hM.1 (c_Pl_isFull l G b σ2 8 (rN B1) kc_8 hC.2.2.2.2.1 hB.2.1.2) mi_X6_isFull wl_X10_101 (sh5 kc_8) (kd_lt kc_8 (by decide)) rfl rfl rfl hl.1 rfl (Nat.le_of_ble_eq_true rfl) dX10_drift_72 ⟨by decide, by decide⟩ ⟨Nat.le_refl 1, Nat.le_refl 1⟩) hM (fun r_72 σ_72 H locs hp_72 hM => ?_)
              obtain ⟨hr_72, hs_72⟩ := hp_72; subst r_72; subst σ_72
              refine sn_ifz_ne (tgt := 169) hx hb dX10_drift_75 (by decide) (fun dn => ?_) (fun dn => ?_)
              · have dn := of_decide_eq_true dn
                refine lv_iload hx hb dX10_drift_169 (lv_at hl 4 rfl) ?_
                have hde := dr_end hdr (by omega)
                exact hret _ _ _ _ _ _ _ _ (Nat.le_refl 1) (Nat.le_refl 1) dX10_drift_171 hM.1 (⟨by rw [S_drift_ok ⟨hka, hkb⟩ ⟨hxa, hxb⟩, hde], by rw [S_drift_ok ⟨hka, hkb⟩ ⟨hxa, hxb⟩, hde]; exact IC.nowed hI1 hB hC (fun k hk1 hk2 => hfr k hk1), fun k hk => by rw [hfr k (by omega), hq1 k (by omega)]⟩)
              · have dn := Nat.not_le.mp (of_decide_eq_false dn)
                refine lv_aload_n hx hb dX10_drift_78 rfl (lv_at hl 3 rfl) ?_
                refine lv_iconst (v := nI 2) hx hb dX10_drift_79 (by decide) ?_
                refine sl_draw (a := a1) (kn := 2) (rest := []) hx hb hml hts hown hK hM (ha1) (by decide) (by decide) hl.1 (Nat.le_of_ble_eq_true rfl) dX10_drift_80 ⟨by decide, by decide⟩ ⟨Nat.le_refl 1, Nat.le_refl 1⟩ (fun H locs hM => ?_)
                refine lv_istore (lv' := [(5, .int (nI (lt1 a1 % 2))), (0, .ref (b + 0)), (1, .int (nI k1)), (2, .int (nI x1)), (3, .ref q1), (4, .int (nI d1))]) hx hb dX10_drift_83 hl (by decide) rfl (fun ls hl => ?_)
                refine lv_aload_n hx hb dX10_drift_85 rfl (lv_at hl 4 rfl) ?_
                refine lv_iconst (v := nI 4) hx hb dX10_drift_86 (by decide) ?_
                refine sl_draw (a := lt1 a1) (kn := 4) (rest := []) hx hb hml hts hown hK hM (lt1_lt _) (by decide) (by decide) hl.1 (Nat.le_of_ble_eq_true rfl) dX10_drift_87 ⟨by decide, by decide⟩ ⟨Nat.le_refl 1, Nat.le_refl 1⟩ (fun H locs hM => ?_)
                refine lv_istore (lv' := [(6, .int (nI (lt1 (lt1 a1) % 4))), (5, .int (nI (lt1 a1 % 2))), (0, .ref (b + 0)), (1, .int (nI k1)), (2, .int (nI x1)), (3, .ref q1), (4, .int (nI d1))]) hx hb dX10_drift_90 hl (by decide) rfl (fun ls hl => ?_)
                refine lv_aload_n hx hb dX10_drift_92 rfl (lv_at hl 2 rfl) ?_
                refine sg_get (v := .ref (b + 1)) hx hb hts hown hK hM.1 (sh0 kc_0) (kd_lt kc_0 (by decide)) rfl inX10 0 (by decide) wf_X10_10 rfl dX10_drift_93 ?_
                refine sg_get (v := .ref (b + 3)) hx hb hts hown hK hM.1 (sh1 kc_1) (kd_lt kc_1 (by decide)) rfl inX3 1 (by decide) wf_X10_82 rfl dX10_drift_96 ?_
                refine lv_aload_n hx hb dX10_drift_99 rfl (lv_at hl 2 rfl) ?_
                refine sg_get (v := .ref (b + 1)) hx hb hts hown hK hM.1 (sh0 kc_0) (kd_lt kc_0 (by decide)) rfl inX10 0 (by decide) wf_X10_10 rfl dX10_drift_100 ?_
                refine sg_get (v := .ref (b + 2)) hx hb hts hown hK hM.1 (sh1 kc_1) (kd_lt kc_1 (by decide)) rfl inX3 0 (by decide) wf_X10_61 rfl dX10_drift_103 ?_
                refine lv_iload hx hb dX10_drift_106 (lv_at hl 1 rfl) ?_
                refine lv_iload hx hb dX10_drift_108 (lv_at hl 0 rfl) ?_
                refine sl_ci (sg_runV (d := 2) (As := [.ref (b + 2), .int (nI (lt1 a1 % 2)), .int (nI (lt1 (lt1 a1) % 4))]) (rest := []) hx hb hml hts hown hK hM.1 (c_Row_append l G b σ2 3 (rS B1) 2 (rM B1) (rG B1) (rH B1) (stS B1 (rS B1)) (lt1 a1 % 2) (lt1 (lt1 a1) % 4) kc_3 kc_2 hC.1 hC.2.2.1 ds hC.last (stS_lt hB _ (Nat.le_refl _)) (by omega) (by omega)) mi_X7_append wl_X10_93 (sh3 kc_3) (kd_lt kc_3 (by decide)) rfl rfl rfl hl.1 rfl (Nat.le_of_ble_eq_true rfl) dX10_drift_110 ⟨by decide, by decide⟩ ⟨Nat.le_refl 1, Nat.le_refl 1⟩) hM (fun r_110 σ3 H locs hs3 hM => ?_)
                obtain ⟨hr_110, hs3⟩ := hs3; subst r_110
                have hC2 : CM σ3 1 (sentR B1 (lt1 a1 % 2) (lt1 (lt1 a1) % 4)) := by rw [hs3]; exact sent_CM (mo := 1) hC _ _
                have hf3 : ∀ c, 11 ≤ c → σ3 c = σ2 c := fun c z => by rw [hs3]; exact rowApp_o (by omega)
                have hB2 := sent_ok hB (show lt1 a1 % 2 < 2 by omega) (show lt1 (lt1 a1) % 4 < 4 by omega) ds
                have hp16 : ptS (sentR B1 (lt1 a1 % 2) (lt1 (lt1 a1) % 4)) (rS B1) < 16 := pt_lt (fam_lt _ _ _ _ _) (hB2.2.2.1 (rS B1) (Nat.lt_succ_self _)).2
                refine sn_top (y := nI (ptS (sentR B1 (lt1 a1 % 2) (lt1 (lt1 a1) % 4)) (rS B1))) (by rw [ptS_sent']) ?_
                refine lv_istore (lv' := [(7, .int (nI (ptS (sentR B1 (lt1 a1 % 2) (lt1 (lt1 a1) % 4)) (rS B1)))), (6, .int (nI (lt1 (lt1 a1) % 4))), (5, .int (nI (lt1 a1 % 2))), (0, .ref (b + 0)), (1, .int (nI k1)), (2, .int (nI x1)), (3, .ref q1), (4, .int (nI d1))]) hx hb dX10_drift_113 hl (by decide) rfl (fun ls hl => ?_)
                refine lv_iload hx hb dX10_drift_115 (lv_at hl 0 rfl) ?_
                refine sl_ci (sg_runS (d := 0) (As := [.int (nI (ptS (sentR B1 (lt1 a1 % 2) (lt1 (lt1 a1) % 4)) (rS B1)))]) (rest := []) hx hb hml hts hown hK hM.1 (c_g_xOf l G b σ3 (ptS (sentR B1 (lt1 a1 % 2) (lt1 (lt1 a1) % 4)) (rS B1)) hp16) mi_X1_xOf wl_X10_120 rfl hl.1 rfl (Nat.le_of_ble_eq_true rfl) dX10_drift_117 ⟨by decide, by decide⟩ ⟨Nat.le_refl 1, Nat.le_refl 1⟩) hM (fun r_117 σ_117 H locs hp_117 hM => ?_)
                obtain ⟨hr_117, hs_117⟩ := hp_117; subst r_117; subst σ_117
                refine lv_aload_n hx hb dX10_drift_120 rfl (lv_at hl 6 rfl) ?_
                refine lv_bipush (v := nI 25) hx hb dX10_drift_121 (by decide) ?_
                refine sl_draw (a := lt1 (lt1 a1)) (kn := 25) (rest := [.int (gx (ptS (sentR B1 (lt1 a1 % 2) (lt1 (lt1 a1) % 4)) (rS B1)))]) hx hb hml hts hown hK hM (lt1_lt _) (by decide) (by decide) hl.1 (Nat.le_of_ble_eq_true rfl) dX10_drift_123 ⟨by decide, by decide⟩ ⟨Nat.le_refl 1, Nat.le_refl 1⟩ (fun H locs hM => ?_)
                refine lv_iadd hx hb dX10_drift_126 ?_
                refine lv_bipush (v := nI 12) hx hb dX10_drift_127 (by decide) ?_
                refine lv_isub hx hb dX10_drift_129 ?_
                refine sn_top (y := gx (ptS (sentR B1 (lt1 a1 % 2) (lt1 (lt1 a1) % 4)) (rS B1)) + nI (lt1 (lt1 (lt1 a1)) % 25) - nI 12) (rfl) ?_
                refine lv_istore (lv' := [(8, .int (gx (ptS (sentR B1 (lt1 a1 % 2) (lt1 (lt1 a1) % 4)) (rS B1)) + nI (lt1 (lt1 (lt1 a1)) % 25) - nI 12)), (7, .int (nI (ptS (sentR B1 (lt1 a1 % 2) (lt1 (lt1 a1) % 4)) (rS B1)))), (6, .int (nI (lt1 (lt1 a1) % 4))), (5, .int (nI (lt1 a1 % 2))), (0, .ref (b + 0)), (1, .int (nI k1)), (2, .int (nI x1)), (3, .ref q1), (4, .int (nI d1))]) hx hb dX10_drift_130 hl (by decide) rfl (fun ls hl => ?_)
                refine lv_iload hx hb dX10_drift_132 (lv_at hl 1 rfl) ?_
                refine sl_ci (sg_runS (d := 0) (As := [.int (nI (ptS (sentR B1 (lt1 a1 % 2) (lt1 (lt1 a1) % 4)) (rS B1)))]) (rest := []) hx hb hml hts hown hK hM.1 (c_g_yOf l G b σ3 (ptS (sentR B1 (lt1 a1 % 2) (lt1 (lt1 a1) % 4)) (rS B1)) hp16) mi_X1_yOf wl_X10_125 rfl hl.1 rfl (Nat.le_of_ble_eq_true rfl) dX10_drift_134 ⟨by decide, by decide⟩ ⟨Nat.le_refl 1, Nat.le_refl 1⟩) hM (fun r_134 σ_134 H locs hp_134 hM => ?_)
                obtain ⟨hr_134, hs_134⟩ := hp_134; subst r_134; subst σ_134
                refine lv_aload_n hx hb dX10_drift_137 rfl (lv_at hl 7 rfl) ?_
                refine lv_bipush (v := nI 25) hx hb dX10_drift_138 (by decide) ?_
                refine sl_draw (a := lt1 (lt1 (lt1 a1))) (kn := 25) (rest := [.int (gy (ptS (sentR B1 (lt1 a1 % 2) (lt1 (lt1 a1) % 4)) (rS B1)))]) hx hb hml hts hown hK hM (lt1_lt _) (by decide) (by decide) hl.1 (Nat.le_of_ble_eq_true rfl) dX10_drift_140 ⟨by decide, by decide⟩ ⟨Nat.le_refl 1, Nat.le_refl 1⟩ (fun H locs hM => ?_)
                refine lv_iadd hx hb dX10_drift_143 ?_
                refine lv_bipush (v := nI 12) hx hb dX10_drift_144 (by decide) ?_
                refine lv_isub hx hb dX10_drift_146 ?_
                refine sn_top (y := gy (ptS (sentR B1 (lt1 a1 % 2) (lt1 (lt1 a1) % 4)) (rS B1)) + nI (lt1 (lt1 (lt1 (lt1 a1))) % 25) - nI 12) (rfl) ?_
                refine lv_istore (lv' := [(9, .int (gy (ptS (sentR B1 (lt1 a1 % 2) (lt1 (lt1 a1) % 4)) (rS B1)) + nI (lt1 (lt1 (lt1 (lt1 a1))) % 25) - nI 12)), (8, .int (gx (ptS (sentR B1 (lt1 a1 % 2) (lt1 (lt1 a1) % 4)) (rS B1)) + nI (lt1 (lt1 (lt1 a1)) % 25) - nI 12)), (7, .int (nI (ptS (sentR B1 (lt1 a1 % 2) (lt1 (lt1 a1) % 4)) (rS B1)))), (6, .int (nI (lt1 (lt1 a1) % 4))), (5, .int (nI (lt1 a1 % 2))), (0, .ref (b + 0)), (1, .int (nI k1)), (2, .int (nI x1)), (3, .ref q1), (4, .int (nI d1))]) hx hb dX10_drift_147 hl (by decide) rfl (fun ls hl => ?_)
                refine lv_aload_n hx hb dX10_drift_149 rfl (lv_at hl 5 rfl) ?_
                refine sg_get (v := .ref (b + 1)) hx hb hts hown hK hM.1 (sh0 kc_0) (kd_lt kc_0 (by decide)) rfl inX10 0 (by decide) wf_X10_10 rfl dX10_drift_150 ?_
                refine sg_get (v := .ref (b + 8)) hx hb hts hown hK hM.1 (sh1 kc_1) (kd_lt kc_1 (by decide)) rfl inX3 2 (by decide) wf_X10_97 rfl dX10_drift_153 ?_
                refine lv_iload hx hb dX10_drift_156 (lv_at hl 1 rfl) ?_
                refine lv_iload hx hb dX10_drift_158 (lv_at hl 0 rfl) ?_
                refine sl_cv (sg_runV (d := 1) (As := [.int (gx (ptS (sentR B1 (lt1 a1 % 2) (lt1 (lt1 a1) % 4)) (rS B1)) + nI (lt1 (lt1 (lt1 a1)) % 25) - nI 12), .int (gy (ptS (sentR B1 (lt1 a1 % 2) (lt1 (lt1 a1) % 4)) (rS B1)) + nI (lt1 (lt1 (lt1 (lt1 a1))) % 25) - nI 12)]) (rest := []) hx hb hml hts hown hK hM.1 (c_Pl_append l G b σ3 8 (rN B1) (gx (ptS (sentR B1 (lt1 a1 % 2) (lt1 (lt1 a1) % 4)) (rS B1)) + nI (lt1 (lt1 (lt1 a1)) % 25) - nI 12) (gy (ptS (sentR B1 (lt1 a1 % 2) (lt1 (lt1 a1) % 4)) (rS B1)) + nI (lt1 (lt1 (lt1 (lt1 a1))) % 25) - nI 12) kc_8 hC2.2.2.2.2.1 dn) mi_X6_append wl_X10_104 (sh5 kc_8) (kd_lt kc_8 (by decide)) rfl rfl rfl hl.1 rfl (Nat.le_of_ble_eq_true rfl) dX10_drift_160 ⟨by decide, by decide⟩ ⟨Nat.le_refl 1, Nat.le_refl 1⟩) hM (fun σ4 H locs hp_160 hM => ?_)
                subst σ4
                refine lv_iinc (v := nI (d1 + 1)) (lv' := [(4, .int (nI (d1 + 1))), (9, .int (gy (ptS (sentR B1 (lt1 a1 % 2) (lt1 (lt1 a1) % 4)) (rS B1)) + nI (lt1 (lt1 (lt1 (lt1 a1))) % 25) - nI 12)), (8, .int (gx (ptS (sentR B1 (lt1 a1 % 2) (lt1 (lt1 a1) % 4)) (rS B1)) + nI (lt1 (lt1 (lt1 a1)) % 25) - nI 12)), (7, .int (nI (ptS (sentR B1 (lt1 a1 % 2) (lt1 (lt1 a1) % 4)) (rS B1)))), (6, .int (nI (lt1 (lt1 a1) % 4))), (5, .int (nI (lt1 a1 % 2))), (0, .ref (b + 0)), (1, .int (nI k1)), (2, .int (nI x1)), (3, .ref q1)]) hx hb dX10_drift_163 hl (k := 9) rfl (q_inc _) (by decide) rfl (fun ls hl => ?_)
                refine lv_goto (tgt := 46) hx hb dX10_drift_166 (by decide) ?_
                exact ih46 (d1 + 1) (plApp σ3 8 (rN B1) (gx (ptS (sentR B1 (lt1 a1 % 2) (lt1 (lt1 a1) % 4)) (rS B1)) + nI (lt1 (lt1 (lt1 a1)) % 25) - nI 12) (gy (ptS (sentR B1 (lt1 a1 % 2) (lt1 (lt1 a1) % 4)) (rS B1)) + nI (lt1 (lt1 (lt1 (lt1 a1))) % 25) - nI 12)) (drR B1 a1) (lt1 (lt1 (lt1 (lt1 a1)))) (by omega) (lt1_lt _) (dr_ok hB a1 ds dn) (heard_CM (mo := 1) hC2 _ _) (dr_step dd ds dn hdr) (fun c z => by rw [plApp_o (by omega), hf3 c z]; exact hfr c z) (by omega) _ _ _ hM (lv_sub hl [6, 7, 8, 9, 0] rfl)
      exact L46 (_ + 1) 0 σ1 w.1 x1 (Nat.zero_le _) (by omega) hR hA1 (by rw [Nat.sub_zero, Nat.zero_add]) (fun _ _ => rfl) (Nat.lt_succ_self _) _ _ _ hM (lv_sub hl [2, 3, 4, 1, 0] rfl)
    · refine lv_ldc (v := (-1000000002)) hx hb hown (hts (Cond.constant RX10 52 ((-1000000002))) wk_X10_52) dX10_drift_20 ?_
      exact hret _ _ _ _ _ _ _ _ (Nat.zero_le _) (Nat.zero_le _) dX10_drift_22 hM (⟨by rw [S_drift_o2 (not_t dq2)], by rw [S_drift_o2 (not_t dq2)]; exact hI, fun _ _ => rfl⟩)

/-! THE CONSTRUCTORS: cells are made one behind the other from b on -/
/-- what every cell holds when both constructors are through -/
def sz0 : Mem := fun k i => match kd k with
  | 1 => if i = 3 then (-1) else 0
  | 2 => if i = 0 then nI 2 else if i = 1 then nI 5 else if i = 2 then nI 2 else 0
  | 19 => if i = 0 then nI 2 else if i = 1 then nI 5 else if i = 2 then nI 2 else if i = 3 then (-1) else 0
  | _ => 0
theorem sz_0 {k : Nat} (h1 : kd k ≠ 1) (h2 : kd k ≠ 2) (h3 : kd k ≠ 19) : sz0 k = fun _ => 0 := by
  funext i
  unfold sz0
  split
  · exact absurd ‹_› h1
  · exact absurd ‹_› h2
  · exact absurd ‹_› h3
  · rfl
def NN (U : State) : Prop := va_AO RX3 U ∧ va_Nw (.methodLinkNest RX10 9 yX3_init RX10) U ∧ va_Nw (.methodLinkNest RX3 20 yX7_init RX10) U ∧ va_Nw (.methodLinkNest RX3 27 yX6_init RX10) U ∧ va_Nw (.methodLinkNest RX5 17 yX3_init RX10) U ∧ va_Nw (.methodLinkNest RX10 33 yX2_init RX10) U ∧ va_Nw (.methodLinkNest RX10 40 yX8_init RX10) U ∧ va_Nw (.methodLinkNest RX8 11 yX7_init RX10) U ∧ va_Nw (.methodLinkNest RX10 47 yX4_init RX10) U ∧ va_Nw (.methodLinkNest RX10 54 yX9_init RX10) U
theorem NN.same {u U : State} (h : u.vm = U.vm) (hN : NN u) : NN U := by
  obtain ⟨h0, h1, h2, h3, h4, h5, h6, h7, h8, h9⟩ := hN
  exact ⟨va_AO.moved (by rw [h]; exact Vm.Alike.refl _) h0, va_Nw.same rfl h h1, va_Nw.same rfl h h2, va_Nw.same rfl h h3, va_Nw.same rfl h h4, va_Nw.same rfl h h5, va_Nw.same rfl h h6, va_Nw.same rfl h h7, va_Nw.same rfl h h8, va_Nw.same rfl h h9⟩
theorem NN.warm {s U : State} (hW : s.WarmedH U.vm) (hN : NN s) : NN U := by
  obtain ⟨h0, h1, h2, h3, h4, h5, h6, h7, h8, h9⟩ := hN
  exact ⟨va_AO.moved hW.alike h0, va_Nw.warmM hW h1, va_Nw.warmM hW h2, va_Nw.warmM hW h3, va_Nw.warmM hW h4, va_Nw.warmM hW h5, va_Nw.warmM hW h6, va_Nw.warmM hW h7, va_Nw.warmM hW h8, va_Nw.warmM hW h9⟩
def ovr (G : GT) (b k : Nat) (o1 : va_E) (a : Nat) (o2 : va_E) (j : Nat) : va_E := if j = k then o1 else if j = a then o2 else shr G b j (sz0 j)
/-- inside a constructor of the cell k: n cells stand, those from k on are known; k itself holds o1, a holds o2, all others what they end with -/
def NS (G : GT) (b k n : Nat) (o1 : va_E) (a : Nat) (o2 : va_E) (s : State) (H : Heap) (locs : List Loc) : Prop := H.size = b + n ∧ (∀ j, k ≤ j → j < n → va_at G.1 vwCl (b + j, ovr G b k o1 a o2 j) H) ∧ va_S (Fb (b + k)) s.heap H locs
def NP (G : GT) (b k n : Nat) (o1 : va_E) (U : State) : Prop := U.heap.size = b + n ∧ va_at G.1 vwCl (b + k, o1) U.heap ∧ va_K G.1 vwCl (gtys G) U ∧ NN U
def NQ (G : GT) (b k n : Nat) (t : State) : Prop := t.heap.size = b + n ∧ ∀ j, k ≤ j → j < n → va_at G.1 vwCl (b + j, shr G b j (sz0 j)) t.heap
abbrev RC (d mc ms : Nat) : Room := { frames := d, cells := mc, slots := ms, locals := 36 * d }
abbrev KN (l : Launch) (G : GT) (b : Nat) (y : MethodName) (bytes : ByteArray) (maxL d mc ms k n : Nat) (o1 : va_E) : Prop := Met l y (Cond.code y bytes maxL none :: TB) (RC d mc ms) (va_Pc [.ref (b + k)] (NP G b k (k + 1) o1)) (va_Qv (fun _ : Unit => True) (fun _ t => NQ G b k n t) (Fb (b + k))) mc ms (Fb (b + k))
theorem NP_blind {G : GT} {b k n : Nat} {o1 : va_E} {av : List Value} : FrameBlind (va_Pc av (NP G b k n o1)) := fun _ U _ _ h => ⟨h.1, h.2.1, h.2.2.1, va_K.moved (u := U) (Vm.Alike.refl U.vm) h.2.2.2.1, NN.same (u := U) rfl h.2.2.2.2⟩
section NSS
variable {p : Program} {l : Launch} {e : Env} {R : Room} {s : State} {m : MethodId} {args : Array Value} {below : List Frame} {meth : Method} {c : Code} {H : Heap} {locs : List Loc} {cells slots : Nat} {Q : State → Prop}
variable {cc : ByteArray} {pc : Nat} {ls : Array Slot} {rest : List Value} {G : GT} {b k n a nL : Nat} {o1 o2 : va_E} {own : String}
theorem NS.start {o1 : va_E} (h : NP G b k (k + 1) o1 s) : NS G b k (k + 1) o1 k o1 s s.heap [] := by
  refine ⟨h.1, fun j h1 h2 => ?_, va_S.rf⟩
  have hj : j = k := by omega
  subst hj
  unfold ovr
  rw [if_pos rfl]
  exact h.2.1
theorem NS.up1 (hM : NS G b k n o1 a o2 s H locs) {H1 : Heap} {o1' : va_E} {sl : Nat} (he : va_at G.1 vwCl (b + k, o1') H1) (hz : H1.size = H.size) (oq : ∀ q : Nat, q ≠ b + k → H1[q]? = H[q]?) : NS G b k n o1' a o2 s H1 (locs ++ [⟨b + k, sl⟩]) := by
  refine ⟨by rw [hz]; exact hM.1, fun j h1 h2 => ?_, hM.2.2.put hz oq (Nat.le_refl _)⟩
  have h3 := hM.2.1 j h1 h2
  unfold ovr at h3 ⊢
  by_cases ej : j = k
  · subst ej
    rw [if_pos rfl]
    exact he
  · rw [if_neg ej] at h3 ⊢
    exact h3.kept (oq (b + j) (by omega))
theorem NS.up2 (hM : NS G b k n o1 a o2 s H locs) (hka : k < a) {H1 : Heap} {o2' : va_E} {sl : Nat} (he : va_at G.1 vwCl (b + a, o2') H1) (hz : H1.size = H.size) (oq : ∀ q : Nat, q ≠ b + a → H1[q]? = H[q]?) : NS G b k n o1 a o2' s H1 (locs ++ [⟨b + a, sl⟩]) := by
  refine ⟨by rw [hz]; exact hM.1, fun j h1 h2 => ?_, hM.2.2.put hz oq (show b + k ≤ b + a by omega)⟩
  have h3 := hM.2.1 j h1 h2
  unfold ovr at h3 ⊢
  by_cases ej : j = a
  · subst ej
    rw [if_neg (by omega), if_pos rfl]
    exact he
  · rw [if_neg ej] at h3 ⊢
    exact h3.kept (oq (b + j) (by omega))
theorem NS.sub2 {o2' : va_E} (hM : NS G b k n o1 a o2 s H locs) (he : ∀ H1 : Heap, va_at G.1 vwCl (b + a, o2) H1 → va_at G.1 vwCl (b + a, o2') H1) : NS G b k n o1 a o2' s H locs := by
  refine ⟨hM.1, fun j h1 h2 => ?_, hM.2.2⟩
  have h3 := hM.2.1 j h1 h2
  unfold ovr at h3 ⊢
  by_cases ek : j = k
  · rw [if_pos ek] at h3 ⊢
    exact h3
  · rw [if_neg ek] at h3 ⊢
    by_cases ej : j = a
    · subst ej
      rw [if_pos rfl] at h3 ⊢
      exact he H h3
    · rw [if_neg ej] at h3 ⊢
      exact h3
theorem NS.grow (hM : NS G b k n o1 a o2 s H locs) (hk : k < n) (ha : a < n) {H1 : Heap} {locs1 : List Loc} {n' : Nat} (hz : H1.size = b + n') (oq : ∀ q : Nat, q < b + n → H1[q]? = H[q]?) (hnew : ∀ j, n ≤ j → j < n' → va_at G.1 vwCl (b + j, shr G b j (sz0 j)) H1) (hS : va_S (Fb (b + k)) s.heap H1 locs1) : NS G b k n' o1 a o2 s H1 locs1 := by
  refine ⟨hz, fun j h1 h2 => ?_, hS⟩
  by_cases hj : j < n
  · exact (hM.2.1 j h1 hj).kept (oq (b + j) (by omega))
  · unfold ovr
    rw [if_neg (by omega), if_neg (by omega)]
    exact hnew j (by omega) h2
theorem NS.growA {ox : va_E} (hM : NS G b k n o1 k ox s H locs) (hk : k < n) {H1 : Heap} {locs1 : List Loc} {o2' : va_E} (hz : H1.size = b + (n + 1)) (oq : ∀ q : Nat, q < b + n → H1[q]? = H[q]?) (hnew : va_at G.1 vwCl (b + n, o2') H1) (hS : va_S (Fb (b + k)) s.heap H1 locs1) : NS G b k (n + 1) o1 n o2' s H1 locs1 := by
  refine ⟨hz, fun j h1 h2 => ?_, hS⟩
  unfold ovr
  by_cases hj : j < n
  · have h3 := hM.2.1 j h1 hj
    unfold ovr at h3
    by_cases ek : j = k
    · rw [if_pos ek] at h3 ⊢
      exact h3.kept (oq (b + j) (by omega))
    · rw [if_neg ek, if_neg ek] at h3
      rw [if_neg ek, if_neg (by omega)]
      exact h3.kept (oq (b + j) (by omega))
  · have hj : j = n := by omega
    subst hj
    rw [if_neg (by omega), if_pos rfl]
    exact hnew
theorem NS.at1 (hM : NS G b k n o1 a o2 s H locs) (hk : k < n) : va_at G.1 vwCl (b + k, o1) H := by
  have h3 := hM.2.1 k (Nat.le_refl _) hk
  unfold ovr at h3
  rw [if_pos rfl] at h3
  exact h3
theorem NS.at2 (hM : NS G b k n o1 a o2 s H locs) (hka : k < a) (han : a < n) : va_at G.1 vwCl (b + a, o2) H := by
  have h3 := hM.2.1 a (by omega) han
  unfold ovr at h3
  rw [if_neg (by omega), if_pos rfl] at h3
  exact h3
theorem NS.at3 (hM : NS G b k n o1 a o2 s H locs) {j : Nat} (h1 : k < j) (h2 : j < n) (h3 : j ≠ a) : va_at G.1 vwCl (b + j, shr G b j (sz0 j)) H := by
  have h4 := hM.2.1 j (by omega) h2
  unfold ovr at h4
  rw [if_neg (by omega), if_neg h3] at h4
  exact h4
theorem va_one {q : Nat × va_E} (h : va_at G.1 vwCl q H) : va_P G.1 vwCl [q] H := fun i x hx => by
  have h1 : i < 1 := (List.getElem?_eq_some_iff.mp hx).1
  rw [show i = 0 by omega] at hx
  cases hx
  exact h
theorem NS.S_new (hM : NS G b k n o1 a o2 s H locs) {H1 : Heap} (hz : H1.size = b + (n + 1)) (oq : ∀ q : Nat, q < b + n → H1[q]? = H[q]?) : va_S (Fb (b + k)) s.heap H1 locs := by
  have h1 := hM.1
  have h2 := hM.2.2
  exact ⟨by have := h2.1; omega, fun x hx1 hx2 => (oq x (by have := h2.1; omega)).trans (h2.2.1 x hx1 hx2), h2.2.2⟩
/-- a final field is set, in a constructor -/
theorem ns_putF (hexec : p.tables.exec = Jvm.exec) (hb : c.code = cc) (hts : ∀ w ∈ TB, w.before args s = true) (hown : s.vm.findClass own = some m.cls) (hK : va_K G.1 vwCl (gtys G) s) {C : String} {T : u_T} {N ci index : Nat} {fs : List Value} (hM : NS G b k n (.inr (ci, fs)) a o2 s H locs) (hkn : k < n) (hc : vwCl[ci]? = some (C, T, N)) (hin : ∀ w ∈ u_ws C T N, w ∈ TB) (ty0 : Nat → FieldType) (hty : ∀ k, k < N → parseFieldDescriptor (T k).2.2.1 = some (ty0 k)) (hnm : ∀ a, a < N → ∀ b, b < N → a ≠ b → (T a).2.1 ≠ (T b).2.1) (j : Nat) (hj : j < N) (hl : Cond.fieldLink own index (T j).1 (T j).2.1 (T j).2.2.1 ∈ TB) (hfin : (T j).2.2.2 = true) (hin2 : meth.name = "<init>") (hdecl : (T j).1 = own) {ty : FieldType} {v : Value} (hd : parseFieldDescriptor (T j).2.2.1 = some ty) (hn : narrow ty v = v) (hfit : fits ty v = true) (hlen : j < fs.length) (hdg : decode cc pc = .ok (.putfield index, 3))
    (kk : ∀ (H1 : Heap) (locs1 : List Loc), NS G b k n (.inr (ci, fs.set j v)) a o2 s H1 locs1 → W p l e R s m args below meth c H1 locs1 cells slots Q (F0 m (pc + 3) ls rest)) : W p l e R s m args below meth c H locs cells slots Q (F0 m pc ls (v :: .ref (b + k) :: rest)) := by
  have hap := va_apart (own := own) hts hin ty0 hty hnm hK hc
  obtain ⟨r, h1, cell, q1, q2, q3, q4⟩ := hM.at1 hkn
  have hr : r = (C, T, N) := Option.some.inj (h1.symm.trans hc)
  subst hr
  obtain ⟨hS, hfc, kC, hkC, hkind⟩ := hK.1 ci _ hc
  obtain ⟨cf, kf, fi, f, hi, hsl⟩ := hS j hj
  have hlay := hts _ (hin _ (u_in_lay hj))
  unfold u_lay at hlay
  rw [if_pos hfin] at hlay
  have hst := (u_facts hfc hkC (u_lays hts hin hj) hi).1
  have hcf : m.cls = cf := by
    obtain ⟨_, _, c', _, _, _, -, -, hf', -, -, -, hown2, -⟩ := Cond.laysFinal_spec hlay
    have e1 : c' = cf := by have := hi.symm.trans hf'; simp at this; exact this.1.symm
    rw [hdecl] at hown2
    rw [← e1]; exact Option.some.inj (hown.symm.trans hown2)
  have h6 := u_fits hfc hkC hkind (Or.inr hlay) hi hd hn hfit
  refine W.putFinK hexec hb hown (hts _ hl) hi hst hcf hin2 (by rw [q2]; exact h6) q1 q3 (by rw [hsl]; exact k2_hasslot (q4 j hj)) rfl rfl hdg fun H' e1 e2 e3 => ?_
  rw [hsl] at e1 ⊢
  exact kk H' _ (hM.up1 ⟨_, hc, t_OB.to (V := updV (vp_V fs) j v) ⟨_, e1, q2, q3, t_set q4 hap hj v⟩ (fun i _ => vp_updV_set hlen v i)⟩ e2 e3)
theorem ns_put (hexec : p.tables.exec = Jvm.exec) (hb : c.code = cc) (hts : ∀ w ∈ TB, w.before args s = true) (hown : s.vm.findClass own = some m.cls) (hK : va_K G.1 vwCl (gtys G) s) {C : String} {T : u_T} {N ci index : Nat} {fs : List Value} (hM : NS G b k n (.inr (ci, fs)) a o2 s H locs) (hkn : k < n) (hc : vwCl[ci]? = some (C, T, N)) (hin : ∀ w ∈ u_ws C T N, w ∈ TB) (ty0 : Nat → FieldType) (hty : ∀ k, k < N → parseFieldDescriptor (T k).2.2.1 = some (ty0 k)) (hnm : ∀ a, a < N → ∀ b, b < N → a ≠ b → (T a).2.1 ≠ (T b).2.1) (j : Nat) (hj : j < N) (hl : Cond.fieldLink own index (T j).1 (T j).2.1 (T j).2.2.1 ∈ TB) (hfin : (T j).2.2.2 = false) {ty : FieldType} {v : Value} (hd : parseFieldDescriptor (T j).2.2.1 = some ty) (hn : narrow ty v = v) (hfit : fits ty v = true) (hlen : j < fs.length) (hdg : decode cc pc = .ok (.putfield index, 3))
    (kk : ∀ (H1 : Heap) (locs1 : List Loc), NS G b k n (.inr (ci, fs.set j v)) a o2 s H1 locs1 → W p l e R s m args below meth c H1 locs1 cells slots Q (F0 m (pc + 3) ls rest)) : W p l e R s m args below meth c H locs cells slots Q (F0 m pc ls (v :: .ref (b + k) :: rest)) := by
  have hap := va_apart (own := own) hts hin ty0 hty hnm hK hc
  obtain ⟨r, h1, cell, q1, q2, q3, q4⟩ := hM.at1 hkn
  have hr : r = (C, T, N) := Option.some.inj (h1.symm.trans hc)
  subst hr
  obtain ⟨hS, hfc, kC, hkC, hkind⟩ := hK.1 ci _ hc
  obtain ⟨cf, kf, fi, f, hi, hsl⟩ := hS j hj
  have hlay := hts _ (hin _ (u_in_lay hj))
  unfold u_lay at hlay
  rw [if_neg (by rw [hfin]; decide)] at hlay
  have hst := (u_facts hfc hkC (u_lays hts hin hj) hi).1
  have h6 := u_store hfc hkC hkind hlay hi hd hn hfit
  refine W.putK hexec hb (f := f) ⟨hown, hts _ hl, ⟨cf, kf, fi, hi⟩, hst⟩ (by rw [q2]; exact h6) q1 q3 (by rw [hsl]; exact k2_hasslot (q4 j hj)) rfl rfl hdg fun H' e1 e2 e3 => ?_
  rw [hsl] at e1 ⊢
  exact kk H' _ (hM.up1 ⟨_, hc, t_OB.to (V := updV (vp_V fs) j v) ⟨_, e1, q2, q3, t_set q4 hap hj v⟩ (fun i _ => vp_updV_set hlen v i)⟩ e2 e3)
theorem ns_get (hexec : p.tables.exec = Jvm.exec) (hb : c.code = cc) (hts : ∀ w ∈ TB, w.before args s = true) (hown : s.vm.findClass own = some m.cls) (hK : va_K G.1 vwCl (gtys G) s) {C : String} {T : u_T} {N ci index : Nat} {fs : List Value} (hM : NS G b k n (.inr (ci, fs)) a o2 s H locs) (hkn : k < n) (hc : vwCl[ci]? = some (C, T, N)) (hin : ∀ w ∈ u_ws C T N, w ∈ TB) (j : Nat) (hj : j < N) (hl : Cond.fieldLink own index (T j).1 (T j).2.1 (T j).2.2.1 ∈ TB) {v : Value} (hv : fs[j]? = some v) (hdg : decode cc pc = .ok (.getfield index, 3))
    (kk : W p l e R s m args below meth c H locs cells slots Q (F0 m (pc + 3) ls (v :: rest))) : W p l e R s m args below meth c H locs cells slots Q (F0 m pc ls (.ref (b + k) :: rest)) :=
  va_get hexec hb hts hin hown hK (va_one (hM.at1 hkn)) 0 rfl hc j hj (hts _ hl) (fun _ h => h) hv hdg kk
theorem ns_arrI (hexec : p.tables.exec = Jvm.exec) (hb : c.code = cc) (hts : ∀ w ∈ TB, w.before args s = true) (hK : va_K G.1 vwCl (gtys G) s) (hM : NS G b k n o1 a o2 s H locs) (hkn : k < n) (han : a < n) {N : Nat} (hsh : shr G b n (sz0 n) = .inl (G.2.1, N, .inl (fun _ => 0))) (hn31 : N < 2 ^ 27) (hcells : cells + 1 ≤ R.cells) (hslots : slots + N ≤ R.slots) (hdg : decode cc pc = .ok (.newarray .int, 2))
    (kk : ∀ (H1 : Heap) (locs1 : List Loc), NS G b k (n + 1) o1 a o2 s H1 locs1 → W p l e R s m args below meth c H1 locs1 (cells + 1) (slots + N) Q (F0 m (pc + 2) ls (.ref (b + n) :: rest))) : W p l e R s m args below meth c H locs cells slots Q (F0 m pc ls (.int (nI N) :: rest)) := by
  refine va_newaK (atype := .int) (N := N) hexec hb (hts _ wa_int) rfl hdg rfl (nI_pos (by omega)) (nI_clamp (by omega)) (show N * _ ≤ _ from Nat.le_trans (Nat.mul_le_mul_left N (show componentBytes .int ≤ 4 by decide)) (by omega)) hcells hslots hM.1 fun H1 cA e1 z1 q1 hAr hNm => ?_
  have hcA : cA = G.2.1 := Option.some.inj (hNm.symm.trans (hK.2 0 _ rfl).2)
  subst hcA
  have z1 : H1.size = b + (n + 1) := by rw [z1, Nat.add_assoc]
  refine kk H1 locs (hM.grow hkn han z1 q1 (fun j h1 h2 => ?_) (hM.S_new z1 q1))
  have hj : j = n := by omega
  subst hj
  rw [hsh]
  show H1[b + j]? = some (vp_cell _ _)
  rw [vp_cell_i]
  exact e1
theorem ns_arrIA (hexec : p.tables.exec = Jvm.exec) (hb : c.code = cc) (hts : ∀ w ∈ TB, w.before args s = true) (hK : va_K G.1 vwCl (gtys G) s) {ox : va_E} (hM : NS G b k n o1 k ox s H locs) (hkn : k < n) {N : Nat} (hn31 : N < 2 ^ 27) (hcells : cells + 1 ≤ R.cells) (hslots : slots + N ≤ R.slots) (hdg : decode cc pc = .ok (.newarray .int, 2))
    (kk : ∀ (H1 : Heap) (locs1 : List Loc), NS G b k (n + 1) o1 n (.inl (G.2.1, N, .inl (fun _ => 0))) s H1 locs1 → W p l e R s m args below meth c H1 locs1 (cells + 1) (slots + N) Q (F0 m (pc + 2) ls (.ref (b + n) :: rest))) : W p l e R s m args below meth c H locs cells slots Q (F0 m pc ls (.int (nI N) :: rest)) := by
  refine va_newaK (atype := .int) (N := N) hexec hb (hts _ wa_int) rfl hdg rfl (nI_pos (by omega)) (nI_clamp (by omega)) (show N * _ ≤ _ from Nat.le_trans (Nat.mul_le_mul_left N (show componentBytes .int ≤ 4 by decide)) (by omega)) hcells hslots hM.1 fun H1 cA e1 z1 q1 hAr hNm => ?_
  have hcA : cA = G.2.1 := Option.some.inj (hNm.symm.trans (hK.2 0 _ rfl).2)
  subst hcA
  have z1 : H1.size = b + (n + 1) := by rw [z1, Nat.add_assoc]
  refine kk H1 locs (hM.growA hkn z1 q1 ?_ (hM.S_new z1 q1))
  show H1[b + n]? = some (vp_cell _ _)
  rw [vp_cell_i]
  exact e1
theorem ns_arrZ (hexec : p.tables.exec = Jvm.exec) (hb : c.code = cc) (hts : ∀ w ∈ TB, w.before args s = true) (hK : va_K G.1 vwCl (gtys G) s) (hM : NS G b k n o1 a o2 s H locs) (hkn : k < n) (han : a < n) {N : Nat} (hsh : shr G b n (sz0 n) = .inl (G.2.2.1, N, .inl (fun _ => 0))) (hn31 : N < 2 ^ 27) (hcells : cells + 1 ≤ R.cells) (hslots : slots + N ≤ R.slots) (hdg : decode cc pc = .ok (.newarray .boolean, 2))
    (kk : ∀ (H1 : Heap) (locs1 : List Loc), NS G b k (n + 1) o1 a o2 s H1 locs1 → W p l e R s m args below meth c H1 locs1 (cells + 1) (slots + N) Q (F0 m (pc + 2) ls (.ref (b + n) :: rest))) : W p l e R s m args below meth c H locs cells slots Q (F0 m pc ls (.int (nI N) :: rest)) := by
  refine va_newaK (atype := .boolean) (N := N) hexec hb (hts _ wa_boolean) rfl hdg rfl (nI_pos (by omega)) (nI_clamp (by omega)) (show N * _ ≤ _ from Nat.le_trans (Nat.mul_le_mul_left N (show componentBytes .boolean ≤ 4 by decide)) (by omega)) hcells hslots hM.1 fun H1 cA e1 z1 q1 hAr hNm => ?_
  have hcA : cA = G.2.2.1 := Option.some.inj (hNm.symm.trans (hK.2 1 _ rfl).2)
  subst hcA
  have z1 : H1.size = b + (n + 1) := by rw [z1, Nat.add_assoc]
  refine kk H1 locs (hM.grow hkn han z1 q1 (fun j h1 h2 => ?_) (hM.S_new z1 q1))
  have hj : j = n := by omega
  subst hj
  rw [hsh]
  show H1[b + j]? = some (vp_cell _ _)
  rw [vp_cell_i]
  exact e1
/-- an object is made and its constructor called: new, dup, invokespecial -/
theorem ns_make (hexec : p.tables.exec = Jvm.exec) (hb : c.code = cc) (hts : ∀ w ∈ TB, w.before args s = true) (hown : s.vm.findClass own = some m.cls) (hK : va_K G.1 vwCl (gtys G) s) (hM : NS G b k n o1 a o2 s H locs) (hkn : k < n) (han : a < n) {C : String} {T : u_T} {N ci index n' mc ms : Nat} {fs : List Value} (hc : vwCl[ci]? = some (C, T, N)) (hin : ∀ w ∈ u_ws C T N, w ∈ TB) (ty : Nat → FieldType) (hty : ∀ k, k < N → parseFieldDescriptor (T k).2.2.1 = some (ty k)) (hcl : Cond.classLink own index C ∈ TB) (hinst : Cond.instantiable C N ∈ TB) (hini : Cond.initialized C ∈ TB) (hfs : ∀ j, j < N → defaultValue (ty j) = vp_V fs j) (hcells : cells + 1 ≤ R.cells) (hslots : slots + N ≤ R.slots) (hd0 : decode cc pc = .ok (.new index, 3)) (hd1 : decode cc (pc + 3) = .ok (.dup, 1))
    (hrun : ∀ (H1 : Heap) (locs1 : List Loc), H1.size = b + (n + 1) → va_at G.1 vwCl (b + n, .inr (ci, fs)) H1 → va_Run p l e R s m args below meth c H1 locs1 (cells + 1) (slots + N) mc ms (F0 m (pc + 3 + 1) ls (.ref (b + n) :: .ref (b + n) :: rest)) (.ref (b + n) :: rest) (va_Qv (fun _ : Unit => True) (fun _ t => NQ G b n n' t) (Fb (b + n)) ([Value.ref (b + n)] : List Value).toArray) (Fb (b + n)))
    (kk : ∀ (H1 : Heap) (locs1 : List Loc), NS G b k n' o1 a o2 s H1 locs1 → W p l e R s m args below meth c H1 locs1 (cells + 1 + mc) (slots + N + ms) Q (F0 m (pc + 3 + 1 + 3) ls (.ref (b + n) :: rest))) : W p l e R s m args below meth c H locs cells slots Q (F0 m pc ls rest) := by
  have hKn := hK.1 ci _ hc
  refine W.newcK hexec hb hown (hts _ hcl) (hts _ hinst) (hts _ hini) rfl hd0 hcells hslots hKn.2.1 hM.1 fun H1 kC hkC e1 z1 q1 => ?_
  refine W.eq (g2 := F0 m (pc + 3) ls (.ref (b + n) :: rest)) rfl ?_
  refine lv_dup hexec hb hd1 rfl ?_
  have hat : va_at G.1 vwCl (b + n, .inr (ci, fs)) H1 := ⟨_, hc, (u_born ty hts hin hKn hkC e1 hty).to hfs⟩
  have hz1 : H1.size = b + (n + 1) := by rw [z1, Nat.add_assoc]
  have hS1 := hM.S_new hz1 q1
  refine va_callv (hrun H1 locs hz1 hat) hS1 (fun q _ h => Nat.le_trans (show b + k ≤ b + n by omega) h) (fun q h => Nat.le_trans (show b + k ≤ b + n by omega) h) (fun u t H2 locs2 ht _ _ hB hz2 hk2 hS2 => ?_)
  refine kk H2 locs2 (hM.grow hkn han (by rw [← ht]; exact hB.1) (fun q hq => ?_) (fun j h1 h2 => by rw [← ht]; exact hB.2 j h1 h2) hS2)
  rw [hk2 q (by omega) (fun h => absurd (show b + n ≤ q from h) (by omega)), q1 q hq]
section RUNS
variable {y : MethodName} {bytes : ByteArray} {maxL d mc ms n' index : Nat}
theorem ns_runI (hexec : p.tables.exec = Jvm.exec) (hb : c.code = cc) (hml : c.maxLocals = nL) (hts : ∀ w ∈ TB, w.before args s = true) (hown : s.vm.findClass own = some m.cls) (hK : va_K G.1 vwCl (gtys G) s) (hN : NN s) (hmet : KN l G b y bytes maxL d mc ms n n' o1) (hmi : MI y bytes maxL none 0) (hl : Cond.methodLink own index y ∈ TB) (hwm : Cond.instanceMethod y ∈ TB) (hy1 : y.name = "<init>") (hsz : ls.size = nL) (hW : ((Value.ref (b + n) :: rest).map fun v => v.category).sum ≤ 8) (hdg : decode cc pc = .ok (.invokespecial index, 3)) (hR : d + 1 ≤ R.frames ∧ 8 + (maxL + 11) + 36 * d ≤ R.locals) (hf : cells + mc ≤ R.cells ∧ slots + ms ≤ R.slots) (H1 : Heap) (locs1 : List Loc) (hz : H1.size = b + (n + 1)) (hat : va_at G.1 vwCl (b + n, o1) H1) :
    va_Run p l e R s m args below meth c H1 locs1 cells slots mc ms (F0 m pc ls (.ref (b + n) :: .ref (b + n) :: rest)) (.ref (b + n) :: rest) (va_Qv (fun _ : Unit => True) (fun _ t => NQ G b n n' t) (Fb (b + n)) ([Value.ref (b + n)] : List Value).toArray) (Fb (b + n)) :=
  va_runI (As := []) (rest := .ref (b + n) :: rest) ⟨hexec, hb, hml, hown, hts⟩ hmet ⟨callB_of 0 hts (tb_good hmi.1) rfl rfl rfl (hts _ hmi.2.1) (hts _ hl) hmi.2.2 hR, hy1, hts _ hwm⟩ ⟨NP_blind, fun U hU hWm => ⟨rfl, by rw [hU]; exact hz, by rw [hU]; exact hat, va_K.moved hWm.alike hK, NN.warm hWm hN⟩⟩ rfl rfl hsz rfl (lv_room hW) hdg hf
theorem ns_runIN (hexec : p.tables.exec = Jvm.exec) (hb : c.code = cc) (hml : c.maxLocals = nL) (hts : ∀ w ∈ TB, w.before args s = true) (hown : s.vm.findClass own = some m.cls) (hK : va_K G.1 vwCl (gtys G) s) (hN : NN s) (hmet : KN l G b y bytes maxL d mc ms n n' o1) (hmi : MI y bytes maxL none 0) (hl : va_Nw (.methodLinkNest own index y RX10) s) (hwm : Cond.instanceMethod y ∈ TB) (hy1 : y.name = "<init>") (hsz : ls.size = nL) (hW : ((Value.ref (b + n) :: rest).map fun v => v.category).sum ≤ 8) (hdg : decode cc pc = .ok (.invokespecial index, 3)) (hR : d + 1 ≤ R.frames ∧ 8 + (maxL + 11) + 36 * d ≤ R.locals) (hf : cells + mc ≤ R.cells ∧ slots + ms ≤ R.slots) (H1 : Heap) (locs1 : List Loc) (hz : H1.size = b + (n + 1)) (hat : va_at G.1 vwCl (b + n, o1) H1) :
    va_Run p l e R s m args below meth c H1 locs1 cells slots mc ms (F0 m pc ls (.ref (b + n) :: .ref (b + n) :: rest)) (.ref (b + n) :: rest) (va_Qv (fun _ : Unit => True) (fun _ t => NQ G b n n' t) (Fb (b + n)) ([Value.ref (b + n)] : List Value).toArray) (Fb (b + n)) :=
  va_runIN (As := []) (rest := .ref (b + n) :: rest) ⟨hexec, hb, hml, hown, hts⟩ hmet ⟨va_cnB 0 hts (tb_good hmi.1) rfl rfl rfl hl (hts _ hmi.2.1) hmi.2.2 hR, hy1, hts _ hwm⟩ ⟨NP_blind, fun U hU hWm => ⟨rfl, by rw [hU]; exact hz, by rw [hU]; exact hat, va_K.moved hWm.alike hK, NN.warm hWm hN⟩⟩ rfl rfl hsz rfl (lv_room hW) hdg hf
end RUNS
theorem ns_ret {mc ms : Nat} (hexec : p.tables.exec = Jvm.exec) (hb : c.code = cc) (hr : meth.sig.returnType = none) (hlocks : meth.locks = false) (hM : NS G b k n o1 a o2 s H locs) (h1 : o1 = shr G b k (sz0 k)) (h2 : a ≠ k → o2 = shr G b a (sz0 a)) (hc : cells ≤ mc) (hs : slots ≤ ms) (hdg : decode cc pc = .ok (.return_, 1)) : W p l e R s m args below meth c H locs cells slots (MQ below (va_Qv (fun _ : Unit => True) (fun _ t => NQ G b k n t) (Fb (b + k))) args s mc ms (Fb (b + k))) (F0 m pc ls []) := by
  refine W.widen hc hs ?_
  refine W.vret hexec hb hr (fun t ht hW => ⟨⟨(), rfl, trivial, by rw [ht]; exact hM.1, fun j hj1 hj2 => ?_⟩, hM.2.2.F ht⟩) hM.2.2.2.2 hdg hlocks
  have h3 := hM.2.1 j hj1 hj2
  rw [ht]
  unfold ovr at h3
  by_cases ek : j = k
  · subst ek
    rw [if_pos rfl, h1] at h3
    exact h3
  · rw [if_neg ek] at h3
    by_cases ej : j = a
    · subst ej
      rw [if_pos rfl, h2 ek] at h3
      exact h3
    · rw [if_neg ej] at h3
      exact h3
/-- an array of Moments is made: all null -/
theorem ns_anew (hexec : p.tables.exec = Jvm.exec) (hb : c.code = cc) (hts : ∀ w ∈ TB, w.before args s = true) (hown : s.vm.findClass own = some m.cls) (hK : va_K G.1 vwCl (gtys G) s) (hN : NN s) {ox : va_E} (hM : NS G b k n o1 k ox s H locs) (hkn : k < n) {index N : Nat} (hcl : Cond.classLink own index RX3 ∈ TB) (hn31 : N < 2 ^ 27) (hcells : cells + 1 ≤ R.cells) (hslots : slots + N ≤ R.slots) (hdg : decode cc pc = .ok (.anewarray index, 3))
    (kk : ∀ (H1 : Heap) (locs1 : List Loc), NS G b k (n + 1) o1 n (.inl (G.2.2.2, N, .inr (.inr (.inr (.inr (fun _ => none)))))) s H1 locs1 → W p l e R s m args below meth c H1 locs1 (cells + 1) (slots + N) Q (F0 m (pc + 3) ls (.ref (b + n) :: rest))) : W p l e R s m args below meth c H locs cells slots Q (F0 m pc ls (.int (nI N) :: rest)) := by
  have hcl31 : (nI N).toNatClampNeg = N := nI_clamp (by omega)
  refine W.anew hexec hb hown (hts _ hcl) (va_AO.use hN.1) rfl hdg rfl (nI_pos (by omega)) (by rw [hcl31]; omega) hcells (by rw [hcl31]; exact hslots) fun cA kA comp f1 f2 f3 f4 => ?_
  rw [hcl31]
  obtain ⟨kA', comp', g1, g2, g3, g4⟩ := (hK.2 2 _ rfl).2
  have hcA : cA = G.2.2.2 := Option.some.inj (f1.symm.trans g4)
  subst hcA
  generalize hH1 : H.push ({ cls := G.2.2.2, slots := Array.replicate N .null, vm := .none } : Cell) = H1
  have hsz := hM.1
  have z1 : H1.size = b + (n + 1) := by rw [← hH1, Array.size_push, hsz, Nat.add_assoc]
  have e1 : H1[b + n]? = some (arrV G.2.2.2 N (fun _ => .null)) := by rw [← hH1, ← hsz, Array.getElem?_push_size, ← arrV_new]
  have q1 : ∀ q : Nat, q < b + n → H1[q]? = H[q]? := fun q hq => by rw [← hH1, Array.getElem?_push, if_neg (by omega)]
  refine W.eq (g2 := F0 m (pc + 3) ls (.ref (b + n) :: rest)) (by rw [hsz]) ?_
  refine kk H1 locs (hM.growA hkn z1 q1 ?_ (hM.S_new z1 q1))
  show H1[b + n]? = some (vp_cell _ _)
  rw [vp_cell_q]
  exact e1
theorem ns_aast (hexec : p.tables.exec = Jvm.exec) (hb : c.code = cc) (hK : va_K G.1 vwCl (gtys G) s) {N v i : Nat} {vs : List Value} {f : Nat → Option Nat} (hM : NS G b k n o1 a (.inl (G.2.2.2, N, .inr (.inr (.inr (.inr f))))) s H locs) (hka : k < a) (han : a < n) (hv : va_at G.1 vwCl (b + v, .inr (2, vs)) H) (hi : i < N) (hN : N < 2 ^ 31) (hdg : decode cc pc = .ok (.aastore, 1))
    (kk : ∀ (H1 : Heap) (locs1 : List Loc), NS G b k n o1 a (.inl (G.2.2.2, N, .inr (.inr (.inr (.inr (va_up f i (some (b + v)))))))) s H1 locs1 → W p l e R s m args below meth c H1 locs1 cells slots Q (F0 m (pc + 1) ls rest)) : W p l e R s m args below meth c H locs cells slots Q (F0 m pc ls (.ref (b + v) :: .int (nI i) :: .ref (b + a) :: rest)) := by
  have hcl31 : (nI i).toNatClampNeg = i := nI_clamp (by omega)
  obtain ⟨r', hr', cellV, g1, g2, g3, -⟩ := hv
  have hcls := (hK.1 2 _ rfl).2
  obtain ⟨kA, comp, k1, k2, k3, -⟩ := (hK.2 2 _ rfl).2
  have hcomp : comp = G.1.1 2 := Option.some.inj (k3.symm.trans hcls.1)
  subst hcomp
  obtain ⟨kC, hkC, hkC2⟩ := hcls.2
  refine W.aast hexec hb (hM.at2 hka han) (fun q h => by cases h) (fun h => by cases h) k1 k2 rfl hkC ⟨nI_pos (by omega), by rw [hcl31]; show _ < (arrV _ _ _).slots.size; rw [arrV_size]; exact hi⟩ g1 (fun q h => by rw [g3] at h; cases h) (by rw [g2]; exact hkC) (by rw [g2]; exact va_assign hcls) rfl rfl hdg fun H1 e z oq => ?_
  refine kk H1 _ (hM.up2 hka ?_ z oq)
  show H1[b + a]? = some (vp_cell _ _)
  rw [e, hcl31]
  rw [vp_cell_q, vp_cell_q, arrV_store]
  congr 2
  funext q
  by_cases hq : q = i
  · subst hq
    simp [updV, va_up, va_rf]
  · simp [updV, va_up, hq]
theorem ns_iast (hexec : p.tables.exec = Jvm.exec) (hb : c.code = cc) (hK : va_K G.1 vwCl (gtys G) s) {N i : Nat} {x : Int32} {f : Nat → Int32} (hM : NS G b k n o1 a (.inl (G.2.1, N, .inl f)) s H locs) (hka : k < a) (han : a < n) (hi : i < N) (hN : N < 2 ^ 31) (hdg : decode cc pc = .ok (.iastore, 1))
    (kk : ∀ (H1 : Heap) (locs1 : List Loc), NS G b k n o1 a (.inl (G.2.1, N, .inl (upd f i x))) s H1 locs1 → W p l e R s m args below meth c H1 locs1 cells slots Q (F0 m (pc + 1) ls rest)) : W p l e R s m args below meth c H locs cells slots Q (F0 m pc ls (.int x :: .int (nI i) :: .ref (b + a) :: rest)) := by
  have hcl31 : (nI i).toNatClampNeg = i := nI_clamp (by omega)
  refine W.iast hexec hb (hM.at2 hka han) ((hK.2 0 _ rfl).1 N (fun j => .int (f j))) (fun q => by cases q) (by show ¬ (_ < 0 ∨ (arrV _ _ _).slots.size ≤ _); rw [arrV_size]; exact vp_in_nI hi hN) rfl rfl hdg fun H1 e z oq => ?_
  refine kk H1 _ (hM.up2 hka ?_ z oq)
  show H1[b + a]? = some (vp_cell _ _)
  rw [e, hcl31]
  rw [vp_cell_i, vp_cell_i, arrV_store]
  congr 2
  funext q
  by_cases hq : q = i
  · subst hq
    simp [updV, upd]
  · simp [updV, upd, hq]
end NSS

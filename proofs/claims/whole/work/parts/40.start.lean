/-! THE LAW: what holds at its start, and its rows -/
def A0 : Rec := ((2, 5, 2, (-1)), (0, (fun _ => 0), (fun _ => 0)), (0, (fun _ => 0), (fun _ => 0)))
def w0 : World := (A0, 0, (fun _ => A0), (fun _ => A0), (fun _ => false))
theorem ROk_0 : ROk A0 := ⟨⟨⟨by decide, by decide⟩, ⟨by decide, by decide⟩, ⟨by decide, by decide⟩⟩, ⟨by decide, by decide⟩, fun k hk => absurd hk (Nat.not_lt_zero _), fun k hk => absurd hk (Nat.not_lt_zero _), Or.inl rfl⟩
theorem CM_0 : CM sz0 1 A0 := ⟨⟨(sz_2 kc_2).1, (sz_2 kc_2).2.1, (sz_2 kc_2).2.2, ⟨by decide, by decide⟩, by decide, by decide⟩, sz_1 kc_1, by rw [sz_k kc_3 (by decide) (by decide) (by decide)]; rfl, fun k hk => absurd hk (Nat.not_lt_zero _), by rw [sz_k kc_8 (by decide) (by decide) (by decide)]; rfl, fun k hk => absurd hk (Nat.not_lt_zero _)⟩
theorem IC_0 : ICw sz0 w0 := ⟨ROk_0, CM_0, ⟨0, ⟨by rw [sz_k kc_11 (by decide) (by decide) (by decide)]; rfl, by decide⟩, ⟨by rw [sz_k kc_11 (by decide) (by decide) (by decide)]; rfl, by decide⟩, fun j hj => absurd hj (Nat.not_lt_zero _)⟩, fun i _ => ⟨by rw [sz_k kc_114 (by decide) (by decide) (by decide)]; rfl, fun h => absurd (show false = true from h) (by decide)⟩⟩
theorem IR_0 : IRw sz0 w0 := ⟨ROk_0, by rw [← sz_19 kc_132]; exact ⟨⟨rfl, rfl, rfl, rfl, rfl, rfl⟩, fun k hk => absurd hk (Nat.not_lt_zero _), fun k hk => absurd hk (Nat.not_lt_zero _)⟩, ⟨by rw [sz_k kc_131 (by decide) (by decide) (by decide)]; rfl, by decide⟩, fun j hj => absurd hj (Nat.not_lt_zero _), fun i _ => ⟨by rw [sz_k kc_135 (by decide) (by decide) (by decide)]; rfl, fun h => absurd (show false = true from h) (by decide)⟩⟩
theorem IRw.keepC {σ σ' : Mem} {w : World} (h : IRw σ w) (e : ∀ k, 131 ≤ k → σ' k = σ k) : IRw σ' w := by
  obtain ⟨h1, h2, h3, h4, h5⟩ := h
  have e0 := e 131 (by decide)
  have e1 := e 132 (by decide)
  have e2 := e 133 (by decide)
  have e3 := e 134 (by decide)
  have e4 := e 135 (by decide)
  exact ⟨h1, by rw [e1]; exact h2, by rw [e0]; exact h3, by rw [e2]; exact h4, by rw [e3, e4]; exact h5⟩
theorem ICw.keepR {σ σ' : Mem} {w : World} (h : ICw σ w) (e : ∀ k, k < 131 → σ' k = σ k) : ICw σ' w := IC.keep h (fun k hk => e k (by omega))
theorem law_in {L k : Nat} (hL : L ≤ 2048) (hk : k ≤ L) (hk4 : L < 4 → k = 0) (h : ¬ nI L - nI 4 < nI k) : k + 4 ≤ L := by
  by_cases h4 : 4 ≤ L
  · rw [pk_sub h4, nI_ltI (by omega) (by omega)] at h
    omega
  · exfalso
    have h0 := hk4 (by omega)
    subst h0
    have hc : L = 0 ∨ L = 1 ∨ L = 2 ∨ L = 3 := by omega
    rcases hc with rfl | rfl | rfl | rfl <;> exact h (by decide)
section LAW
variable {p : Program} {l : Launch} {e : Env} {R : Room} {s : State} {m : MethodId} {args : Array Value} {below : List Frame} {meth : Method} {c : Code} {H : Heap} {locs : List Loc} {cells slots : Nat} {Q : State → Prop}
variable {cc : ByteArray} {pc : Nat} {ls : Array Slot} {rest : List Value} {G : GT} {b k : Nat} {σ : Mem} {own : String}
theorem lw_ld {sa L : Nat} {xs : Nat → Int32} (hexec : p.tables.exec = Jvm.exec) (hb : c.code = cc) (hX : va_X sa L xs s s.heap) (hsl : sa < s.heap.size) (hbs : s.heap.size = b) (hS : va_S (Fb b) s.heap H locs) {k : Nat} (hk : k < L) (hL : L ≤ 2048) (hdg : decode cc pc = .ok (.iaload, 1))
    (kk : W p l e R s m args below meth c H locs cells slots Q (F0 m (pc + 1) ls (.int (xs k) :: rest))) : W p l e R s m args below meth c H locs cells slots Q (F0 m pc ls (.int (nI k) :: .ref sa :: rest)) := by
  refine va_sld hexec hb hX hsl (fun h => absurd (show b ≤ sa from h) (by omega)) hS (vp_in_nI hk (by omega)) hdg ?_
  rw [nI_clamp (by omega)]
  exact kk
theorem lw_len {sa L : Nat} {xs : Nat → Int32} (hexec : p.tables.exec = Jvm.exec) (hb : c.code = cc) (hX : va_X sa L xs s s.heap) (hsl : sa < s.heap.size) (hbs : s.heap.size = b) (hS : va_S (Fb b) s.heap H locs) (hdg : decode cc pc = .ok (.arraylength, 1))
    (kk : W p l e R s m args below meth c H locs cells slots Q (F0 m (pc + 1) ls (.int (nI L) :: rest))) : W p l e R s m args below meth c H locs cells slots Q (F0 m pc ls (.ref sa :: rest)) :=
  va_slen hexec hb hX hsl (fun h => absurd (show b ≤ sa from h) (by omega)) hS hdg kk
/-- the law's own objects: new, dup, invokespecial -/
theorem lw_make {n : Nat} (hexec : p.tables.exec = Jvm.exec) (hb : c.code = cc) (hts : ∀ w ∈ TB, w.before args s = true) (hown : s.vm.findClass own = some m.cls) (hK : va_K G.1 vwCl (gtys G) s) (hz : H.size = b + n) (hS : va_S (Fb b) s.heap H locs) {C : String} {T : u_T} {N ci index n' mc ms : Nat} {fs : List Value} (hc : vwCl[ci]? = some (C, T, N)) (hin : ∀ w ∈ u_ws C T N, w ∈ TB) (ty : Nat → FieldType) (hty : ∀ k, k < N → parseFieldDescriptor (T k).2.2.1 = some (ty k)) (hcl : Cond.classLink own index C ∈ TB) (hinst : Cond.instantiable C N ∈ TB) (hini : Cond.initialized C ∈ TB) (hfs : ∀ j, j < N → defaultValue (ty j) = vp_V fs j) (hcells : cells + 1 ≤ R.cells) (hslots : slots + N ≤ R.slots) (hd0 : decode cc pc = .ok (.new index, 3)) (hd1 : decode cc (pc + 3) = .ok (.dup, 1))
    (hrun : ∀ (H1 : Heap) (locs1 : List Loc), H1.size = b + (n + 1) → va_at G.1 vwCl (b + n, .inr (ci, fs)) H1 → va_Run p l e R s m args below meth c H1 locs1 (cells + 1) (slots + N) mc ms (F0 m (pc + 3 + 1) ls (.ref (b + n) :: .ref (b + n) :: rest)) (.ref (b + n) :: rest) (va_Qv (fun _ : Unit => True) (fun _ t => NQ G b n n' t) (Fb (b + n)) ([Value.ref (b + n)] : List Value).toArray) (Fb (b + n)))
    (kk : ∀ (H1 : Heap) (locs1 : List Loc), H1.size = b + n' → (∀ j, n ≤ j → j < n' → va_at G.1 vwCl (b + j, shr G b j (sz0 j)) H1) → (∀ q : Nat, q < b + n → H1[q]? = H[q]?) → va_S (Fb b) s.heap H1 locs1 → W p l e R s m args below meth c H1 locs1 (cells + 1 + mc) (slots + N + ms) Q (F0 m (pc + 3 + 1 + 3) ls (.ref (b + n) :: rest))) : W p l e R s m args below meth c H locs cells slots Q (F0 m pc ls rest) := by
  have hKn := hK.1 ci _ hc
  refine W.newcK hexec hb hown (hts _ hcl) (hts _ hinst) (hts _ hini) rfl hd0 hcells hslots hKn.2.1 hz fun H1 kC hkC e1 z1 q1 => ?_
  refine W.eq (g2 := F0 m (pc + 3) ls (.ref (b + n) :: rest)) rfl ?_
  refine lv_dup hexec hb hd1 rfl ?_
  have hat : va_at G.1 vwCl (b + n, .inr (ci, fs)) H1 := ⟨_, hc, (u_born ty hts hin hKn hkC e1 hty).to hfs⟩
  have hz1 : H1.size = b + (n + 1) := by rw [z1, Nat.add_assoc]
  have hS1 : va_S (Fb b) s.heap H1 locs := ⟨by have := hS.1; omega, fun x hx1 hx2 => (q1 x (by have := hS.1; omega)).trans (hS.2.1 x hx1 hx2), hS.2.2⟩
  refine va_callv (hrun H1 locs hz1 hat) hS1 (fun q _ h => Nat.le_trans (show b ≤ b + n by omega) h) (fun q h => Nat.le_trans (show b ≤ b + n by omega) h) (fun u t H2 locs2 ht _ _ hB hz2 hk2 hS2 => ?_)
  refine kk H2 locs2 (by rw [← ht]; exact hB.1) (fun j h1 h2 => by rw [← ht]; exact hB.2 j h1 h2) (fun q hq => ?_) hS2
  rw [hk2 q (by omega) (fun h => absurd (show b + n ≤ q from h) (by omega)), q1 q hq]
/-- what the law's walk rests on -/
def LA (p : Program) (s : State) (m : MethodId) (args : Array Value) (c : Code) (G : GT) (sa b L : Nat) (xs : Nat → Int32) : Prop := p.tables.exec = Jvm.exec ∧ c.code = cL_law ∧ c.maxLocals = 4 ∧ s.vm.findClass RL = some m.cls ∧ (∀ w ∈ TB, w.before args s = true) ∧ va_K G.1 vwCl (gtys G) s ∧ va_X sa L xs s s.heap ∧ sa < s.heap.size ∧ s.heap.size = b ∧ L ≤ 2048
end LAW

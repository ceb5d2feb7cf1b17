/-! THE MEMORY. All cells of the class and of the reference are made once, by the two constructors, one behind the other from the address b on; no reference ever changes. So a state is a function: cell, place, number. -/
abbrev Mem : Type := Nat → Nat → Int32
def m2 (σ : Mem) (k i : Nat) (v : Int32) : Mem := fun k' => if k' = k then upd (σ k) i v else σ k'
/-- tables' numbers: classes and slots; the classes of int[], boolean[], Moment[] -/
abbrev GT : Type := va_G × ClassId × ClassId × ClassId
def kdM : List Nat := [1, 2, 3, 4, 4, 4, 4, 5, 4, 4]
def kdL : List Nat := [0] ++ kdM ++ [6, 7] ++ kdM ++ kdM ++ kdM ++ kdM ++ kdM ++ kdM ++ kdM ++ kdM ++ [8] ++ kdM ++ kdM ++ [9, 24, 10, 3, 4, 4, 4, 4, 11, 11, 12, 13, 14, 15, 15, 16, 17, 18, 19, 20, 21, 9, 12, 4, 4, 4, 15, 15, 22, 23]
/-- the kind of a cell -/
def kd (k : Nat) : Nat := kdL.getD k 99
theorem kd_lt {k n : Nat} (h : kd k = n) (hn : n ≠ 99) : k < 144 := by
  rcases Nat.lt_or_ge k 144 with q | q
  · exact q
  · exfalso
    apply hn
    rw [← h]
    unfold kd
    rw [List.getD_eq_getElem?_getD, List.getElem?_eq_none (by exact q)]
    rfl
def shr (G : GT) (b k : Nat) (f : Nat → Int32) : va_E := match kd k with
  | 0 => .inr (9, [.ref (b + 1), .ref (b + 11), .ref (b + 93), .ref (b + 114), .ref (b + 115), .ref (b + 116), .ref (b + 125), .ref (b + 129)])
  | 1 => .inr (2, [.ref (b + (k + 1)), .ref (b + (k + 2)), .ref (b + (k + 7)), .int (f 3)])
  | 2 => .inr (0, [.int (f 0), .int (f 1), .int (f 2)])
  | 3 => .inr (6, [.int (f 0), .ref (b + (k + 1)), .ref (b + (k + 2)), .ref (b + (k + 3)), .ref (b + (k + 4))])
  | 4 => .inl (G.2.1, 24, .inl f)
  | 5 => .inr (5, [.int (f 0), .ref (b + (k + 1)), .ref (b + (k + 2))])
  | 6 => .inr (4, [.int (f 0), .int (f 1), .ref (b + 12)])
  | 7 => .inl (G.2.2.2, 8, .inr (.inr (.inr (.inr (fun j => some (b + (13 + 10 * j)))))))
  | 8 => .inl (G.2.2.2, 2, .inr (.inr (.inr (.inr (fun j => some (b + (94 + 10 * j)))))))
  | 9 => .inl (G.2.2.1, 2, .inl f)
  | 10 => .inr (7, [.ref (b + 117), .ref (b + 122), .ref (b + 123), .ref (b + 124)])
  | 11 => .inl (G.2.1, 96, .inl f)
  | 12 => .inl (G.2.1, 200, .inl f)
  | 13 => .inr (3, [.ref (b + 126), .ref (b + 127), .ref (b + 128)])
  | 14 => .inl (G.2.1, 16, .inl f)
  | 15 => .inl (G.2.1, 64, .inl f)
  | 16 => .inr (8, [.ref (b + 130), .int (f 1)])
  | 17 => .inl (G.2.1, 256, .inl f)
  | 18 => .inr (10, [.ref (b + 132), .ref (b + 133), .int (f 2), .ref (b + 134), .ref (b + 135), .ref (b + 136), .ref (b + 137), .ref (b + 138), .ref (b + 139), .ref (b + 140), .ref (b + 141), .ref (b + 142), .ref (b + 143)])
  | 19 => .inl (G.2.1, 102, .inl f)
  | 20 => .inl (G.2.1, 816, .inl f)
  | 21 => .inl (G.2.1, 204, .inl f)
  | 22 => .inl (G.2.2.1, 2048, .inl f)
  | 24 => .inr (1, [.long (f 0).toInt64])
  | _ => .inl (G.2.1, 2048, .inl f)
section SHR
variable {G : GT} {b k : Nat} {f : Nat → Int32}
theorem sh0 (h : kd k = 0) : shr G b k f = .inr (9, [.ref (b + 1), .ref (b + 11), .ref (b + 93), .ref (b + 114), .ref (b + 115), .ref (b + 116), .ref (b + 125), .ref (b + 129)]) := by unfold shr; rw [h]; rfl
theorem sh1 (h : kd k = 1) : shr G b k f = .inr (2, [.ref (b + (k + 1)), .ref (b + (k + 2)), .ref (b + (k + 7)), .int (f 3)]) := by unfold shr; rw [h]; rfl
theorem sh2 (h : kd k = 2) : shr G b k f = .inr (0, [.int (f 0), .int (f 1), .int (f 2)]) := by unfold shr; rw [h]; rfl
theorem sh3 (h : kd k = 3) : shr G b k f = .inr (6, [.int (f 0), .ref (b + (k + 1)), .ref (b + (k + 2)), .ref (b + (k + 3)), .ref (b + (k + 4))]) := by unfold shr; rw [h]; rfl
theorem sh4 (h : kd k = 4) : shr G b k f = .inl (G.2.1, 24, .inl f) := by unfold shr; rw [h]; rfl
theorem sh5 (h : kd k = 5) : shr G b k f = .inr (5, [.int (f 0), .ref (b + (k + 1)), .ref (b + (k + 2))]) := by unfold shr; rw [h]; rfl
theorem sh6 (h : kd k = 6) : shr G b k f = .inr (4, [.int (f 0), .int (f 1), .ref (b + 12)]) := by unfold shr; rw [h]; rfl
theorem sh7 (h : kd k = 7) : shr G b k f = .inl (G.2.2.2, 8, .inr (.inr (.inr (.inr (fun j => some (b + (13 + 10 * j))))))) := by unfold shr; rw [h]; rfl
theorem sh8 (h : kd k = 8) : shr G b k f = .inl (G.2.2.2, 2, .inr (.inr (.inr (.inr (fun j => some (b + (94 + 10 * j))))))) := by unfold shr; rw [h]; rfl
theorem sh9 (h : kd k = 9) : shr G b k f = .inl (G.2.2.1, 2, .inl f) := by unfold shr; rw [h]; rfl
theorem sh10 (h : kd k = 10) : shr G b k f = .inr (7, [.ref (b + 117), .ref (b + 122), .ref (b + 123), .ref (b + 124)]) := by unfold shr; rw [h]; rfl
theorem sh11 (h : kd k = 11) : shr G b k f = .inl (G.2.1, 96, .inl f) := by unfold shr; rw [h]; rfl
theorem sh12 (h : kd k = 12) : shr G b k f = .inl (G.2.1, 200, .inl f) := by unfold shr; rw [h]; rfl
theorem sh13 (h : kd k = 13) : shr G b k f = .inr (3, [.ref (b + 126), .ref (b + 127), .ref (b + 128)]) := by unfold shr; rw [h]; rfl
theorem sh14 (h : kd k = 14) : shr G b k f = .inl (G.2.1, 16, .inl f) := by unfold shr; rw [h]; rfl
theorem sh15 (h : kd k = 15) : shr G b k f = .inl (G.2.1, 64, .inl f) := by unfold shr; rw [h]; rfl
theorem sh16 (h : kd k = 16) : shr G b k f = .inr (8, [.ref (b + 130), .int (f 1)]) := by unfold shr; rw [h]; rfl
theorem sh17 (h : kd k = 17) : shr G b k f = .inl (G.2.1, 256, .inl f) := by unfold shr; rw [h]; rfl
theorem sh18 (h : kd k = 18) : shr G b k f = .inr (10, [.ref (b + 132), .ref (b + 133), .int (f 2), .ref (b + 134), .ref (b + 135), .ref (b + 136), .ref (b + 137), .ref (b + 138), .ref (b + 139), .ref (b + 140), .ref (b + 141), .ref (b + 142), .ref (b + 143)]) := by unfold shr; rw [h]; rfl
theorem sh19 (h : kd k = 19) : shr G b k f = .inl (G.2.1, 102, .inl f) := by unfold shr; rw [h]; rfl
theorem sh20 (h : kd k = 20) : shr G b k f = .inl (G.2.1, 816, .inl f) := by unfold shr; rw [h]; rfl
theorem sh21 (h : kd k = 21) : shr G b k f = .inl (G.2.1, 204, .inl f) := by unfold shr; rw [h]; rfl
theorem sh22 (h : kd k = 22) : shr G b k f = .inl (G.2.2.1, 2048, .inl f) := by unfold shr; rw [h]; rfl
theorem sh23 (h : kd k = 23) : shr G b k f = .inl (G.2.1, 2048, .inl f) := by unfold shr; rw [h]; rfl
theorem sh24 (h : kd k = 24) : shr G b k f = .inr (1, [.long (f 0).toInt64]) := by unfold shr; rw [h]; rfl
end SHR
/-- a Moment's cells lie behind it; a Row's, a Places' -/
theorem kdMo : ∀ k, k < 144 → kd k = 1 → kd (k + 1) = 2 ∧ kd (k + 2) = 3 ∧ kd (k + 7) = 5 := by decide +kernel
theorem kdRo : ∀ k, k < 144 → kd k = 3 → kd (k + 1) = 4 ∧ kd (k + 2) = 4 ∧ kd (k + 3) = 4 ∧ kd (k + 4) = 4 := by decide +kernel
theorem kdPl : ∀ k, k < 144 → kd k = 5 → kd (k + 1) = 4 ∧ kd (k + 2) = 4 := by decide +kernel
theorem kdRing : ∀ j, j < 8 → kd (13 + 10 * j) = 1 := by decide +kernel
theorem kdIma : ∀ j, j < 2 → kd (94 + 10 * j) = 1 := by decide +kernel
section KD
variable {k : Nat}
theorem kM1 (h : kd k = 1) : kd (k + 1) = 2 := (kdMo k (kd_lt h (by decide)) h).1
theorem kM2 (h : kd k = 1) : kd (k + 2) = 3 := (kdMo k (kd_lt h (by decide)) h).2.1
theorem kM7 (h : kd k = 1) : kd (k + 7) = 5 := (kdMo k (kd_lt h (by decide)) h).2.2
theorem kR1 (h : kd k = 3) : kd (k + 1) = 4 := (kdRo k (kd_lt h (by decide)) h).1
theorem kR2 (h : kd k = 3) : kd (k + 2) = 4 := (kdRo k (kd_lt h (by decide)) h).2.1
theorem kR3 (h : kd k = 3) : kd (k + 3) = 4 := (kdRo k (kd_lt h (by decide)) h).2.2.1
theorem kR4 (h : kd k = 3) : kd (k + 4) = 4 := (kdRo k (kd_lt h (by decide)) h).2.2.2
theorem kP1 (h : kd k = 5) : kd (k + 1) = 4 := (kdPl k (kd_lt h (by decide)) h).1
theorem kP2 (h : kd k = 5) : kd (k + 2) = 4 := (kdPl k (kd_lt h (by decide)) h).2
end KD
def repW (G : GT) (b : Nat) (σ : Mem) : va_W := (List.range 144).map fun k => (b + k, shr G b k (σ k))
abbrev gtys (G : GT) : List (ClassId × FieldType) := [(G.2.1, .int), (G.2.2.1, .boolean), (G.2.2.2, .object RX3)]
def Fr (b : Nat) : Nat → Prop := fun q => b ≤ q ∧ q < b + 144
def SM (G : GT) (b : Nat) (σ : Mem) (U : State) : Prop := va_P G.1 vwCl (repW G b σ) U.heap ∧ va_K G.1 vwCl (gtys G) U
def St (G : GT) (A : Nat → Prop) (b : Nat) (σ : Mem) (s : State) (H : Heap) (locs : List Loc) : Prop := va_P G.1 vwCl (repW G b σ) H ∧ va_S A s.heap H locs
theorem repW_at {G : GT} {b : Nat} {σ : Mem} {k : Nat} (hk : k < 144) : (repW G b σ)[k]? = some (b + k, shr G b k (σ k)) := by
  unfold repW
  rw [List.getElem?_map, List.getElem?_range hk]
  rfl
theorem repW_in {G : GT} {b : Nat} {σ : Mem} {k : Nat} {q : Nat × va_E} (h : (repW G b σ)[k]? = some q) : k < 144 ∧ q = (b + k, shr G b k (σ k)) := by
  have hk : k < 144 := by
    have h1 := (List.getElem?_eq_some_iff.mp h).1
    unfold repW at h1
    rw [List.length_map, List.length_range] at h1
    exact h1
  rw [repW_at hk] at h
  exact ⟨hk, (Option.some.inj h).symm⟩
theorem repW_D {G : GT} {b : Nat} {σ : Mem} {A : Nat → Prop} (hA : ∀ q, Fr b q → A q) : va_D A (repW G b σ) := by
  refine ⟨fun i j p q hi hj hpq => ?_, fun k q hk => ?_⟩
  · have h1 := (repW_in hi).2
    have h2 := (repW_in hj).2
    rw [h1, h2] at hpq
    have h3 : b + i = b + j := hpq
    omega
  · obtain ⟨h1, h2⟩ := repW_in hk
    rw [h2]
    exact hA _ ⟨Nat.le_add_right _ _, Nat.add_lt_add_left h1 _⟩
theorem repW_set {G : GT} {b : Nat} {σ σ' : Mem} {k : Nat} {e : va_E} (hk : k < 144) (he : e = shr G b k (σ' k)) (ho : ∀ j, j ≠ k → σ' j = σ j) : (repW G b σ).set k (b + k, e) = repW G b σ' := by
  apply List.ext_getElem?
  intro i
  by_cases hi : i < 144
  · by_cases hik : i = k
    · subst hik
      rw [List.getElem?_set_self (by unfold repW; rw [List.length_map, List.length_range]; exact hi), repW_at hi, he]
    · rw [List.getElem?_set_ne (Ne.symm hik), repW_at hi, repW_at hi, ho i hik]
  · rw [List.getElem?_eq_none (by unfold repW; rw [List.length_set, List.length_map, List.length_range]; omega), List.getElem?_eq_none (by unfold repW; rw [List.length_map, List.length_range]; omega)]
theorem m2_o {σ : Mem} {k i : Nat} {v : Int32} {j : Nat} (h : j ≠ k) : m2 σ k i v j = σ j := by unfold m2; rw [if_neg h]
theorem m2_s {σ : Mem} {k i : Nat} {v : Int32} : m2 σ k i v k = upd (σ k) i v := by unfold m2; rw [if_pos rfl]
theorem m2_ss {σ : Mem} {k i : Nat} {v : Int32} : m2 σ k i v k i = v := by rw [m2_s]; unfold upd; rw [if_pos rfl]
theorem m2_sn {σ : Mem} {k i : Nat} {v : Int32} {j : Nat} (h : j ≠ i) : m2 σ k i v k j = σ k j := by rw [m2_s]; unfold upd; rw [if_neg h]
theorem m2_at (σ : Mem) (k i : Nat) (v : Int32) (k' i' : Nat) : m2 σ k i v k' i' = if k' = k ∧ i' = i then v else σ k' i' := by
  by_cases h : k' = k
  · subst h
    rw [m2_s]
    unfold upd
    by_cases h2 : i' = i <;> simp [h2]
  · rw [m2_o h]
    simp [h]
/-- the room of a method from which calls go d deep -/
abbrev RM (d : Nat) : Room := { frames := d, cells := 0, slots := 0, locals := 36 * d }
section SG
variable {p : Program} {l : Launch} {e : Env} {R : Room} {s : State} {m : MethodId} {args : Array Value} {below : List Frame} {meth : Method} {c : Code} {H : Heap} {locs : List Loc} {cells slots : Nat} {Q : State → Prop}
variable {cc : ByteArray} {pc : Nat} {ls : Array Slot} {rest : List Value} {G : GT} {A : Nat → Prop} {b : Nat} {σ : Mem} {own : String} {index k : Nat}
theorem sg_get (hexec : p.tables.exec = Jvm.exec) (hb : c.code = cc) (hts : ∀ w ∈ TB, w.before args s = true) (hown : s.vm.findClass own = some m.cls) (hK : va_K G.1 vwCl (gtys G) s) (hM : St G A b σ s H locs) {ci : Nat} {C : String} {T : u_T} {N : Nat} {fs : List Value} (hsh : shr G b k (σ k) = .inr (ci, fs)) (hk : k < 144) (hc : vwCl[ci]? = some (C, T, N)) (hin : ∀ w ∈ u_ws C T N, w ∈ TB) (j : Nat) (hj : j < N) (hl : Cond.fieldLink own index (T j).1 (T j).2.1 (T j).2.2.1 ∈ TB) {v : Value} (hv : fs[j]? = some v) (hdg : decode cc pc = .ok (.getfield index, 3))
    (kk : W p l e R s m args below meth c H locs cells slots Q (F0 m (pc + 3) ls (v :: rest))) : W p l e R s m args below meth c H locs cells slots Q (F0 m pc ls (.ref (b + k) :: rest)) :=
  va_get hexec hb hts hin hown hK hM.1 k (by rw [repW_at hk, hsh]) hc j hj (hts _ hl) (fun _ h => h) hv hdg kk
theorem sg_put (hexec : p.tables.exec = Jvm.exec) (hb : c.code = cc) (hts : ∀ w ∈ TB, w.before args s = true) (hown : s.vm.findClass own = some m.cls) (hK : va_K G.1 vwCl (gtys G) s) (hM : St G A b σ s H locs) (hA : ∀ q, Fr b q → A q) {ci : Nat} {C : String} {T : u_T} {N : Nat} {fs : List Value} (hsh : shr G b k (σ k) = .inr (ci, fs)) (hk : k < 144) (hc : vwCl[ci]? = some (C, T, N)) (hin : ∀ w ∈ u_ws C T N, w ∈ TB) (ty0 : Nat → FieldType) (hty : ∀ k, k < N → parseFieldDescriptor (T k).2.2.1 = some (ty0 k)) (hnm : ∀ a, a < N → ∀ b, b < N → a ≠ b → (T a).2.1 ≠ (T b).2.1) (j : Nat) (hj : j < N) (hl : Cond.fieldLink own index (T j).1 (T j).2.1 (T j).2.2.1 ∈ TB) (hfin : (T j).2.2.2 = false) {ty : FieldType} {v : Int32} (hd : parseFieldDescriptor (T j).2.2.1 = some ty) (hn : narrow ty (.int v) = .int v) (hfit : fits ty (.int v) = true) (hlen : j < fs.length) (hset : (Sum.inr (ci, fs.set j (.int v)) : va_E) = shr G b k (upd (σ k) j v)) (hdg : decode cc pc = .ok (.putfield index, 3))
    (kk : ∀ (H1 : Heap) (locs1 : List Loc), St G A b (m2 σ k j v) s H1 locs1 → W p l e R s m args below meth c H1 locs1 cells slots Q (F0 m (pc + 3) ls rest)) : W p l e R s m args below meth c H locs cells slots Q (F0 m pc ls (.int v :: .ref (b + k) :: rest)) := by
  refine va_put hexec hb hts hin ty0 hty hnm hown hK hM.1 (repW_D hA) hM.2 k (by rw [repW_at hk, hsh]) hc j hj (hts _ hl) (fun _ h => h) hfin hd hn hfit hlen hdg (fun H1 locs1 hP _ hS => ?_)
  refine kk H1 locs1 ⟨?_, hS⟩
  rw [repW_set (σ' := m2 σ k j v) hk (by rw [hset, m2_s]) (fun j h => m2_o h)] at hP
  exact hP
/-- a field of another kind than int, held in the memory by a number of 32 bits -/
theorem sg_putJ (hexec : p.tables.exec = Jvm.exec) (hb : c.code = cc) (hts : ∀ w ∈ TB, w.before args s = true) (hown : s.vm.findClass own = some m.cls) (hK : va_K G.1 vwCl (gtys G) s) (hM : St G A b σ s H locs) (hA : ∀ q, Fr b q → A q) {ci : Nat} {C : String} {T : u_T} {N : Nat} {fs : List Value} (hsh : shr G b k (σ k) = .inr (ci, fs)) (hk : k < 144) (hc : vwCl[ci]? = some (C, T, N)) (hin : ∀ w ∈ u_ws C T N, w ∈ TB) (ty0 : Nat → FieldType) (hty : ∀ k, k < N → parseFieldDescriptor (T k).2.2.1 = some (ty0 k)) (hnm : ∀ a, a < N → ∀ b, b < N → a ≠ b → (T a).2.1 ≠ (T b).2.1) (j : Nat) (hj : j < N) (hl : Cond.fieldLink own index (T j).1 (T j).2.1 (T j).2.2.1 ∈ TB) (hfin : (T j).2.2.2 = false) {ty : FieldType} (vv : Value) (v : Int32) (hd : parseFieldDescriptor (T j).2.2.1 = some ty) (hn : narrow ty vv = vv) (hfit : fits ty vv = true) (hlen : j < fs.length) (hset : (Sum.inr (ci, fs.set j vv) : va_E) = shr G b k (upd (σ k) j v)) (hdg : decode cc pc = .ok (.putfield index, 3))
    (kk : ∀ (H1 : Heap) (locs1 : List Loc), St G A b (m2 σ k j v) s H1 locs1 → W p l e R s m args below meth c H1 locs1 cells slots Q (F0 m (pc + 3) ls rest)) : W p l e R s m args below meth c H locs cells slots Q (F0 m pc ls (vv :: .ref (b + k) :: rest)) := by
  refine va_put hexec hb hts hin ty0 hty hnm hown hK hM.1 (repW_D hA) hM.2 k (by rw [repW_at hk, hsh]) hc j hj (hts _ hl) (fun _ h => h) hfin hd hn hfit hlen hdg (fun H1 locs1 hP _ hS => ?_)
  refine kk H1 locs1 ⟨?_, hS⟩
  rw [repW_set (σ' := m2 σ k j v) hk (by rw [hset, m2_s]) (fun j h => m2_o h)] at hP
  exact hP
theorem sg_iald (hexec : p.tables.exec = Jvm.exec) (hb : c.code = cc) (hK : va_K G.1 vwCl (gtys G) s) (hM : St G A b σ s H locs) {n : Nat} (hsh : shr G b k (σ k) = .inl (G.2.1, n, .inl (σ k))) (hk : k < 144) {i : Nat} (hi : i < n) (hn : n < 2 ^ 31) (hdg : decode cc pc = .ok (.iaload, 1))
    (kk : W p l e R s m args below meth c H locs cells slots Q (F0 m (pc + 1) ls (.int (σ k i) :: rest))) : W p l e R s m args below meth c H locs cells slots Q (F0 m pc ls (.int (nI i) :: .ref (b + k) :: rest)) := by
  refine va_iald hexec hb hK hM.1 k 0 (by rw [repW_at hk, hsh]) rfl (vp_in_nI hi hn) hdg ?_
  rw [nI_clamp (Nat.lt_trans hi hn)]
  exact kk
theorem sg_iast (hexec : p.tables.exec = Jvm.exec) (hb : c.code = cc) (hK : va_K G.1 vwCl (gtys G) s) (hM : St G A b σ s H locs) (hA : ∀ q, Fr b q → A q) {n : Nat} (hsh : ∀ f, shr G b k f = .inl (G.2.1, n, .inl f)) (hk : k < 144) {i : Nat} {x : Int32} (hi : i < n) (hn : n < 2 ^ 31) (hdg : decode cc pc = .ok (.iastore, 1))
    (kk : ∀ (H1 : Heap) (locs1 : List Loc), St G A b (m2 σ k i x) s H1 locs1 → W p l e R s m args below meth c H1 locs1 cells slots Q (F0 m (pc + 1) ls rest)) : W p l e R s m args below meth c H locs cells slots Q (F0 m pc ls (.int x :: .int (nI i) :: .ref (b + k) :: rest)) := by
  refine va_iast hexec hb hK hM.1 (repW_D hA) hM.2 k 0 (by rw [repW_at hk, hsh]) rfl (vp_in_nI hi hn) hdg (fun H1 locs1 hP _ hS => ?_)
  refine kk H1 locs1 ⟨?_, hS⟩
  rw [nI_clamp (Nat.lt_trans hi hn), repW_set (σ' := m2 σ k i x) hk (by rw [hsh, m2_s]) (fun j h => m2_o h)] at hP
  exact hP
theorem sg_zald (hexec : p.tables.exec = Jvm.exec) (hb : c.code = cc) (hK : va_K G.1 vwCl (gtys G) s) (hM : St G A b σ s H locs) {n : Nat} (hsh : shr G b k (σ k) = .inl (G.2.2.1, n, .inl (σ k))) (hk : k < 144) {i : Nat} (hi : i < n) (hn : n < 2 ^ 31) (hdg : decode cc pc = .ok (.baload, 1))
    (kk : W p l e R s m args below meth c H locs cells slots Q (F0 m (pc + 1) ls (.int (σ k i) :: rest))) : W p l e R s m args below meth c H locs cells slots Q (F0 m pc ls (.int (nI i) :: .ref (b + k) :: rest)) := by
  refine va_zald hexec hb hK hM.1 k 1 (by rw [repW_at hk, hsh]) rfl (vp_in_nI hi hn) hdg ?_
  rw [nI_clamp (Nat.lt_trans hi hn)]
  exact kk
theorem sg_zast (hexec : p.tables.exec = Jvm.exec) (hb : c.code = cc) (hK : va_K G.1 vwCl (gtys G) s) (hM : St G A b σ s H locs) (hA : ∀ q, Fr b q → A q) {n : Nat} (hsh : ∀ f, shr G b k f = .inl (G.2.2.1, n, .inl f)) (hk : k < 144) {i : Nat} {x : Int32} (hx : vp_nar .boolean x = x) (hi : i < n) (hn : n < 2 ^ 31) (hdg : decode cc pc = .ok (.bastore, 1))
    (kk : ∀ (H1 : Heap) (locs1 : List Loc), St G A b (m2 σ k i x) s H1 locs1 → W p l e R s m args below meth c H1 locs1 cells slots Q (F0 m (pc + 1) ls rest)) : W p l e R s m args below meth c H locs cells slots Q (F0 m pc ls (.int x :: .int (nI i) :: .ref (b + k) :: rest)) := by
  refine va_zast hexec hb hK hM.1 (repW_D hA) hM.2 k 1 (by rw [repW_at hk, hsh]) rfl (vp_in_nI hi hn) hdg (fun H1 locs1 hP _ hS => ?_)
  refine kk H1 locs1 ⟨?_, hS⟩
  rw [hx, nI_clamp (Nat.lt_trans hi hn), repW_set (σ' := m2 σ k i x) hk (by rw [hsh, m2_s]) (fun j h => m2_o h)] at hP
  exact hP
theorem sg_alen (hexec : p.tables.exec = Jvm.exec) (hb : c.code = cc) (hK : va_K G.1 vwCl (gtys G) s) (hM : St G A b σ s H locs) {n : Nat} (hsh : shr G b k (σ k) = .inl (G.2.1, n, .inl (σ k))) (hk : k < 144) (hdg : decode cc pc = .ok (.arraylength, 1))
    (kk : W p l e R s m args below meth c H locs cells slots Q (F0 m (pc + 1) ls (.int (nI n) :: rest))) : W p l e R s m args below meth c H locs cells slots Q (F0 m pc ls (.ref (b + k) :: rest)) :=
  va_alen (x := (n, .inl (σ k))) hexec hb hK hM.1 k 0 (by rw [repW_at hk, hsh]) rfl rfl hdg kk
theorem sg_aald (hexec : p.tables.exec = Jvm.exec) (hb : c.code = cc) (hK : va_K G.1 vwCl (gtys G) s) (hM : St G A b σ s H locs) {n : Nat} {g : Nat → Nat} (hsh : shr G b k (σ k) = .inl (G.2.2.2, n, .inr (.inr (.inr (.inr (fun j => some (b + g j))))))) (hk : k < 144) {i : Nat} (hi : i < n) (hn : n < 2 ^ 31) (hdg : decode cc pc = .ok (.aaload, 1))
    (kk : W p l e R s m args below meth c H locs cells slots Q (F0 m (pc + 1) ls (.ref (b + g i) :: rest))) : W p l e R s m args below meth c H locs cells slots Q (F0 m pc ls (.int (nI i) :: .ref (b + k) :: rest)) := by
  refine va_aldq hexec hb hK hM.1 k 2 (C := RX3) (by rw [repW_at hk, hsh]) rfl (vp_in_nI hi hn) hdg ?_
  rw [nI_clamp (Nat.lt_trans hi hn)]
  exact kk
/-- what arraycopy of the first n makes of the memory -/
def mcp (σ : Mem) (ks kt n : Nat) : Mem := fun k' => if k' = kt then va_cpy (σ ks) (σ kt) 0 0 n else σ k'
theorem sg_copy (hexec : p.tables.exec = Jvm.exec) (hb : c.code = cc) (hml : c.maxLocals = ls.size) (hts : ∀ w ∈ TB, w.before args s = true) (hown : s.vm.findClass own = some m.cls) (hK : va_K G.1 vwCl (gtys G) s) (hM : St G A b σ s H locs) (hA : ∀ q, Fr b q → A q) (hl : Cond.methodLink own index arraycopyName ∈ TB) {ks kt n0 n1 n : Nat} (hs0 : shr G b ks (σ ks) = .inl (G.2.1, n0, .inl (σ ks))) (hs1 : ∀ f, shr G b kt f = .inl (G.2.1, n1, .inl f)) (h0 : ks < 144) (h1 : kt < 144) (hn0 : n ≤ n0) (hn1 : n ≤ n1) (hn : n < 2 ^ 31) (hframes : 1 ≤ R.frames) (hlocals : (rest.map fun v => v.category).sum + (nativeFrameWords "java/lang/System" "arraycopy" 5 + 11) ≤ R.locals) (hdg : decode cc pc = .ok (.invokestatic index, 3))
    (kk : ∀ (H1 : Heap) (locs1 : List Loc), St G A b (mcp σ ks kt n) s H1 locs1 → W p l e R s m args below meth c H1 locs1 cells slots Q (F0 m (pc + 3) ls rest)) : W p l e R s m args below meth c H locs cells slots Q (F0 m pc ls (.int (nI n) :: .int (nI 0) :: .ref (b + kt) :: .int (nI 0) :: .ref (b + ks) :: rest)) := by
  have z : (nI 0).toNatClampNeg = 0 := nI_clamp (by decide)
  refine va_copyi hexec hb hml hown (hts _ hl) (hts _ wn_arraycopyName) (hts _ ws_arraycopyName) (hts _ wi_RJ10) hK hM.1 (repW_D hA) hM.2 ks kt 0 0 (ty := .int) (by rw [repW_at h0, hs0]) (by rw [repW_at h1, hs1]) rfl rfl rfl (nI_pos (by decide)) (nI_pos (by decide)) (nI_pos hn) (by rw [z, nI_clamp hn]; omega) (by rw [z, nI_clamp hn]; omega) (fun i _ => rfl) hframes hlocals hdg (fun H1 locs1 hP _ hS => ?_)
  refine kk H1 locs1 ⟨?_, hS⟩
  rw [z, nI_clamp hn, repW_set (σ' := mcp σ ks kt n) h1 (by rw [hs1]; unfold mcp; rw [if_pos rfl]) (fun j h => by unfold mcp; rw [if_neg h])] at hP
  exact hP
theorem sg_blind {av : List Value} : FrameBlind (va_Pc av (SM G b σ)) := fun _ U _ _ q => ⟨q.1, q.2.1, va_K.moved (u := U) (Vm.Alike.refl U.vm) q.2.2⟩
theorem sg_cb {y : MethodName} {bytes : ByteArray} {maxL n d : Nat} {ret : Option FieldType} (hts : ∀ w ∈ TB, w.before args s = true) (hmi : MI y bytes maxL ret n) (hl : Cond.methodLink own index y ∈ TB) (hR : d + 1 ≤ R.frames ∧ 8 + (maxL + 11) + 36 * d ≤ R.locals) : CallB R s args own index y bytes maxL ret (Cond.code y bytes maxL ret :: TB) (RM d) 0 0 n :=
  callB_of n hts (tb_good hmi.1) rfl rfl rfl (hts _ hmi.2.1) (hts _ hl) hmi.2.2 hR
section CALLS
variable {y : MethodName} {bytes : ByteArray} {maxL nL n d : Nat} {ret : Option FieldType} {Qc : Array Value → State → Outcome → State → Prop} {As : List Value}
theorem sg_runV (hexec : p.tables.exec = Jvm.exec) (hb : c.code = cc) (hml : c.maxLocals = nL) (hts : ∀ w ∈ TB, w.before args s = true) (hown : s.vm.findClass own = some m.cls) (hK : va_K G.1 vwCl (gtys G) s) (hM : St G A b σ s H locs) (hmet : Met l y (Cond.code y bytes maxL ret :: TB) (RM d) (va_Pc (.ref (b + k) :: As) (SM G b σ)) Qc 0 0 (Fr b)) (hmi : MV y bytes maxL ret n) (hl : Cond.methodLink own index y ∈ TB) {ci : Nat} {q : vw_C} {fs : List Value} (hsh : shr G b k (σ k) = .inr (ci, fs)) (hk : k < 144) (hc : vwCl[ci]? = some q) (hq : q.1 = y.cls) (hn : As.length = n) (hsz : ls.size = nL) {st0 : List Value} (hst : st0 = As.reverse ++ .ref (b + k) :: rest) (hW : (rest.map fun v => v.category).sum ≤ 8) (hdg : decode cc pc = .ok (.invokevirtual index, 3)) (hR : d + 1 ≤ R.frames ∧ 8 + (maxL + 11) + 36 * d ≤ R.locals) (hf : cells ≤ R.cells ∧ slots ≤ R.slots) :
    va_Run p l e R s m args below meth c H locs cells slots 0 0 (F0 m pc ls st0) rest (Qc (Value.ref (b + k) :: As).toArray) (Fr b) :=
  va_runV (C := y.cls) (As := As) ⟨hexec, hb, hml, hown, hts⟩ hmet ⟨sg_cb hts hmi.1 hl hR, hts _ hmi.2.1, hts _ hmi.2.2⟩ ⟨sg_blind, by rw [← hq]; exact va_recv hK hM.1 hc (by rw [repW_at hk, hsh]), fun U hU hW => ⟨rfl, by rw [hU]; exact hM.1, va_K.moved hW.alike hK⟩⟩ rfl hn hsz hst (lv_room hW) hdg hf
theorem sg_runS (hexec : p.tables.exec = Jvm.exec) (hb : c.code = cc) (hml : c.maxLocals = nL) (hts : ∀ w ∈ TB, w.before args s = true) (hown : s.vm.findClass own = some m.cls) (hK : va_K G.1 vwCl (gtys G) s) (hM : St G A b σ s H locs) (hmet : Met l y (Cond.code y bytes maxL ret :: TB) (RM d) (va_Pc As (SM G b σ)) Qc 0 0 (Fr b)) (hmi : MS y bytes maxL ret n) (hl : Cond.methodLink own index y ∈ TB) (hn : As.length = n) (hsz : ls.size = nL) {st0 : List Value} (hst : st0 = As.reverse ++ rest) (hW : (rest.map fun v => v.category).sum ≤ 8) (hdg : decode cc pc = .ok (.invokestatic index, 3)) (hR : d + 1 ≤ R.frames ∧ 8 + (maxL + 11) + 36 * d ≤ R.locals) (hf : cells ≤ R.cells ∧ slots ≤ R.slots) :
    va_Run p l e R s m args below meth c H locs cells slots 0 0 (F0 m pc ls st0) rest (Qc As.toArray) (Fr b) :=
  va_runS (As := As) ⟨hexec, hb, hml, hown, hts⟩ hmet ⟨sg_cb hts hmi.1 hl hR, hts _ hmi.2⟩ ⟨sg_blind, fun U hU hW => ⟨rfl, by rw [hU]; exact hM.1, va_K.moved hW.alike hK⟩⟩ rfl hn hsz hst (lv_room hW) hdg hf
theorem sg_ci {post : Int32 → Mem → Prop} {a : Array Value} {st0 : List Value} (hr : va_Run p l e R s m args below meth c H locs cells slots 0 0 (F0 m pc ls st0) rest (va_Qi post (fun σ' t => SM G b σ' t) (Fr b) a) (Fr b)) (hM : St G A b σ s H locs) (hA : ∀ q, Fr b q → A q)
    (kk : ∀ (r : Int32) (σ' : Mem) (H1 : Heap) (locs1 : List Loc), post r σ' → St G A b σ' s H1 locs1 → W p l e R s m args below meth c H1 locs1 cells slots Q (F0 m (pc + 3) ls (.int r :: rest))) : W p l e R s m args below meth c H locs cells slots Q (F0 m pc ls st0) :=
  va_calli hr hM.2 (fun q _ h => hA q h) hA (fun r u t H1 locs1 ht _ hp hB _ _ hS => kk r u H1 locs1 hp ⟨by rw [← ht]; exact hB.1, hS⟩)
theorem sg_cv {post : Mem → Prop} {a : Array Value} {st0 : List Value} (hr : va_Run p l e R s m args below meth c H locs cells slots 0 0 (F0 m pc ls st0) rest (va_Qv post (fun σ' t => SM G b σ' t) (Fr b) a) (Fr b)) (hM : St G A b σ s H locs) (hA : ∀ q, Fr b q → A q)
    (kk : ∀ (σ' : Mem) (H1 : Heap) (locs1 : List Loc), post σ' → St G A b σ' s H1 locs1 → W p l e R s m args below meth c H1 locs1 cells slots Q (F0 m (pc + 3) ls rest)) : W p l e R s m args below meth c H locs cells slots Q (F0 m pc ls st0) :=
  va_callv hr hM.2 (fun q _ h => hA q h) hA (fun u t H1 locs1 ht _ hp hB _ _ hS => kk u H1 locs1 hp ⟨by rw [← ht]; exact hB.1, hS⟩)
theorem sg_cl {post : Int64 → Mem → Prop} {a : Array Value} {st0 : List Value} (hr : va_Run p l e R s m args below meth c H locs cells slots 0 0 (F0 m pc ls st0) rest (va_Ql post (fun σ' t => SM G b σ' t) (Fr b) a) (Fr b)) (hM : St G A b σ s H locs) (hA : ∀ q, Fr b q → A q)
    (kk : ∀ (r : Int64) (σ' : Mem) (H1 : Heap) (locs1 : List Loc), post r σ' → St G A b σ' s H1 locs1 → W p l e R s m args below meth c H1 locs1 cells slots Q (F0 m (pc + 3) ls (.long r :: rest))) : W p l e R s m args below meth c H locs cells slots Q (F0 m pc ls st0) :=
  va_calll hr hM.2 (fun q _ h => hA q h) hA (fun r u t H1 locs1 ht _ hp hB _ _ hS => kk r u H1 locs1 hp ⟨by rw [← ht]; exact hB.1, hS⟩)
/-- a contract by a walk -/
theorem sg_met (av : List Value) (hy : plainName y.cls = true) (hlen : (lg_sl av).length ≤ maxL)
    (body : ∀ (p : Program) (e : Env) (s : State) (m : MethodId) (below : List Frame) (meth : Method) (c : Code) (ls : Array Slot), p.tables.exec = Jvm.exec → c.code = bytes → meth.sig.returnType = ret → meth.locks = false → c.maxLocals = maxL → s.vm.findClass y.cls = some m.cls → (∀ w ∈ TB, w.before av.toArray s = true) → va_K G.1 vwCl (gtys G) s → St G (Fr b) b σ s s.heap [] → lv_has ls maxL (lv_args 0 av) →
      W p l e (RM d) s m av.toArray below meth c s.heap [] 0 0 (MQ below Qc av.toArray s 0 0 (Fr b)) (F0 m 0 ls [])) : Met l y (Cond.code y bytes maxL ret :: TB) (RM d) (va_Pc av (SM G b σ)) Qc 0 0 (Fr b) := by
  refine Met.ofW (cc := bytes) (maxL := maxL) (ret := ret) hy rfl ?_
  intro p e s m args below meth c s₁ B hml hv
  obtain ⟨rfl, hP, hK⟩ := hv
  have hts := atoms_spec (ws := Cond.code y bytes maxL ret :: TB) B.pre
  have hl := lv_entry av (n := maxL) hlen
  rw [lg_entry_eq]
  exact body p e s m below meth c _ B.exec B.bytes B.returns B.notSynchronized hml (findClass_of_methodNamed B.named) (fun w h => hts w (List.mem_cons_of_mem _ h)) hK ⟨hP, va_S.rf⟩ hl
end CALLS
theorem sg_iret {post : Int32 → Mem → Prop} {r : Int32} (hexec : p.tables.exec = Jvm.exec) (hb : c.code = cc) (hr : meth.sig.returnType = some .int) (hlocks : meth.locks = false) (hK : va_K G.1 vwCl (gtys G) s) (hM : St G (Fr b) b σ s H locs) (hp : post r σ) (hdg : decode cc pc = .ok (.ireturn, 1)) : W p l e R s m args below meth c H locs 0 0 (MQ below (va_Qi post (fun σ' t => SM G b σ' t) (Fr b)) args s 0 0 (Fr b)) (F0 m pc ls [.int r]) :=
  W.iret hexec hb hr (fun t ht hW => ⟨⟨r, σ, rfl, hp, by rw [ht]; exact hM.1, va_K.moved hW.alike hK⟩, hM.2.F ht⟩) hM.2.2.2 hdg hlocks
theorem sg_zret {post : Int32 → Mem → Prop} {r : Int32} (hexec : p.tables.exec = Jvm.exec) (hb : c.code = cc) (hr : meth.sig.returnType = some .boolean) (hlocks : meth.locks = false) (hK : va_K G.1 vwCl (gtys G) s) (hM : St G (Fr b) b σ s H locs) (hz : narrow .boolean (.int r) = .int r) (hp : post r σ) (hdg : decode cc pc = .ok (.ireturn, 1)) : W p l e R s m args below meth c H locs 0 0 (MQ below (va_Qi post (fun σ' t => SM G b σ' t) (Fr b)) args s 0 0 (Fr b)) (F0 m pc ls [.int r]) :=
  W.zret hexec hb hr hz (fun t ht hW => ⟨⟨r, σ, rfl, hp, by rw [ht]; exact hM.1, va_K.moved hW.alike hK⟩, hM.2.F ht⟩) hM.2.2.2 hdg hlocks
theorem sg_lret {post : Int64 → Mem → Prop} {r : Int64} (hexec : p.tables.exec = Jvm.exec) (hb : c.code = cc) (hr : meth.sig.returnType = some .long) (hlocks : meth.locks = false) (hK : va_K G.1 vwCl (gtys G) s) (hM : St G (Fr b) b σ s H locs) (hp : post r σ) (hdg : decode cc pc = .ok (.lreturn, 1)) : W p l e R s m args below meth c H locs 0 0 (MQ below (va_Ql post (fun σ' t => SM G b σ' t) (Fr b)) args s 0 0 (Fr b)) (F0 m pc ls [.long r]) :=
  W.lret hexec hb hr (fun t ht hW => ⟨⟨r, σ, rfl, hp, by rw [ht]; exact hM.1, va_K.moved hW.alike hK⟩, hM.2.F ht⟩) hM.2.2.2 hdg hlocks
theorem sg_vret {post : Mem → Prop} (hexec : p.tables.exec = Jvm.exec) (hb : c.code = cc) (hr : meth.sig.returnType = none) (hlocks : meth.locks = false) (hK : va_K G.1 vwCl (gtys G) s) (hM : St G (Fr b) b σ s H locs) (hp : post σ) (hdg : decode cc pc = .ok (.return_, 1)) : W p l e R s m args below meth c H locs 0 0 (MQ below (va_Qv post (fun σ' t => SM G b σ' t) (Fr b)) args s 0 0 (Fr b)) (F0 m pc ls []) :=
  W.vret hexec hb hr (fun t ht hW => ⟨⟨σ, rfl, hp, by rw [ht]; exact hM.1, va_K.moved hW.alike hK⟩, hM.2.F ht⟩) hM.2.2.2 hdg hlocks
end SG

/-! THE NEAREST ROW: distances as numbers from 0 on -/
def dN (q : Nat) (x y : Int32) : Nat := (far q x y).toNatClampNeg
theorem hOK_of {x : Int32} (h : -99 ≤ x.toInt ∧ x.toInt ≤ 99) : ∃ a, a < 199 ∧ x = nI a - nI 99 := by
  refine ⟨(x.toInt + 99).toNat, by omega, ?_⟩
  apply Int32.toInt_inj.mp
  rw [pk_sub_toInt (by omega) (by omega)]
  omega
def sqN (i a : Nat) : Nat := ((nI (20 * i) - nI 30 - (nI a - nI 99)) * (nI (20 * i) - nI 30 - (nI a - nI 99))).toNatClampNeg
theorem sqN_ok : ∀ i, i < 4 → ∀ a, a < 199 → (nI (20 * i) - nI 30 - (nI a - nI 99)) * (nI (20 * i) - nI 30 - (nI a - nI 99)) = nI (sqN i a) ∧ sqN i a ≤ 20000 := by decide +kernel
theorem far_dN {q : Nat} {x y : Int32} (h : hOK x y) (hq : q < 16) : far q x y = nI (dN q x y) ∧ dN q x y ≤ 40000 := by
  obtain ⟨a, ha, rfl⟩ := hOK_of h.1
  obtain ⟨c, hc, rfl⟩ := hOK_of h.2
  have h1 := sqN_ok (q / 4) (by omega) a ha
  have h2 := sqN_ok (q % 4) (by omega) c hc
  have e : far q (nI a - nI 99) (nI c - nI 99) = nI (sqN (q / 4) a + sqN (q % 4) c) := by
    unfold far gx gy
    rw [h1.1, h2.1, nI_add]
  have e2 : dN q (nI a - nI 99) (nI c - nI 99) = sqN (q / 4) a + sqN (q % 4) c := by
    unfold dN
    rw [e, nI_clamp (by omega)]
  rw [e2]
  exact ⟨e, by omega⟩
abbrev NV : Nat := 99999999
/-- the least distance of a family's first n points, and which it is -/
def tlN (f : Nat) (x y : Int32) : Nat → Nat
  | 0 => NV
  | n + 1 => if dN (pt f n) x y < tlN f x y n then dN (pt f n) x y else tlN f x y n
def cwN (f : Nat) (x y : Int32) : Nat → Nat
  | 0 => 0
  | n + 1 => if dN (pt f n) x y < tlN f x y n then n else cwN f x y n
theorem tlN_s (f : Nat) (x y : Int32) (n : Nat) : tlN f x y (n + 1) = if dN (pt f n) x y < tlN f x y n then dN (pt f n) x y else tlN f x y n := rfl
theorem cwN_s (f : Nat) (x y : Int32) (n : Nat) : cwN f x y (n + 1) = if dN (pt f n) x y < tlN f x y n then n else cwN f x y n := rfl
theorem tlN_le (f : Nat) (x y : Int32) : ∀ n, tlN f x y n ≤ NV
  | 0 => Nat.le_refl _
  | n + 1 => by
    rw [tlN_s]
    have := tlN_le f x y n
    split <;> omega
theorem cwN_lt (f : Nat) (x y : Int32) : ∀ n, 0 < n → cwN f x y n < n
  | 0, h => absurd h (by omega)
  | n + 1, _ => by
    rw [cwN_s]
    split
    · omega
    · rcases Nat.eq_zero_or_pos n with rfl | h
      · show 0 < 1; decide
      · have := cwN_lt f x y n h; omega
def tl (f : Nat) (x y : Int32) : Nat := tlN f x y 4
def cw (f : Nat) (x y : Int32) : Nat := cwN f x y 4
theorem cw_lt (f : Nat) (x y : Int32) : cw f x y < 4 := cwN_lt f x y 4 (by decide)
theorem tl_le {f : Nat} {x y : Int32} (h : hOK x y) (hf : f < 4) : tl f x y ≤ 40000 := by
  have h1 := (far_dN h (pt_lt hf (show 0 < 4 by decide))).2
  have s : ∀ n, tlN f x y (n + 1) ≤ 40000 := by
    intro n
    induction n with
    | zero =>
      rw [tlN_s, if_pos (show dN (pt f 0) x y < tlN f x y 0 from Nat.lt_of_le_of_lt h1 (by show 40000 < NV; decide))]
      exact h1
    | succ n ih =>
      rw [tlN_s]
      split <;> omega
  exact s 3
/-- what is left and a step's toll -/
def stp (v t : Nat) : Nat := if v = NV then NV else v + t
/-- the least cost of the last j of n steps from a state -/
def dp (m g h : Nat) (tc : Nat → Nat → Nat) (n : Nat) (e : Int32) : Nat → Nat → Nat
  | 0, s => if e = (-1) ∨ e = nI s then 0 else NV
  | j + 1, s => min (stp (dp m g h tc n e j (nx m s 0)) (tc (n - 1 - j) (fam m g h s 0))) (stp (dp m g h tc n e j (nx m s 1)) (tc (n - 1 - j) (fam m g h s 1)))
theorem dp_s (m g h : Nat) (tc : Nat → Nat → Nat) (n : Nat) (e : Int32) (j s : Nat) : dp m g h tc n e (j + 1) s = min (stp (dp m g h tc n e j (nx m s 0)) (tc (n - 1 - j) (fam m g h s 0))) (stp (dp m g h tc n e j (nx m s 1)) (tc (n - 1 - j) (fam m g h s 1))) := rfl
theorem dp_b {m g h : Nat} {tc : Nat → Nat → Nat} {n : Nat} {e : Int32} (hn : n ≤ 24) (ht : ∀ k, k < n → ∀ f, f < 4 → tc k f ≤ 40000) : ∀ j, j ≤ n → ∀ s, dp m g h tc n e j s = NV ∨ dp m g h tc n e j s ≤ 40000 * j
  | 0, _, s => by
    unfold dp
    split
    · right; omega
    · left; rfl
  | j + 1, hj, s => by
    have hk : n - 1 - j < n := by omega
    have h0 := dp_b (m := m) (g := g) (h := h) (e := e) hn ht j (by omega) (nx m s 0)
    have h1 := dp_b (m := m) (g := g) (h := h) (e := e) hn ht j (by omega) (nx m s 1)
    have t0 := ht _ hk _ (fam_lt m g h s 0)
    have t1 := ht _ hk _ (fam_lt m g h s 1)
    have q0 : ∀ v t, (v = NV ∨ v ≤ 40000 * j) → t ≤ 40000 → (stp v t = NV ∨ stp v t ≤ 40000 * (j + 1)) := by
      intro v t hv ht
      unfold stp
      split
      · exact Or.inl rfl
      · right; omega
    have a := q0 _ _ h0 t0
    have b := q0 _ _ h1 t1
    show min (stp _ _) (stp _ _) = NV ∨ min (stp _ _) (stp _ _) ≤ _
    rw [Nat.min_def]
    split
    · exact a
    · exact b
theorem dp_le {m g h : Nat} {tc : Nat → Nat → Nat} {n : Nat} {e : Int32} (hn : n ≤ 24) (ht : ∀ k, k < n → ∀ f, f < 4 → tc k f ≤ 40000) {j : Nat} (hj : j ≤ n) (s : Nat) : dp m g h tc n e j s ≤ NV := by
  rcases dp_b (e := e) (m := m) (g := g) (h := h) hn ht j hj s with q | q
  · omega
  · show _ ≤ 99999999
    omega
theorem stp_le {v t : Nat} (hv : v ≤ NV) (ht : t ≤ 40000) : stp v t < 2 ^ 31 := by
  unfold stp
  have : NV = 99999999 := rfl
  split <;> omega
/-- the step that is taken at step k from a state -/
def du (m g h : Nat) (tc : Nat → Nat → Nat) (n : Nat) (e : Int32) (k s : Nat) : Nat := if stp (dp m g h tc n e (n - 1 - k) (nx m s 0)) (tc k (fam m g h s 0)) ≤ stp (dp m g h tc n e (n - 1 - k) (nx m s 1)) (tc k (fam m g h s 1)) then 0 else 1
/-- the state ahead of step k of the nearest row -/
def qS (m g h : Nat) (tc : Nat → Nat → Nat) (n : Nat) (e : Int32) : Nat → Nat
  | 0 => 0
  | k + 1 => nx m (qS m g h tc n e k) (du m g h tc n e k (qS m g h tc n e k))
def qU (m g h : Nat) (tc : Nat → Nat → Nat) (n : Nat) (e : Int32) (k : Nat) : Nat := du m g h tc n e k (qS m g h tc n e k)
def qF (m g h : Nat) (tc : Nat → Nat → Nat) (n : Nat) (e : Int32) (k : Nat) : Nat := fam m g h (qS m g h tc n e k) (qU m g h tc n e k)
theorem du_lt (m g h : Nat) (tc : Nat → Nat → Nat) (n : Nat) (e : Int32) (k s : Nat) : du m g h tc n e k s < 2 := by unfold du; split <;> decide
theorem qS_lt (m g h : Nat) (tc : Nat → Nat → Nat) (n : Nat) (e : Int32) : ∀ k, qS m g h tc n e k < 2 ^ m
  | 0 => p2_pos _
  | k + 1 => nx_lt (du_lt _ _ _ _ _ _ _ _) (qS_lt m g h tc n e k)
/-- the tolls of what was HEARD; the choices -/
def tcA (A : Rec) (k f : Nat) : Nat := tl f (rX A k) (rY A k)
def cwA (A : Rec) (k f : Nat) : Nat := cw f (rX A k) (rY A k)
theorem tcA_le {A : Rec} (h : ROk A) : ∀ k, k < rN A → ∀ f, f < 4 → tcA A k f ≤ 40000 := fun k hk _ hf => tl_le (h.2.2.2.1 k hk) hf
abbrev dA (A : Rec) (n : Nat) (e : Int32) (j s : Nat) : Nat := dp (rM A) (rG A) (rH A) (tcA A) n e j s
abbrev sA (A : Rec) (n : Nat) (e : Int32) (k : Nat) : Nat := qS (rM A) (rG A) (rH A) (tcA A) n e k
abbrev uA (A : Rec) (n : Nat) (e : Int32) (k : Nat) : Nat := qU (rM A) (rG A) (rH A) (tcA A) n e k
abbrev fA (A : Rec) (n : Nat) (e : Int32) (k : Nat) : Nat := qF (rM A) (rG A) (rH A) (tcA A) n e k
abbrev wA (A : Rec) (n : Nat) (e : Int32) (k : Nat) : Nat := cwA A k (fA A n e k)
abbrev pA (A : Rec) (n : Nat) (e : Int32) (k : Nat) : Nat := pt (fA A n e k) (wA A n e k)
theorem dA_s (A : Rec) (n : Nat) (e : Int32) (j s : Nat) : dA A n e (j + 1) s = min (stp (dA A n e j (nx (rM A) s 0)) (tcA A (n - 1 - j) (fam (rM A) (rG A) (rH A) s 0))) (stp (dA A n e j (nx (rM A) s 1)) (tcA A (n - 1 - j) (fam (rM A) (rG A) (rH A) s 1))) := rfl
theorem uA_d (A : Rec) (n : Nat) (e : Int32) (k : Nat) : uA A n e k = if stp (dA A n e (n - 1 - k) (nx (rM A) (sA A n e k) 0)) (tcA A k (fam (rM A) (rG A) (rH A) (sA A n e k) 0)) ≤ stp (dA A n e (n - 1 - k) (nx (rM A) (sA A n e k) 1)) (tcA A k (fam (rM A) (rG A) (rH A) (sA A n e k) 1)) then 0 else 1 := rfl
/-- the search's row holds the first i steps of the nearest row -/
def RowN (σ : Mem) (A : Rec) (n : Nat) (e : Int32) (i : Nat) : Prop := σ 117 0 = nI i ∧ ∀ k, k < i → σ 118 k = nI (uA A n e k) ∧ σ 119 k = nI (wA A n e k) ∧ σ 120 k = nI (pA A n e k) ∧ σ 121 k = nI (sA A n e (k + 1))
theorem q_dec1 (a : Int32) : a + Int32.ofInt (-1) = a - nI 1 := by rw [Int32.sub_eq_add_neg]; rfl
theorem q_neg {j : Nat} (hj : j < 2 ^ 30) (h : nI j - nI 1 < 0) : j = 0 := by
  rcases Nat.eq_zero_or_pos j with q | q
  · exact q
  · rw [pk_sub (show 1 ≤ j from q)] at h
    exact absurd h (nI_pos (by omega))
theorem q_nneg {j : Nat} (h : ¬ nI j - nI 1 < 0) : 1 ≤ j := by
  rcases Nat.eq_zero_or_pos j with q | q
  · subst q
    exact absurd (by decide) h
  · exact q

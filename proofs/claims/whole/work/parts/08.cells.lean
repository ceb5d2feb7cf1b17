theorem kd_ne {a b x y : Nat} (h1 : kd a = x) (h2 : kd b = y) (h : x ≠ y) : a ≠ b := fun e => h (by rw [← h1, ← h2, e])
theorem mcp_o {σ : Mem} {ks kt n j : Nat} (h : j ≠ kt) : mcp σ ks kt n j = σ j := by unfold mcp; rw [if_neg h]
theorem mcp_s {σ : Mem} {ks kt n j : Nat} (h : j < n) : mcp σ ks kt n kt j = σ ks j := by
  unfold mcp
  rw [if_pos rfl]
  show (if 0 ≤ j ∧ j < 0 + n then σ ks (0 + (j - 0)) else σ kt j) = σ ks j
  rw [if_pos ⟨Nat.zero_le _, by omega⟩, Nat.zero_add, Nat.sub_zero]
theorem CodeAt.keep {σ σ' : Mem} {cd m g h : Nat} (hc : CodeAt σ cd m g h) (e : σ' cd = σ cd) : CodeAt σ' cd m g h := by
  unfold CodeAt
  rw [e]
  exact hc
theorem CodeAt.m {σ : Mem} {cd m g h : Nat} (hc : CodeAt σ cd m g h) : m ≤ 3 := hc.2.2.2.1.2
theorem sh_ok {u m : Nat} (hu : u < 2) (hm : m ≤ 3) : u * 2 ^ m < 2 ^ 32 := by
  have := p2_le hm
  rcases (show u = 0 ∨ u = 1 by omega) with rfl | rfl <;> omega
/-- the state behind a row's steps, as it lies -/
def lastV (σ : Mem) (r n : Nat) : Int32 := if n = 0 then nI 0 else σ (r + 4) (n - 1)
/-- a part of a row's step k -/
def partV (σ : Mem) (r k : Nat) (what : Int32) : Int32 := if what = nI 0 then σ (r + 1) k else if what = nI 1 then σ (r + 2) k else if what = nI 2 then σ (r + 3) k else if what = nI 3 then σ (r + 4) k else (-1000000002)
theorem partV_out {σ : Mem} {r k : Nat} {what : Int32} (h : what.toInt < 0 ∨ ((3 : Nat) : Int) < what.toInt) : partV σ r k what = (-1000000002) := by
  unfold partV
  rw [if_neg (fun q => by rw [q] at h; revert h; decide), if_neg (fun q => by rw [q] at h; revert h; decide), if_neg (fun q => by rw [q] at h; revert h; decide), if_neg (fun q => by rw [q] at h; revert h; decide)]
/-- a step more in a row -/
def rowApp (σ : Mem) (r n u w q s : Nat) : Mem := m2 (m2 (m2 (m2 (m2 σ (r + 1) n (nI u)) (r + 2) n (nI w)) (r + 3) n (nI q)) (r + 4) n (nI s)) r 0 (nI (n + 1))
/-- a place more -/
def plApp (σ : Mem) (r n : Nat) (x y : Int32) : Mem := m2 (m2 (m2 σ (r + 1) n x) (r + 2) n y) r 0 (nI (n + 1))
def rowCp (σ : Mem) (r o n : Nat) : Mem := mcp (mcp (mcp (mcp (m2 σ r 0 (nI n)) (o + 1) (r + 1) n) (o + 2) (r + 2) n) (o + 3) (r + 3) n) (o + 4) (r + 4) n
def plCp (σ : Mem) (r o n : Nat) : Mem := mcp (mcp (m2 σ r 0 (nI n)) (o + 1) (r + 1) n) (o + 2) (r + 2) n
def codeSet (σ : Mem) (cd : Nat) (x y z : Int32) : Mem := m2 (m2 (m2 σ cd 0 x) cd 1 y) cd 2 z
def moClear (σ : Mem) (mo : Nat) : Mem := m2 (m2 σ (mo + 2) 0 (nI 0)) (mo + 7) 0 (nI 0)
def moCp (σ : Mem) (mo oo n k : Nat) (x y z e : Int32) : Mem := m2 (plCp (rowCp (codeSet σ (mo + 1) x y z) (mo + 2) (oo + 2) n) (mo + 7) (oo + 7) k) mo 3 e
/-- blocks of Moments are alike or apart -/
theorem moApart : ∀ a, a < 144 → ∀ b, b < 144 → (a + 10 ≤ b ∨ b + 10 ≤ a ∨ kd a ≠ 1 ∨ kd b ≠ 1 ∨ a = b) := by decide +kernel
theorem mo_ap {a b : Nat} (ha : kd a = 1) (hb : kd b = 1) (h : a ≠ b) : a + 10 ≤ b ∨ b + 10 ≤ a := by
  rcases moApart a (kd_lt ha (by decide)) b (kd_lt hb (by decide)) with q | q | q | q | q
  · exact Or.inl q
  · exact Or.inr q
  · exact absurd ha q
  · exact absurd hb q
  · exact absurd q h

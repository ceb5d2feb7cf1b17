/-! WHAT EACH CALL ANSWERS AND DOES -/
def inR (x lo hi : Int32) : Bool := decide (lo ≤ x ∧ x ≤ hi)
theorem inR_t {x lo hi : Int32} (h1 : ¬ x < lo) (h2 : x ≤ hi) : inR x lo hi = true := decide_eq_true ⟨Int32.not_lt.mp h1, h2⟩
theorem inR_f1 {x lo hi : Int32} (h1 : x < lo) : inR x lo hi = false := decide_eq_false (fun q => Int32.not_lt.mpr q.1 h1)
theorem inR_f2 {x lo hi : Int32} (h1 : ¬ x ≤ hi) : inR x lo hi = false := decide_eq_false (fun q => h1 q.2)
theorem inR_nat {x : Int32} {k : Nat} (hk : k < 2 ^ 31) (h : inR x (nI 0) (nI k) = true) : ∃ u, u ≤ k ∧ x = nI u := by
  have q := of_decide_eq_true h
  refine nI_of2 (M := nI k) (nI_toInt hk) (fun z => ?_) q.2
  exact Int32.not_lt.mpr q.1 z
theorem inR_nat1 {x : Int32} {k : Nat} (hk : k < 2 ^ 31) (h : inR x (nI 1) (nI k) = true) : ∃ u, 1 ≤ u ∧ u ≤ k ∧ x = nI u := by
  have q := of_decide_eq_true h
  obtain ⟨u, hu, e⟩ := nI_of2 (x := x) (M := nI k) (nI_toInt hk) (fun z => absurd (Int32.lt_of_le_of_lt q.1 z) (by decide)) q.2
  refine ⟨u, ?_, hu, e⟩
  have q1 := q.1
  rw [e] at q1
  exact (nI_leI (by decide) (by omega)).mp q1
theorem inR_n {a lo hi : Nat} (ha : a < 2 ^ 31) (hl : lo < 2 ^ 31) (hh : hi < 2 ^ 31) : inR (nI a) (nI lo) (nI hi) = decide (lo ≤ a ∧ a ≤ hi) := by
  unfold inR
  rw [decide_eq_decide, nI_leI hl ha, nI_leI ha hh]
/-- a step that there is, of n -/
def ixB (x : Int32) (n : Nat) : Bool := inR x (nI 0) (nI n - nI 1)
theorem ixB_t {x : Int32} {n : Nat} (hn : n < 2 ^ 30) (h : ixB x n = true) : ∃ k, k < n ∧ x = nI k := by
  unfold ixB at h
  rcases Nat.eq_zero_or_pos n with e | e
  · subst e
    have q := of_decide_eq_true h
    exact absurd (Int32.le_trans q.1 q.2) (by decide)
  · rw [pk_sub (show 1 ≤ n from e)] at h
    obtain ⟨u, hu, e1⟩ := inR_nat (by omega) h
    exact ⟨u, by omega, e1⟩
theorem ixB_n {k n : Nat} (hk : k < n) (hn : n < 2 ^ 30) : ixB (nI k) n = true := by
  unfold ixB
  rw [pk_sub (show 1 ≤ n by omega), inR_n (by omega) (by omega) (by omega)]
  exact decide_eq_true ⟨by omega, by omega⟩
/-- a state that there is -/
def stB (x : Int32) (m : Nat) : Bool := inR x (nI 0) (nI (2 ^ m - 1))
theorem stB_t {x : Int32} {m : Nat} (hm : m ≤ 3) (h : stB x m = true) : ∃ s, s < 2 ^ m ∧ x = nI s := by
  have h1 := p2_le hm
  have h2 := p2_pos m
  obtain ⟨u, hu, e⟩ := inR_nat (by omega) h
  exact ⟨u, by omega, e⟩
/-- one of several, by its number -/
def swp (what : Int32) (l : List Int32) (d : Int32) : Int32 := if 0 ≤ what.toInt ∧ what.toInt < l.length then l.getD what.toInt.toNat d else d
theorem swp_in {l : List Int32} {d : Int32} (j : Nat) (hj : j < l.length) (hl : l.length < 1000) : swp (nI j) l d = l.getD j d := by
  unfold swp
  rw [nI_toInt (by omega), if_pos ⟨by omega, by omega⟩]
  rfl
theorem swp_out {what : Int32} {l : List Int32} {d : Int32} {hi : Nat} (h : what.toInt < 0 ∨ (hi : Int) < what.toInt) (hl : l.length = hi + 1) : swp what l d = d := by
  unfold swp
  rw [if_neg (by omega)]
abbrev World : Type := Rec × Nat × (Nat → Rec) × (Nat → Rec) × (Nat → Bool)
def ICw (σ : Mem) (w : World) : Prop := IC σ w.1 w.2.1 w.2.2.1 w.2.2.2.1 w.2.2.2.2
/-- what is so is kept for undo(), another is so now -/
def psh (w : World) (B : Rec) : World := (B, phN w.2.1, phP w.2.1 w.2.2.1 w.1, w.2.2.2)
def cokB (x y z : Int32) : Bool := inR x (nI 1) (nI 3) && (inR y (nI 1) (nI (2 * 2 ^ x.toNatClampNeg - 1)) && inR z (nI 1) (nI (2 * 2 ^ x.toNatClampNeg - 1)))
theorem cokB_n {m : Nat} (h : 1 ≤ m ∧ m ≤ 3) (y z : Int32) : cokB (nI m) y z = (inR y (nI 1) (nI (2 * 2 ^ m - 1)) && inR z (nI 1) (nI (2 * 2 ^ m - 1))) := by
  unfold cokB
  rw [nI_clamp (by omega), inR_n (by omega) (by omega) (by omega), decide_eq_true h, Bool.true_and]
def cleared (A : Rec) : Rec := (A.1, (0, A.2.1.2), (0, A.2.2.2))
def coded (A : Rec) (m g h : Nat) : Rec := ((m, g, h, (-1)), (0, A.2.1.2), (0, A.2.2.2))
def sentR (A : Rec) (u w : Nat) : Rec := (A.1, (rS A + 1, fu (rU A) (rS A) u, fu (rW A) (rS A) w), A.2.2)
def heardR (A : Rec) (x y : Int32) : Rec := (A.1, A.2.1, (rN A + 1, upd (rX A) (rN A) x, upd (rY A) (rN A) y))
def endedR (A : Rec) (e : Int32) : Rec := ((rM A, rG A, rH A, e), A.2)
def S_code (w : World) (x y z : Int32) : Int32 × World := if cokB x y z then (nI (2 ^ x.toNatClampNeg), psh w (coded w.1 x.toNatClampNeg y.toNatClampNeg z.toNatClampNeg)) else ((-1000000002), w)
def S_send (w : World) (x y : Int32) : Int32 × World := if inR x (nI 0) (nI 1) && inR y (nI 0) (nI 3) then (if rS w.1 = 24 then ((-1000000004), w) else (nI (ptS (sentR w.1 x.toNatClampNeg y.toNatClampNeg) (rS w.1)), psh w (sentR w.1 x.toNatClampNeg y.toNatClampNeg))) else ((-1000000002), w)
def S_hear (w : World) (x y : Int32) : Int32 × World := if inR x (-99) (nI 99) && inR y (-99) (nI 99) then (if rN w.1 = 24 then ((-1000000004), w) else (nI (rN w.1 + 1), psh w (heardR w.1 x y))) else ((-1000000002), w)
/-- lots -/
def lt1 (x : Nat) : Nat := x * 16807 % 2147483647
def drR (A : Rec) (x : Nat) : Rec := heardR (sentR A (lt1 x % 2) (lt1 (lt1 x) % 4)) (gx (ptS (sentR A (lt1 x % 2) (lt1 (lt1 x) % 4)) (rS A)) + nI (lt1 (lt1 (lt1 x)) % 25) - nI 12) (gy (ptS (sentR A (lt1 x % 2) (lt1 (lt1 x) % 4)) (rS A)) + nI (lt1 (lt1 (lt1 (lt1 x))) % 25) - nI 12)
def dr : Nat → Rec → Nat → Nat × Rec
  | 0, A, _ => (0, A)
  | k + 1, A, x => if rS A < 24 ∧ rN A < 24 then ((dr k (drR A x) (lt1 (lt1 (lt1 (lt1 x))))).1 + 1, (dr k (drR A x) (lt1 (lt1 (lt1 (lt1 x))))).2) else (0, A)
def S_drift (w : World) (x y : Int32) : Int32 × World := if inR x (nI 1) (nI 24) && inR y (nI 1) (nI 999999) then (nI (dr x.toNatClampNeg w.1 y.toNatClampNeg).1, psh w (dr x.toNatClampNeg w.1 y.toNatClampNeg).2) else ((-1000000002), w)
def S_wipe (w : World) : Int32 × World := (nI (rS w.1 + rN w.1), psh w (cleared w.1))
def S_end (w : World) (x : Int32) : Int32 × World := if x = (-1) ∨ stB x (rM w.1) = true then (rE w.1, psh w (endedR w.1 x)) else ((-1000000001), w)
def S_undo (w : World) : Int32 × World := if w.2.1 = 0 then ((-1000000003), w) else (nI (w.2.1 - 1), (w.2.2.1 (w.2.1 - 1), w.2.1 - 1, w.2.2))
def uR {α : Type} (f : Nat → α) (k : Nat) (v : α) : Nat → α := fun j => if j = k then v else f j
def S_keep (w : World) (x : Int32) : Int32 × World := if inR x (nI 0) (nI 1) then (nI (rN w.1), (w.1, 0, w.2.2.1, uR w.2.2.2.1 x.toNatClampNeg w.1, uR w.2.2.2.2 x.toNatClampNeg true)) else ((-1000000001), w)
def S_goBack (w : World) (x : Int32) : Int32 × World := if inR x (nI 0) (nI 1) then (if w.2.2.2.2 x.toNatClampNeg = true then (nI (rN (w.2.2.2.1 x.toNatClampNeg)), (w.2.2.2.1 x.toNatClampNeg, 0, w.2.2)) else ((-1000000003), w)) else ((-1000000001), w)
abbrev dE (A : Rec) : Nat := dA A (rN A) (rE A) (rN A) 0
def unN (A : Rec) : Nat → Nat
  | 0 => 0
  | k + 1 => unN A k + (if ptS A k = pA A (rN A) (rE A) k then 0 else 1)
def unA (A : Rec) : Nat := if dE A < NV then unN A (min (rS A) (rN A)) else 0
def sgA' (A : Rec) : Nat := if dE A < NV ∧ rN A ≠ 0 then 2 * rN A + (rN A - 1) / 4 else 0
noncomputable def F_told (A : Rec) (n : Nat) (what : Int32) : Int32 := swp what [nI (rM A), nI (rG A), nI (rH A), nI (2 ^ rM A), nI (rS A), nI (rN A), nI (stS A (rS A)), rE A, nI (dE A), nI (unA A), nI (freeV (rM A) (rG A) (rH A)), nI 0, nI (sgA' A), nI n] (-1000000002)
def F_point (x what : Int32) : Int32 := if inR x (nI 0) (nI 15) then swp what [gx x.toNatClampNeg, gy x.toNatClampNeg, nI (gf x.toNatClampNeg), nI (grk x.toNatClampNeg), nI (tn x.toNatClampNeg)] (-1000000002) else (-1000000001)
def F_member (x y : Int32) : Int32 := if inR x (nI 0) (nI 3) then (if inR y (nI 0) (nI 3) then nI (pt x.toNatClampNeg y.toNatClampNeg) else (-1000000002)) else (-1000000001)
def F_apart (x y : Int32) : Int32 := if inR x (nI 0) (nI 3) && inR y (nI 0) (nI 3) then nI (gap x.toNatClampNeg y.toNatClampNeg) else (-1000000001)
def F_distance (x y : Int32) : Int32 := if inR x (nI 0) (nI 15) && (inR y (nI 0) (nI 15) && decide (x ≠ y)) then far x.toNatClampNeg (gx y.toNatClampNeg) (gy y.toNatClampNeg) else (-1000000001)
def F_turned (x : Int32) : Int32 := if inR x (nI 0) (nI 3) then nI (tf x.toNatClampNeg) else (-1000000001)
def F_next (A : Rec) (x y what : Int32) : Int32 := if stB x (rM A) then (if inR y (nI 0) (nI 1) then swp what [nI (fam (rM A) (rG A) (rH A) x.toNatClampNeg y.toNatClampNeg), nI (nx (rM A) x.toNatClampNeg y.toNatClampNeg)] (-1000000002) else (-1000000002)) else (-1000000001)
def F_sent (A : Rec) (x what : Int32) : Int32 := if ixB x (rS A) then swp what [nI (rU A x.toNatClampNeg), nI (rW A x.toNatClampNeg), nI (ptS A x.toNatClampNeg), nI (stS A (x.toNatClampNeg + 1))] (-1000000002) else (-1000000001)
def F_heard (A : Rec) (x what : Int32) : Int32 := if ixB x (rN A) then swp what [rX A x.toNatClampNeg, rY A x.toNatClampNeg, nI (pa (rX A x.toNatClampNeg) (rY A x.toNatClampNeg) 16)] (-1000000002) else (-1000000001)
def F_nearest (A : Rec) (x what : Int32) : Int32 := if ixB x (rN A) then (if inR what (nI 0) (nI 3) then (if dE A < NV then swp what [nI (uA A (rN A) (rE A) x.toNatClampNeg), nI (wA A (rN A) (rE A) x.toNatClampNeg), nI (pA A (rN A) (rE A) x.toNatClampNeg), nI (sA A (rN A) (rE A) (x.toNatClampNeg + 1))] (-1000000002) else (-1)) else (-1000000002)) else (-1000000001)
def F_ahead (A : Rec) (x y : Int32) : Int32 := if stB y (rM A) then (if inR x (nI 0) (nI (rN A)) then nI (dA A x.toNatClampNeg y x.toNatClampNeg 0) else (-1000000002)) else (-1000000001)
def F_decided (A : Rec) (x y : Int32) : Int32 := if ixB x (rN A) then (if inR y (nI 0) (nI 23) then (if x.toNatClampNeg + y.toNatClampNeg + 1 ≤ rN A then nI (pA A (x.toNatClampNeg + y.toNatClampNeg + 1) (-1) x.toNatClampNeg) else (-1)) else (-1000000002)) else (-1000000001)
def csN (A : Rec) : Nat → Int32
  | 0 => nI 0
  | k + 1 => csN A k + far (ptS A k) (rX A k) (rY A k)
def F_cost (A : Rec) : Int32 := csN A (min (rS A) (rN A))
def sgV (A : Rec) (i : Nat) : Nat := if i % 9 = 8 then 45 else if i % 9 % 2 = 0 then 65 + gf (pA A (rN A) (rE A) (i / 9 * 4 + i % 9 / 2)) else 48 + wA A (rN A) (rE A) (i / 9 * 4 + i % 9 / 2)
def F_sign (A : Rec) (x : Int32) : Int32 := if x < 0 then (-1000000002) else if sgA' A ≤ x.toNatClampNeg then (-1) else nI (sgV A x.toNatClampNeg)
theorem dp_none {m g h : Nat} {tc : Nat → Nat → Nat} {n : Nat} (hn : n ≤ 24) (ht : ∀ k, k < n → ∀ f, f < 4 → tc k f ≤ 40000) : ∀ j, j ≤ n → ∀ s, dp m g h tc n (-1) j s ≤ 40000 * j
  | 0, _, s => by
    unfold dp
    rw [if_pos (Or.inl rfl)]
    omega
  | j + 1, hj, s => by
    have hNV : NV = 99999999 := rfl
    have h0 := dp_none (m := m) (g := g) (h := h) hn ht j (by omega) (nx m s 0)
    have t0 := ht (n - 1 - j) (by omega) _ (fam_lt m g h s 0)
    rw [dp_s]
    refine Nat.le_trans (Nat.min_le_left _ _) ?_
    unfold stp
    rw [if_neg (by omega)]
    omega
theorem dA_none {A : Rec} (hR : ROk A) {n : Nat} (hn : n ≤ rN A) : dA A n (-1) n 0 < NV := by
  have h : dA A n (-1) n 0 ≤ 40000 * n := dp_none (m := rM A) (g := rG A) (h := rH A) (tc := tcA A) (n := n) (by have := hR.2.1.2; omega) (fun k hk f hf => tcA_le hR k (by omega) f hf) n (Nat.le_refl _) 0
  have := hR.2.1.2
  show _ < 99999999
  omega

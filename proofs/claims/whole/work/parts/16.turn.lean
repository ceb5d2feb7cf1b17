/-! TURNS ALIKE: for every code within its bounds some row, turned, is no row -/
/-- the states to which steps of a family lead from a set, by the first n of the ways -/
def foN (m g h S f : Nat) : Nat → Nat
  | 0 => 0
  | n + 1 => if S / 2 ^ (n / 2) % 2 = 1 ∧ fam m g h (n / 2) (n % 2) = f then foN m g h S f n ||| 2 ^ nx m (n / 2) (n % 2) else foN m g h S f n
def fo (m g h S f : Nat) : Nat := foN m g h S f (2 * 2 ^ m)
theorem foN_s {m g h S f s u : Nat} (hu : u < 2) : foN m g h S f (2 * s + u + 1) = if S / 2 ^ s % 2 = 1 ∧ fam m g h s u = f then foN m g h S f (2 * s + u) ||| 2 ^ nx m s u else foN m g h S f (2 * s + u) := by
  show (if S / 2 ^ ((2 * s + u) / 2) % 2 = 1 ∧ fam m g h ((2 * s + u) / 2) ((2 * s + u) % 2) = f then _ ||| 2 ^ nx m ((2 * s + u) / 2) ((2 * s + u) % 2) else _) = _
  rw [show (2 * s + u) / 2 = s by omega, show (2 * s + u) % 2 = u by omega]
theorem foN_lt {m g h S f : Nat} : ∀ n, n ≤ 2 * 2 ^ m → foN m g h S f n < 2 ^ 2 ^ m
  | 0, _ => Nat.pow_pos (by decide)
  | n + 1, hn => by
    have h1 := foN_lt (m := m) (g := g) (h := h) (S := S) (f := f) n (by omega)
    show (if _ then _ else _) < _
    split
    · refine Nat.or_lt_two_pow h1 ?_
      exact Nat.pow_lt_pow_right (by decide) (nx_lt (by omega) (by omega))
    · exact h1
theorem fo_lt (m g h S f : Nat) : fo m g h S f < 2 ^ 2 ^ m := foN_lt _ (Nat.le_refl _)
theorem pp_le {m : Nat} (hm : m ≤ 3) : 2 ^ 2 ^ m ≤ 256 := by
  have h1 := p2_le hm
  have h2 : 2 ^ 2 ^ m ≤ 2 ^ 8 := Nat.pow_le_pow_right (by decide) h1
  omega
theorem pp_pos (m : Nat) : 2 ≤ 2 ^ 2 ^ m := by
  have h1 := p2_pos m
  have h2 : 2 ^ 1 ≤ 2 ^ 2 ^ m := Nat.pow_le_pow_right (by decide) h1
  omega
/-- where the turned row can be, step by step -/
abbrev tt (m g h s S u : Nat) : Nat := fo m g h S (tf (fam m g h s u))
/-- within so many steps a row is found whose turned row stops -/
def bdB (m g h : Nat) : Nat → Nat → Nat → Bool
  | 0, s, S => tt m g h s S 0 == 0 || tt m g h s S 1 == 0
  | d + 1, s, S => tt m g h s S 0 == 0 || tt m g h s S 1 == 0 || bdB m g h d (nx m s 0) (tt m g h s S 0) || bdB m g h d (nx m s 1) (tt m g h s S 1)
def bdA (m g h : Nat) : Bool := (List.range (2 ^ m)).any fun s => bdB m g h 3 s (2 ^ 2 ^ m - 1)
theorem bd_1 : ∀ g, g < 4 → ∀ h, h < 4 → g ≠ 0 → h ≠ 0 → bdA 1 g h = true := by decide +kernel
theorem bd_2 : ∀ g, g < 8 → ∀ h, h < 8 → g ≠ 0 → h ≠ 0 → bdA 2 g h = true := by decide +kernel
theorem bd_3 : ∀ g, g < 16 → ∀ h, h < 16 → g ≠ 0 → h ≠ 0 → bdA 3 g h = true := by decide +kernel
theorem bd_ok {m g h : Nat} (hc : cOK m g h) : ∃ s, s < 2 ^ m ∧ bdB m g h 3 s (2 ^ 2 ^ m - 1) = true := by
  have q : bdA m g h = true := by
    obtain ⟨⟨h1, h2⟩, ⟨h3, h4⟩, h5, h6⟩ := hc
    rcases (show m = 1 ∨ m = 2 ∨ m = 3 by omega) with rfl | rfl | rfl
    · exact bd_1 g (by omega) h (by omega) (by omega) (by omega)
    · exact bd_2 g (by omega) h (by omega) (by omega) (by omega)
    · exact bd_3 g (by omega) h (by omega) (by omega) (by omega)
  obtain ⟨s, hs, e⟩ := List.any_eq_true.mp q
  exact ⟨s, List.mem_range.mp hs, e⟩
/-- what holds of the start and goes on from step to step can't hold of all -/
theorem bd_no {m g h : Nat} {K : Nat → Nat → Nat → Prop} (hK : ∀ d s S, K (d + 1) s S → s < 2 ^ m → ∀ u, u < 2 → tt m g h s S u ≠ 0 ∧ K d (nx m s u) (tt m g h s S u)) : ∀ d s S, K (d + 1) s S → s < 2 ^ m → bdB m g h d s S = false
  | 0, s, S, k, hs => by
    have h0 := (hK 0 s S k hs 0 (by decide)).1
    have h1 := (hK 0 s S k hs 1 (by decide)).1
    show (_ == 0 || _ == 0) = false
    simp [h0, h1]
  | d + 1, s, S, k, hs => by
    have h0 := hK _ s S k hs 0 (by decide)
    have h1 := hK _ s S k hs 1 (by decide)
    have b0 := bd_no hK d _ _ h0.2 (nx_lt (by decide) hs)
    have b1 := bd_no hK d _ _ h1.2 (nx_lt (by decide) hs)
    show (_ == 0 || _ == 0 || _ || _) = false
    simp [h0.1, h1.1, b0, b1]
theorem bd_absurd {m g h : Nat} (hc : cOK m g h) {K : Nat → Nat → Nat → Prop} (h0 : ∀ s, s < 2 ^ m → K 4 s (2 ^ 2 ^ m - 1)) (hK : ∀ d s S, K (d + 1) s S → s < 2 ^ m → ∀ u, u < 2 → tt m g h s S u ≠ 0 ∧ K d (nx m s u) (tt m g h s S u)) : False := by
  obtain ⟨s, hs, e⟩ := bd_ok hc
  rw [bd_no hK 3 s _ (h0 s hs) hs] at e
  exact absurd e (by decide)
/-- bits -/
theorem tb_iff (x s : Nat) : x / 2 ^ s % 2 = 1 ↔ x.testBit s = true := by rw [Nat.testBit_eq_decide_div_mod_eq, decide_eq_true_iff]
theorem tb_and (x : Nat) : x &&& 1 = x % 2 := Nat.and_one_is_mod x
/-- a table of sets grows -/
def Gw (rt ru : Nat → Nat) : Prop := ∀ S s, (rt S).testBit s = true → (ru S).testBit s = true
theorem Gw.rf (rt : Nat → Nat) : Gw rt rt := fun _ _ h => h
theorem Gw.tr {a b c : Nat → Nat} (h : Gw a b) (k : Gw b c) : Gw a c := fun S s q => k S s (h S s q)
/-- the array of sets, and whether it has grown -/
def Tr (σ : Mem) (rt : Nat → Nat) (gr : Bool) : Prop := (∀ i, i < 256 → σ 130 i = nI (rt i) ∧ rt i < 256) ∧ σ 129 1 = bz gr
theorem gw_fu (rt : Nat → Nat) (S s : Nat) : Gw rt (fu rt S (rt S ||| 2 ^ s)) := by
  intro S1 s1 q
  by_cases e : S1 = S
  · subst e; rw [fu_s, Nat.testBit_or, q]; rfl
  · rw [fu_n _ e]; exact q
theorem fu_bit (rt : Nat → Nat) (S s : Nat) : (fu rt S (rt S ||| 2 ^ s) S).testBit s = true := by rw [fu_s, Nat.testBit_or, Nat.testBit_two_pow_self, Bool.or_true]
/-- what carryOn has seen to of a set: the states below n, of state n the ways below v -/
def Cy (m g h S : Nat) (rt ru : Nat → Nat) (p : Nat) : Prop := ∀ s u, s < 2 ^ m → u < 2 → 2 * s + u < p → (rt S).testBit s = true → tt m g h s S u ≠ 0 ∧ (ru (tt m g h s S u)).testBit (nx m s u) = true
theorem Cy.up {m g h S p : Nat} {rt ru rv : Nat → Nat} (H : Cy m g h S rt ru p) (k : Gw ru rv) : Cy m g h S rt rv p := fun s u a b c d => ⟨(H s u a b c d).1, k _ _ (H s u a b c d).2⟩

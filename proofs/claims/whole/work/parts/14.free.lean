/-! FREE: the least sum of two rows that part and come together again, by what its paths are -/
def g0 (f o : Nat) : Nat := if f = o then 0 else gap f o
theorem g0_le {f o : Nat} (hf : f < 4) (ho : o < 4) : g0 f o ≤ 1600 := by
  unfold g0
  split
  · omega
  · exact (gap_ok f hf o ho).2
def apv (m g h a u b v : Nat) : Nat := g0 (fam m g h a u) (fam m g h b v)
theorem apv_le (m g h a u b v : Nat) : apv m g h a u b v ≤ 1600 := g0_le (fam_lt _ _ _ _ _) (fam_lt _ _ _ _ _)
def Pth (m g h : Nat) : Nat → Nat → Nat → Nat → Prop
  | 0, a, b, c => ∃ s, s < 2 ^ m ∧ a = nx m s 0 ∧ b = nx m s 1 ∧ c = apv m g h s 0 s 1
  | t + 1, a, b, c => ∃ a0 b0 c0 u v, (a0 < 2 ^ m ∧ b0 < 2 ^ m ∧ u < 2 ∧ v < 2) ∧ Pth m g h t a0 b0 c0 ∧ a = nx m a0 u ∧ b = nx m b0 v ∧ a ≠ b ∧ c = c0 + apv m g h a0 u b0 v
def Cl (m g h t c : Nat) : Prop := ∃ a0 b0 c0 u v, (a0 < 2 ^ m ∧ b0 < 2 ^ m ∧ u < 2 ∧ v < 2) ∧ Pth m g h t a0 b0 c0 ∧ nx m a0 u = nx m b0 v ∧ c = c0 + apv m g h a0 u b0 v
theorem Pth_in {m g h : Nat} : ∀ {t a b c : Nat}, Pth m g h t a b c → (a < 2 ^ m ∧ b < 2 ^ m) ∧ c ≤ 1600 * (t + 1)
  | 0, a, b, c, ⟨s, hs, ha, hb, hc⟩ => by
    rw [ha, hb, hc]
    have := apv_le m g h s 0 s 1
    exact ⟨⟨nx_lt (by decide) hs, nx_lt (by decide) hs⟩, by omega⟩
  | t + 1, a, b, c, ⟨a0, b0, c0, u, v, hx, hp, ha, hb, _, hc⟩ => by
    have h1 := (Pth_in hp).2
    have h2 := apv_le m g h a0 u b0 v
    rw [ha, hb, hc]
    exact ⟨⟨nx_lt hx.2.2.1 hx.1, nx_lt hx.2.2.2 hx.2.1⟩, by omega⟩
def FrI (m g h T r : Nat) : Prop := ((∃ f, f < 4 ∧ r = gap f f) ∨ ∃ t, t < T ∧ Cl m g h t r) ∧ (∀ f, f < 4 → r ≤ gap f f) ∧ ∀ t c, t < T → Cl m g h t c → r ≤ c
theorem FrI_one {m g h T r r' : Nat} (a : FrI m g h T r) (b : FrI m g h T r') : r = r' := by
  have q : ∀ {x y : Nat}, FrI m g h T x → FrI m g h T y → x ≤ y := by
    intro x y hx hy
    rcases hy.1 with ⟨f, hf, e⟩ | ⟨t, ht, e⟩
    · rw [e]; exact hx.2.1 f hf
    · exact hx.2.2 t y ht e
  exact Nat.le_antisymm (q a b) (q b a)
noncomputable def freeV (m g h : Nat) : Nat := @dite Nat (∃ r, FrI m g h 29 r) (Classical.propDecidable _) (fun q => q.choose) (fun _ => 0)
theorem freeV_eq {m g h r : Nat} (hr : FrI m g h 29 r) : freeV m g h = r := by
  unfold freeV
  rw [dif_pos ⟨r, hr⟩]
  exact FrI_one (Exists.choose_spec (⟨r, hr⟩ : ∃ r, FrI m g h 29 r)) hr
/-- a table of sums: each is a path's, and none is missed that could still be the least -/
def Tv (m g h t l : Nat) (tv : Nat → Nat) : Prop := (∀ a b, a < 2 ^ m → b < 2 ^ m → tv (a * 8 + b) = NV ∨ Pth m g h t a b (tv (a * 8 + b))) ∧ ∀ a b c, Pth m g h t a b c → tv (a * 8 + b) ≤ c ∨ l ≤ c
def fu (f : Nat → Nat) (k v : Nat) : Nat → Nat := fun j => if j = k then v else f j
theorem fu_s (f : Nat → Nat) (k v : Nat) : fu f k v k = v := by unfold fu; rw [if_pos rfl]
theorem fu_n (f : Nat → Nat) {k v j : Nat} (h : j ≠ k) : fu f k v j = f j := by unfold fu; rw [if_neg h]
/-- of one pair, the first p of its four ways: the least that closes, the later sums -/
def APs (m g h a b t0 p : Nat) (lv : Nat → Nat) (rv : Nat) (lw : Nat → Nat) : Prop :=
  (rv = NV ∨ ∃ u v, (u < 2 ∧ v < 2) ∧ nx m a u = nx m b v ∧ rv = t0 + apv m g h a u b v) ∧ (∀ u v, u < 2 → v < 2 → 2 * u + v < p → nx m a u = nx m b v → rv ≤ t0 + apv m g h a u b v) ∧
  (∀ i, lw i ≤ lv i ∧ (lw i = lv i ∨ ∃ u v, (u < 2 ∧ v < 2) ∧ nx m a u ≠ nx m b v ∧ i = nx m a u * 8 + nx m b v ∧ lw i = t0 + apv m g h a u b v)) ∧ ∀ u v, u < 2 → v < 2 → 2 * u + v < p → nx m a u ≠ nx m b v → lw (nx m a u * 8 + nx m b v) ≤ t0 + apv m g h a u b v
theorem APs_0 (m g h a b t0 : Nat) (lv : Nat → Nat) : APs m g h a b t0 0 lv NV lv := ⟨Or.inl rfl, fun _ _ _ _ q => absurd q (by omega), fun _ => ⟨Nat.le_refl _, Or.inl rfl⟩, fun _ _ _ _ q => absurd q (by omega)⟩
theorem uv_eq {u v u' v' : Nat} (hv : v < 2) (hv' : v' < 2) (h : 2 * u + v = 2 * u' + v') : u = u' ∧ v = v' := by omega
theorem APs_c {m g h a b t0 u v : Nat} {lv lw : Nat → Nat} {rv : Nat} (H : APs m g h a b t0 (2 * u + v) lv rv lw) (hu : u < 2) (hv : v < 2) (hc : nx m a u = nx m b v) : APs m g h a b t0 (2 * u + v + 1) lv (min rv (t0 + apv m g h a u b v)) lw := by
  obtain ⟨h1, h2, h3, h4⟩ := H
  refine ⟨?_, fun u1 v1 a1 a2 a3 a4 => ?_, h3, fun u1 v1 a1 a2 a3 a4 => ?_⟩
  · rw [Nat.min_def]
    split
    · exact h1
    · exact Or.inr ⟨u, v, ⟨hu, hv⟩, hc, rfl⟩
  · by_cases e : 2 * u1 + v1 = 2 * u + v
    · obtain ⟨rfl, rfl⟩ := uv_eq a2 hv e
      exact Nat.min_le_right _ _
    · exact Nat.le_trans (Nat.min_le_left _ _) (h2 u1 v1 a1 a2 (by omega) a4)
  · by_cases e : 2 * u1 + v1 = 2 * u + v
    · obtain ⟨rfl, rfl⟩ := uv_eq a2 hv e
      exact absurd hc a4
    · exact h4 u1 v1 a1 a2 (by omega) a4
theorem APs_n {m g h a b t0 u v : Nat} {lv lw : Nat → Nat} {rv : Nat} (H : APs m g h a b t0 (2 * u + v) lv rv lw) (hu : u < 2) (hv : v < 2) (hc : nx m a u ≠ nx m b v) : APs m g h a b t0 (2 * u + v + 1) lv rv (fu lw (nx m a u * 8 + nx m b v) (min (lw (nx m a u * 8 + nx m b v)) (t0 + apv m g h a u b v))) := by
  obtain ⟨h1, h2, h3, h4⟩ := H
  refine ⟨h1, fun u1 v1 a1 a2 a3 a4 => ?_, fun i => ?_, fun u1 v1 a1 a2 a3 a4 => ?_⟩
  · by_cases e : 2 * u1 + v1 = 2 * u + v
    · obtain ⟨rfl, rfl⟩ := uv_eq a2 hv e
      exact absurd a4 hc
    · exact h2 u1 v1 a1 a2 (by omega) a4
  · by_cases e : i = nx m a u * 8 + nx m b v
    · rw [e, fu_s]
      refine ⟨Nat.le_trans (Nat.min_le_left _ _) (h3 _).1, ?_⟩
      rw [Nat.min_def]
      split
      · exact (h3 _).2
      · exact Or.inr ⟨u, v, ⟨hu, hv⟩, hc, rfl, rfl⟩
    · rw [fu_n _ e]
      exact h3 i
  · by_cases e : nx m a u1 * 8 + nx m b v1 = nx m a u * 8 + nx m b v
    · rw [e, fu_s]
      by_cases e2 : 2 * u1 + v1 = 2 * u + v
      · obtain ⟨rfl, rfl⟩ := uv_eq a2 hv e2
        exact Nat.min_le_right _ _
      · refine Nat.le_trans (Nat.min_le_left _ _) ?_
        rw [← e]
        exact h4 u1 v1 a1 a2 (by omega) a4
    · rw [fu_n _ e]
      by_cases e2 : 2 * u1 + v1 = 2 * u + v
      · obtain ⟨rfl, rfl⟩ := uv_eq a2 hv e2
        exact absurd rfl e
      · exact h4 u1 v1 a1 a2 (by omega) a4
/-- of all pairs, those ahead of p -/
def AVs (m g h : Nat) (tv : Nat → Nat) (l0 p l : Nat) (lv : Nat → Nat) : Prop :=
  (l = l0 ∨ ∃ a b u v, (a < 2 ^ m ∧ b < 2 ^ m ∧ u < 2 ∧ v < 2) ∧ tv (a * 8 + b) < NV ∧ nx m a u = nx m b v ∧ l = tv (a * 8 + b) + apv m g h a u b v) ∧ l ≤ l0 ∧
  (∀ a b u v, (a < 2 ^ m ∧ b < 2 ^ m ∧ u < 2 ∧ v < 2) → a * 8 + b < p → nx m a u = nx m b v → l ≤ tv (a * 8 + b) + apv m g h a u b v) ∧
  (∀ i, lv i = NV ∨ ∃ a b u v, (a < 2 ^ m ∧ b < 2 ^ m ∧ u < 2 ∧ v < 2) ∧ tv (a * 8 + b) < NV ∧ nx m a u ≠ nx m b v ∧ i = nx m a u * 8 + nx m b v ∧ lv i = tv (a * 8 + b) + apv m g h a u b v) ∧
  ∀ a b u v, (a < 2 ^ m ∧ b < 2 ^ m ∧ u < 2 ∧ v < 2) → a * 8 + b < p → nx m a u ≠ nx m b v → lv (nx m a u * 8 + nx m b v) ≤ tv (a * 8 + b) + apv m g h a u b v ∨ l ≤ tv (a * 8 + b)
theorem AVs_0 (m g h : Nat) (tv : Nat → Nat) (l0 : Nat) : AVs m g h tv l0 0 l0 (fun _ => NV) := ⟨Or.inl rfl, Nat.le_refl _, fun _ _ _ _ _ q => absurd q (by omega), fun _ => Or.inl rfl, fun _ _ _ _ _ q => absurd q (by omega)⟩
theorem AVs_to {m g h : Nat} {tv : Nat → Nat} {l0 p p' l : Nat} {lv : Nat → Nat} (H : AVs m g h tv l0 p l lv) (hp : ∀ a b, a < 2 ^ m → b < 2 ^ m → a * 8 + b < p' → a * 8 + b < p) : AVs m g h tv l0 p' l lv := by
  obtain ⟨h1, h2, h3, h4, h5⟩ := H
  exact ⟨h1, h2, fun a b u v x y => h3 a b u v x (hp a b x.1 x.2.1 y), h4, fun a b u v x y => h5 a b u v x (hp a b x.1 x.2.1 y)⟩
theorem ab_eq {m a b a' b' : Nat} (hm : m ≤ 3) (hb : b < 2 ^ m) (hb' : b' < 2 ^ m) (h : a * 8 + b = a' * 8 + b') : a = a' ∧ b = b' := by
  have := p2_le hm
  omega
/-- a pair that can't be the least is passed over -/
theorem AVs_skip {m g h : Nat} {tv : Nat → Nat} {l0 a b l : Nat} {lv : Nat → Nat} (hm : m ≤ 3) (hb : b < 2 ^ m) (H : AVs m g h tv l0 (a * 8 + b) l lv) (hl : l ≤ tv (a * 8 + b)) : AVs m g h tv l0 (a * 8 + b + 1) l lv := by
  obtain ⟨h1, h2, h3, h4, h5⟩ := H
  refine ⟨h1, h2, fun a1 b1 u v x y z => ?_, h4, fun a1 b1 u v x y z => ?_⟩
  · by_cases e : a1 * 8 + b1 = a * 8 + b
    · rw [e]; omega
    · exact h3 a1 b1 u v x (by omega) z
  · by_cases e : a1 * 8 + b1 = a * 8 + b
    · rw [e]; exact Or.inr hl
    · exact h5 a1 b1 u v x (by omega) z
theorem AVs_pair {m g h : Nat} {tv : Nat → Nat} {l0 a b l : Nat} {lv lw : Nat → Nat} {rv : Nat} (hm : m ≤ 3) (ha : a < 2 ^ m) (hb : b < 2 ^ m) (H : AVs m g h tv l0 (a * 8 + b) l lv) (hl : l ≤ NV) (ht : tv (a * 8 + b) < NV) (P : APs m g h a b (tv (a * 8 + b)) 4 lv rv lw) : AVs m g h tv l0 (a * 8 + b + 1) (min l rv) lw := by
  obtain ⟨h1, h2, h3, h4, h5⟩ := H
  obtain ⟨p1, p2, p3, p4⟩ := P
  refine ⟨?_, Nat.le_trans (Nat.min_le_left _ _) h2, fun a1 b1 u v x y z => ?_, fun i => ?_, fun a1 b1 u v x y z => ?_⟩
  · rw [Nat.min_def]
    split
    · exact h1
    · rcases p1 with q | ⟨u, v, q1, q2, q3⟩
      · omega
      · exact Or.inr ⟨a, b, u, v, ⟨ha, hb, q1.1, q1.2⟩, ht, q2, q3⟩
  · by_cases e : a1 * 8 + b1 = a * 8 + b
    · obtain ⟨rfl, rfl⟩ := ab_eq hm x.2.1 hb e
      exact Nat.le_trans (Nat.min_le_right _ _) (p2 u v x.2.2.1 x.2.2.2 (by omega) z)
    · exact Nat.le_trans (Nat.min_le_left _ _) (h3 a1 b1 u v x (by omega) z)
  · rcases (p3 i).2 with q | ⟨u, v, q1, q2, q3, q4⟩
    · rw [q]; exact h4 i
    · exact Or.inr ⟨a, b, u, v, ⟨ha, hb, q1.1, q1.2⟩, ht, q2, q3, q4⟩
  · by_cases e : a1 * 8 + b1 = a * 8 + b
    · obtain ⟨rfl, rfl⟩ := ab_eq hm x.2.1 hb e
      exact Or.inl (p4 u v x.2.2.1 x.2.2.2 (by omega) z)
    · rcases h5 a1 b1 u v x (by omega) z with q | q
      · exact Or.inl (Nat.le_trans (p3 _).1 q)
      · exact Or.inr (Nat.le_trans (Nat.min_le_left _ _) q)
/-- one step on -/
theorem AVs_end {m g h t l0 l : Nat} {tv lv : Nat → Nat} (hm : m ≤ 3) (hT : Tv m g h t l0 tv) (hF : FrI m g h t l0) (H : AVs m g h tv l0 64 l lv) : FrI m g h (t + 1) l ∧ Tv m g h (t + 1) l lv := by
  obtain ⟨h1, h2, h3, h4, h5⟩ := H
  have hp := p2_le hm
  refine ⟨⟨?_, fun f hf => Nat.le_trans h2 (hF.2.1 f hf), fun t1 c ht hc => ?_⟩, fun a b ha hb => ?_, fun a b c hc => ?_⟩
  · rcases h1 with e | ⟨a, b, u, v, x, y, z, e⟩
    · rw [e]
      rcases hF.1 with q | ⟨t1, q, r⟩
      · exact Or.inl q
      · exact Or.inr ⟨t1, by omega, r⟩
    · refine Or.inr ⟨t, by omega, a, b, tv (a * 8 + b), u, v, x, ?_, z, e⟩
      rcases hT.1 a b x.1 x.2.1 with q | q
      · omega
      · exact q
  · by_cases e : t1 = t
    · subst e
      obtain ⟨a, b, c0, u, v, x, y, z, e⟩ := hc
      rcases hT.2 a b c0 y with q | q
      · have := h3 a b u v x (by omega) z
        omega
      · omega
    · exact Nat.le_trans h2 (hF.2.2 t1 c (by omega) hc)
  · rcases h4 (a * 8 + b) with q | ⟨a1, b1, u, v, x, y, z, e, r⟩
    · exact Or.inl q
    · have n1 := nx_lt (m := m) x.2.2.1 x.1
      have n2 := nx_lt (m := m) x.2.2.2 x.2.1
      obtain ⟨rfl, rfl⟩ := ab_eq hm hb n2 e
      right
      rw [r]
      refine ⟨a1, b1, tv (a1 * 8 + b1), u, v, x, ?_, rfl, rfl, z, rfl⟩
      rcases hT.1 a1 b1 x.1 x.2.1 with q | q
      · omega
      · exact q
  · obtain ⟨a1, b1, c0, u, v, x, y, rfl, rfl, z, e⟩ := hc
    rcases hT.2 a1 b1 c0 y with q | q
    · rcases h5 a1 b1 u v x (by omega) z with r | r
      · left; omega
      · right; omega
    · right; omega
/-- the first sums -/
def P0s (m g h s : Nat) (tv : Nat → Nat) : Prop := (∀ i, tv i = NV ∨ ∃ s1, s1 < s ∧ i = nx m s1 0 * 8 + nx m s1 1 ∧ tv i = apv m g h s1 0 s1 1) ∧ ∀ s1, s1 < s → tv (nx m s1 0 * 8 + nx m s1 1) ≤ apv m g h s1 0 s1 1
theorem P0s_0 (m g h : Nat) : P0s m g h 0 (fun _ => NV) := ⟨fun _ => Or.inl rfl, fun _ q => absurd q (by omega)⟩
theorem P0s_s {m g h s : Nat} {tv : Nat → Nat} (H : P0s m g h s tv) : P0s m g h (s + 1) (fu tv (nx m s 0 * 8 + nx m s 1) (min (tv (nx m s 0 * 8 + nx m s 1)) (apv m g h s 0 s 1))) := by
  obtain ⟨h1, h2⟩ := H
  have up : ∀ i, (tv i = NV ∨ ∃ s1, s1 < s ∧ i = nx m s1 0 * 8 + nx m s1 1 ∧ tv i = apv m g h s1 0 s1 1) → (tv i = NV ∨ ∃ s1, s1 < s + 1 ∧ i = nx m s1 0 * 8 + nx m s1 1 ∧ tv i = apv m g h s1 0 s1 1) := by
    intro i q
    rcases q with q | ⟨s1, a, b, c⟩
    · exact Or.inl q
    · exact Or.inr ⟨s1, by omega, b, c⟩
  refine ⟨fun i => ?_, fun s1 q => ?_⟩
  · by_cases e : i = nx m s 0 * 8 + nx m s 1
    · rw [e, fu_s, Nat.min_def]
      split
      · exact up _ (h1 _)
      · exact Or.inr ⟨s, by omega, rfl, rfl⟩
    · rw [fu_n _ e]
      exact up i (h1 i)
  · by_cases e : nx m s1 0 * 8 + nx m s1 1 = nx m s 0 * 8 + nx m s 1
    · rw [e, fu_s]
      by_cases e2 : s1 = s
      · subst e2; exact Nat.min_le_right _ _
      · refine Nat.le_trans (Nat.min_le_left _ _) ?_
        rw [← e]
        exact h2 s1 (by omega)
    · rw [fu_n _ e]
      by_cases e2 : s1 = s
      · subst e2; exact absurd rfl e
      · exact h2 s1 (by omega)
theorem P0s_T {m g h l : Nat} {tv : Nat → Nat} (hm : m ≤ 3) (H : P0s m g h (2 ^ m) tv) : Tv m g h 0 l tv := by
  refine ⟨fun a b ha hb => ?_, fun a b c hc => ?_⟩
  · rcases H.1 (a * 8 + b) with q | ⟨s, q, r, w⟩
    · exact Or.inl q
    · have n2 := nx_lt (m := m) (u := 1) (by decide) q
      obtain ⟨rfl, rfl⟩ := ab_eq hm hb n2 r
      exact Or.inr ⟨s, q, rfl, rfl, w⟩
  · obtain ⟨s, q, rfl, rfl, rfl⟩ := hc
    exact Or.inl (H.2 s q)
/-- the least of the families' own -/
def gm : Nat → Nat
  | 0 => NV
  | n + 1 => min (gm n) (gap n n)
theorem gm_ok : FrI 0 0 0 0 (gm 4) := by
  refine ⟨Or.inl ⟨0, by decide, by decide +kernel⟩, ?_, fun t c q => absurd q (by omega)⟩
  decide +kernel
theorem gm_F (m g h : Nat) : FrI m g h 0 (gm 4) := ⟨gm_ok.1.elim Or.inl (fun ⟨_, q, _⟩ => absurd q (by omega)), gm_ok.2.1, fun t c q => absurd q (by omega)⟩
theorem gm_le : ∀ n, gm n ≤ NV
  | 0 => Nat.le_refl _
  | n + 1 => Nat.le_trans (Nat.min_le_left _ _) (gm_le n)
/-- an array holds a table -/
def Ar (σ : Mem) (k n : Nat) (tv : Nat → Nat) : Prop := ∀ i, i < n → σ k i = nI (tv i) ∧ tv i ≤ NV
theorem Ar_up {σ : Mem} {k n i v : Nat} {tv : Nat → Nat} (h : Ar σ k n tv) (hv : v ≤ NV) : Ar (m2 σ k i (nI v)) k n (fu tv i v) := by
  intro j hj
  by_cases e : j = i
  · subst e; rw [m2_ss, fu_s]; exact ⟨rfl, hv⟩
  · rw [m2_sn e, fu_n _ e]; exact h j hj
theorem Ar.keep {σ σ' : Mem} {k n : Nat} {tv : Nat → Nat} (h : Ar σ k n tv) (e : σ' k = σ k) : Ar σ' k n tv := by
  intro j hj
  rw [e]
  exact h j hj

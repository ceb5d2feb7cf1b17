/-! WHAT IS SO: the code, END, what was SENT, HEARD -/
abbrev Rec : Type := (Nat × Nat × Nat × Int32) × (Nat × (Nat → Nat) × (Nat → Nat)) × (Nat × (Nat → Int32) × (Nat → Int32))
abbrev rM (A : Rec) : Nat := A.1.1
abbrev rG (A : Rec) : Nat := A.1.2.1
abbrev rH (A : Rec) : Nat := A.1.2.2.1
abbrev rE (A : Rec) : Int32 := A.1.2.2.2
abbrev rS (A : Rec) : Nat := A.2.1.1
abbrev rU (A : Rec) : Nat → Nat := A.2.1.2.1
abbrev rW (A : Rec) : Nat → Nat := A.2.1.2.2
abbrev rN (A : Rec) : Nat := A.2.2.1
abbrev rX (A : Rec) : Nat → Int32 := A.2.2.2.1
abbrev rY (A : Rec) : Nat → Int32 := A.2.2.2.2
def stS (A : Rec) : Nat → Nat
  | 0 => 0
  | k + 1 => nx (rM A) (stS A k) (rU A k)
def fmS (A : Rec) (k : Nat) : Nat := fam (rM A) (rG A) (rH A) (stS A k) (rU A k)
def ptS (A : Rec) (k : Nat) : Nat := pt (fmS A k) (rW A k)
def hOK (x y : Int32) : Prop := (-99 ≤ x.toInt ∧ x.toInt ≤ 99) ∧ -99 ≤ y.toInt ∧ y.toInt ≤ 99
/-- a code within its bounds -/
def cOK (m g h : Nat) : Prop := (1 ≤ m ∧ m ≤ 3) ∧ (1 ≤ g ∧ g < 2 * 2 ^ m) ∧ (1 ≤ h ∧ h < 2 * 2 ^ m)
theorem cOK.lt {m g h : Nat} (hc : cOK m g h) : g < 16 ∧ h < 16 := by
  have := p2_le hc.1.2
  obtain ⟨_, h1, h2⟩ := hc
  omega
def eOK (m : Nat) (e : Int32) : Prop := e = (-1) ∨ ∃ s, s < 2 ^ m ∧ e = nI s
def ROk (A : Rec) : Prop := cOK (rM A) (rG A) (rH A) ∧ (rS A ≤ 24 ∧ rN A ≤ 24) ∧ (∀ k, k < rS A → rU A k < 2 ∧ rW A k < 4) ∧ (∀ k, k < rN A → hOK (rX A k) (rY A k)) ∧ eOK (rM A) (rE A)
theorem stS_lt {A : Rec} (h : ROk A) : ∀ k, k ≤ rS A → stS A k < 2 ^ rM A
  | 0, _ => p2_pos _
  | k + 1, hk => nx_lt (h.2.2.1 k (by omega)).1 (stS_lt h k (by omega))
/-- a Moment holds what is so -/
def CM (σ : Mem) (mo : Nat) (A : Rec) : Prop := CodeAt σ (mo + 1) (rM A) (rG A) (rH A) ∧ σ mo 3 = rE A ∧ σ (mo + 2) 0 = nI (rS A) ∧ (∀ k, k < rS A → σ (mo + 2 + 1) k = nI (rU A k) ∧ σ (mo + 2 + 2) k = nI (rW A k) ∧ σ (mo + 2 + 3) k = nI (ptS A k) ∧ σ (mo + 2 + 4) k = nI (stS A (k + 1))) ∧ σ (mo + 7) 0 = nI (rN A) ∧ ∀ k, k < rN A → σ (mo + 7 + 1) k = rX A k ∧ σ (mo + 7 + 2) k = rY A k
theorem CM.keep {σ σ' : Mem} {mo : Nat} {A : Rec} (h : CM σ mo A) (e : ∀ k, mo ≤ k → k < mo + 10 → σ' k = σ k) : CM σ' mo A := by
  unfold CM CodeAt
  rw [e mo (by omega) (by omega), e (mo + 1) (by omega) (by omega), e (mo + 2) (by omega) (by omega), e (mo + 7) (by omega) (by omega), e (mo + 2 + 1) (by omega) (by omega), e (mo + 2 + 2) (by omega) (by omega), e (mo + 2 + 3) (by omega) (by omega), e (mo + 2 + 4) (by omega) (by omega), e (mo + 7 + 1) (by omega) (by omega), e (mo + 7 + 2) (by omega) (by omega)]
  exact h
theorem CM.last {σ : Mem} {mo : Nat} {A : Rec} (h : CM σ mo A) : lastV σ (mo + 2) (rS A) = nI (stS A (rS A)) := by
  unfold lastV
  by_cases h0 : rS A = 0
  · rw [if_pos h0, h0]; rfl
  · rw [if_neg h0, (h.2.2.2.1 (rS A - 1) (by omega)).2.2.2, show rS A - 1 + 1 = rS A by omega]
theorem moCp_o {σ : Mem} {mo oo n k : Nat} {x y z e : Int32} {j : Nat} (h : j < mo ∨ mo + 10 ≤ j) : moCp σ mo oo n k x y z e j = σ j := by
  unfold moCp plCp rowCp codeSet
  rw [m2_o (by omega), mcp_o (by omega), mcp_o (by omega), m2_o (by omega), mcp_o (by omega), mcp_o (by omega), mcp_o (by omega), mcp_o (by omega), m2_o (by omega), m2_o (by omega), m2_o (by omega), m2_o (by omega)]
theorem moCp_CM {σ : Mem} {mo oo : Nat} {A : Rec} (hA : CM σ oo A) (hap : mo + 10 ≤ oo ∨ oo + 10 ≤ mo) : CM (moCp σ mo oo (rS A) (rN A) (σ (oo + 1) 0) (σ (oo + 1) 1) (σ (oo + 1) 2) (σ oo 3)) mo A := by
  obtain ⟨h1, h2, h3, h4, h5, h6⟩ := hA
  unfold moCp plCp rowCp codeSet
  refine ⟨⟨?_, ?_, ?_, h1.2.2.2⟩, ?_, ?_, fun k hk => ⟨?_, ?_, ?_, ?_⟩, ?_, fun k hk => ⟨?_, ?_⟩⟩
  · rw [m2_o (by omega), mcp_o (by omega), mcp_o (by omega), m2_o (by omega), mcp_o (by omega), mcp_o (by omega), mcp_o (by omega), mcp_o (by omega), m2_o (by omega), m2_sn (by omega), m2_sn (by omega), m2_ss]; exact h1.1
  · rw [m2_o (by omega), mcp_o (by omega), mcp_o (by omega), m2_o (by omega), mcp_o (by omega), mcp_o (by omega), mcp_o (by omega), mcp_o (by omega), m2_o (by omega), m2_sn (by omega), m2_ss]; exact h1.2.1
  · rw [m2_o (by omega), mcp_o (by omega), mcp_o (by omega), m2_o (by omega), mcp_o (by omega), mcp_o (by omega), mcp_o (by omega), mcp_o (by omega), m2_o (by omega), m2_ss]; exact h1.2.2.1
  · rw [m2_ss]; exact h2
  · rw [m2_o (by omega), mcp_o (by omega), mcp_o (by omega), m2_o (by omega), mcp_o (by omega), mcp_o (by omega), mcp_o (by omega), mcp_o (by omega), m2_ss]
  · rw [m2_o (by omega), mcp_o (by omega), mcp_o (by omega), m2_o (by omega), mcp_o (by omega), mcp_o (by omega), mcp_o (by omega), mcp_s hk, m2_o (by omega), m2_o (by omega), m2_o (by omega), m2_o (by omega)]; exact (h4 k hk).1
  · rw [m2_o (by omega), mcp_o (by omega), mcp_o (by omega), m2_o (by omega), mcp_o (by omega), mcp_o (by omega), mcp_s hk, mcp_o (by omega), m2_o (by omega), m2_o (by omega), m2_o (by omega), m2_o (by omega)]; exact (h4 k hk).2.1
  · rw [m2_o (by omega), mcp_o (by omega), mcp_o (by omega), m2_o (by omega), mcp_o (by omega), mcp_s hk, mcp_o (by omega), mcp_o (by omega), m2_o (by omega), m2_o (by omega), m2_o (by omega), m2_o (by omega)]; exact (h4 k hk).2.2.1
  · rw [m2_o (by omega), mcp_o (by omega), mcp_o (by omega), m2_o (by omega), mcp_s hk, mcp_o (by omega), mcp_o (by omega), mcp_o (by omega), m2_o (by omega), m2_o (by omega), m2_o (by omega), m2_o (by omega)]; exact (h4 k hk).2.2.2
  · rw [m2_o (by omega), mcp_o (by omega), mcp_o (by omega), m2_ss]
  · rw [m2_o (by omega), mcp_o (by omega), mcp_s hk, m2_o (by omega), mcp_o (by omega), mcp_o (by omega), mcp_o (by omega), mcp_o (by omega), m2_o (by omega), m2_o (by omega), m2_o (by omega), m2_o (by omega)]; exact (h6 k hk).1
  · rw [m2_o (by omega), mcp_s hk, mcp_o (by omega), m2_o (by omega), mcp_o (by omega), mcp_o (by omega), mcp_o (by omega), mcp_o (by omega), m2_o (by omega), m2_o (by omega), m2_o (by omega), m2_o (by omega)]; exact (h6 k hk).2
/-- one more is kept for undo() -/
def phN (n : Nat) : Nat := if n < 8 then n + 1 else 8
def phP (n : Nat) (P : Nat → Rec) (A : Rec) : Nat → Rec := fun j => if n < 8 then (if j = n then A else P j) else (if j = 7 then A else P (j + 1))
/-- the ring -/
def PI (σ : Mem) (n o : Nat) (P : Nat → Rec) : Prop := (σ 11 0 = nI n ∧ n ≤ 8) ∧ (σ 11 1 = nI o ∧ o < 8) ∧ ∀ j, j < n → ROk (P j) ∧ CM σ (13 + 10 * ((o + j) % 8)) (P j)
theorem PI.keep {σ σ' : Mem} {n o : Nat} {P : Nat → Rec} (h : PI σ n o P) (e : ∀ k, 11 ≤ k → k < 93 → σ' k = σ k) : PI σ' n o P := by
  obtain ⟨h1, h2, h3⟩ := h
  refine ⟨by rw [e 11 (by omega) (by omega)]; exact h1, by rw [e 11 (by omega) (by omega)]; exact h2, fun j hj => ⟨(h3 j hj).1, (h3 j hj).2.keep (fun k _ _ => e k (by omega) (by omega))⟩⟩
def moC (σ : Mem) (mo oo : Nat) (A : Rec) : Mem := moCp σ mo oo (rS A) (rN A) (σ (oo + 1) 0) (σ (oo + 1) 1) (σ (oo + 1) 2) (σ oo 3)
theorem moC_o {σ : Mem} {mo oo : Nat} {A : Rec} {j : Nat} (h : j < mo ∨ mo + 10 ≤ j) : moC σ mo oo A j = σ j := moCp_o h
theorem moC_CM {σ : Mem} {mo oo : Nat} {A : Rec} (hA : CM σ oo A) (hap : mo + 10 ≤ oo ∨ oo + 10 ≤ mo) : CM (moC σ mo oo A) mo A := moCp_CM hA hap
theorem push1 {σ : Mem} {n o : Nat} {P : Nat → Rec} {A : Rec} (h : PI σ n o P) (hA : CM σ 1 A) (hR : ROk A) (hn : n < 8) : PI (m2 (moC σ (13 + 10 * ((o + n) % 8)) 1 A) 11 0 (nI (n + 1))) (phN n) o (phP n P A) := by
  obtain ⟨h1, h2, h3⟩ := h
  have hq : phN n = n + 1 := by unfold phN; rw [if_pos hn]
  refine ⟨⟨by rw [m2_ss, hq], by omega⟩, ⟨by rw [m2_sn (by omega), moC_o (by omega)]; exact h2.1, h2.2⟩, fun j hj => ?_⟩
  unfold phP
  rw [if_pos hn]
  by_cases hjn : j = n
  · rw [if_pos hjn]
    subst hjn
    exact ⟨hR, (moC_CM hA (by omega)).keep (fun k _ _ => m2_o (by omega))⟩
  · rw [if_neg hjn]
    refine ⟨(h3 j (by omega)).1, (h3 j (by omega)).2.keep (fun k _ _ => ?_)⟩
    rw [m2_o (by omega), moC_o]
    omega
theorem push2 {σ : Mem} {n o : Nat} {P : Nat → Rec} {A : Rec} (h : PI σ n o P) (hA : CM σ 1 A) (hR : ROk A) (hn : ¬ n < 8) : PI (m2 (moC σ (13 + 10 * ((o + n) % 8)) 1 A) 11 1 (nI ((o + 1) % 8))) (phN n) ((o + 1) % 8) (phP n P A) := by
  obtain ⟨h1, h2, h3⟩ := h
  have h8 : n = 8 := by omega
  subst h8
  refine ⟨⟨by rw [m2_sn (by omega), moC_o (by omega)]; exact h1.1, by decide⟩, ⟨by rw [m2_ss], by omega⟩, fun j hj => ?_⟩
  have hj : j < 8 := hj
  unfold phP
  rw [if_neg hn]
  by_cases hjn : j = 7
  · rw [if_pos hjn]
    subst hjn
    refine ⟨hR, ?_⟩
    rw [show ((o + 1) % 8 + 7) % 8 = (o + 8) % 8 by omega]
    exact (moC_CM hA (by omega)).keep (fun k _ _ => m2_o (by omega))
  · rw [if_neg hjn]
    refine ⟨(h3 (j + 1) (by omega)).1, ?_⟩
    rw [show ((o + 1) % 8 + j) % 8 = (o + (j + 1)) % 8 by omega]
    refine (h3 (j + 1) (by omega)).2.keep (fun k _ _ => ?_)
    rw [m2_o (by omega), moC_o]
    omega
/-- the class's part of what is so: now, the ring, the images -/
def IC (σ : Mem) (A : Rec) (n : Nat) (P : Nat → Rec) (J : Nat → Rec) (kp : Nat → Bool) : Prop := ROk A ∧ CM σ 1 A ∧ (∃ o, PI σ n o P) ∧ ∀ i, i < 2 → σ 114 i = bz (kp i) ∧ (kp i = true → ROk (J i) ∧ CM σ (94 + 10 * i) (J i))
theorem IC.keep {σ σ' : Mem} {A : Rec} {n : Nat} {P J : Nat → Rec} {kp : Nat → Bool} (h : IC σ A n P J kp) (e : ∀ k, k < 115 → σ' k = σ k) : IC σ' A n P J kp := by
  obtain ⟨h1, h2, ⟨o, h3⟩, h4⟩ := h
  refine ⟨h1, h2.keep (fun k _ _ => e k (by omega)), ⟨o, h3.keep (fun k _ _ => e k (by omega))⟩, fun i hi => ⟨by rw [e 114 (by omega)]; exact (h4 i hi).1, fun q => ⟨((h4 i hi).2 q).1, ((h4 i hi).2 q).2.keep (fun k _ _ => e k (by omega))⟩⟩⟩
/-- behind push(): now as it was, one more to undo -/
theorem IC.pushed {σ σ' : Mem} {A : Rec} {n o : Nat} {P J : Nat → Rec} {kp : Nat → Bool} (h : IC σ A n P J kp) {n' : Nat} {P' : Nat → Rec} (hp : PI σ' n' o P') (e : ∀ k, k < 11 ∨ 93 ≤ k → σ' k = σ k) : IC σ' A n' P' J kp := by
  obtain ⟨h1, h2, _, h4⟩ := h
  exact ⟨h1, h2.keep (fun k _ _ => e k (by omega)), ⟨o, hp⟩, fun i hi => ⟨by rw [e 114 (by omega)]; exact (h4 i hi).1, fun q => ⟨((h4 i hi).2 q).1, ((h4 i hi).2 q).2.keep (fun k _ _ => e k (by omega))⟩⟩⟩
/-- now is another -/
theorem IC.nowed {σ σ' : Mem} {A B : Rec} {n : Nat} {P J : Nat → Rec} {kp : Nat → Bool} (h : IC σ A n P J kp) (hB : ROk B) (hC : CM σ' 1 B) (e : ∀ k, 11 ≤ k → k < 115 → σ' k = σ k) : IC σ' B n P J kp := by
  obtain ⟨_, _, ⟨o, h3⟩, h4⟩ := h
  exact ⟨hB, hC, ⟨o, h3.keep (fun k _ _ => e k (by omega) (by omega))⟩, fun i hi => ⟨by rw [e 114 (by omega) (by omega)]; exact (h4 i hi).1, fun q => ⟨((h4 i hi).2 q).1, ((h4 i hi).2 q).2.keep (fun k _ _ => e k (by omega) (by omega))⟩⟩⟩

/-! steps of the calls' words -/
theorem inR_ge {x : Int32} {k : Nat} (hk : k < 2 ^ 30) (h : nI (k + 1) ≤ x) : inR x (nI 0) (nI k) = false := by
  apply inR_f2
  intro q
  have a := Int32.le_iff_toInt_le.mp h
  have b := Int32.le_iff_toInt_le.mp q
  rw [nI_toInt (by omega)] at a b
  omega
theorem inR_ok {x : Int32} {k : Nat} (hk : k < 2 ^ 30) (h0 : ¬ x < 0) (h : ¬ nI (k + 1) ≤ x) : inR x (nI 0) (nI k) = true := by
  refine inR_t h0 ?_
  have a := Int32.lt_iff_toInt_lt.mp (Int32.not_le.mp h)
  apply Int32.le_iff_toInt_le.mpr
  rw [nI_toInt (by omega)] at a ⊢
  omega
theorem not_t {b : Bool} (h : (!b) = true) : b = false := by cases b <;> simp_all
theorem not_f {b : Bool} (h : (!b) = false) : b = true := by cases b <;> simp_all
theorem S_send_o1 {w : World} {x y : Int32} (h : inR x (nI 0) (nI 1) = false) : S_send w x y = ((-1000000002), w) := by unfold S_send; rw [h]; rfl
theorem S_send_o2 {w : World} {x y : Int32} (h : inR y (nI 0) (nI 3) = false) : S_send w x y = ((-1000000002), w) := by unfold S_send; rw [h, Bool.and_false]; rfl
theorem S_send_full {w : World} {u v : Nat} (hu : u < 2) (hv : v < 4) (h : rS w.1 = 24) : S_send w (nI u) (nI v) = ((-1000000004), w) := by
  unfold S_send
  rw [inR_n (by omega) (by omega) (by omega), inR_n (by omega) (by omega) (by omega), decide_eq_true (by omega), decide_eq_true (by omega), if_pos (by rfl), if_pos h]
theorem S_send_ok {w : World} {u v : Nat} (hu : u < 2) (hv : v < 4) (h : rS w.1 ≠ 24) : S_send w (nI u) (nI v) = (nI (ptS (sentR w.1 u v) (rS w.1)), psh w (sentR w.1 u v)) := by
  unfold S_send
  rw [inR_n (by omega) (by omega) (by omega), inR_n (by omega) (by omega) (by omega), decide_eq_true (by omega), decide_eq_true (by omega), if_pos (by rfl), if_neg h, nI_clamp (by omega), nI_clamp (by omega)]
theorem S_hear_o1 {w : World} {x y : Int32} (h : inR x (-99) (nI 99) = false) : S_hear w x y = ((-1000000002), w) := by unfold S_hear; rw [h]; rfl
theorem S_hear_o2 {w : World} {x y : Int32} (h : inR y (-99) (nI 99) = false) : S_hear w x y = ((-1000000002), w) := by unfold S_hear; rw [h, Bool.and_false]; rfl
theorem S_hear_full {w : World} {x y : Int32} (h1 : inR x (-99) (nI 99) = true) (h2 : inR y (-99) (nI 99) = true) (h : rN w.1 = 24) : S_hear w x y = ((-1000000004), w) := by unfold S_hear; rw [h1, h2, if_pos (by rfl), if_pos h]
theorem S_hear_ok {w : World} {x y : Int32} (h1 : inR x (-99) (nI 99) = true) (h2 : inR y (-99) (nI 99) = true) (h : rN w.1 ≠ 24) : S_hear w x y = (nI (rN w.1 + 1), psh w (heardR w.1 x y)) := by unfold S_hear; rw [h1, h2, if_pos (by rfl), if_neg h]
theorem inR_99 {x : Int32} (h : inR x (-99) (nI 99) = true) : -99 ≤ x.toInt ∧ x.toInt ≤ 99 := by
  have q := of_decide_eq_true h
  have a := Int32.le_iff_toInt_le.mp q.1
  have b := Int32.le_iff_toInt_le.mp q.2
  rw [nI_toInt (by omega)] at b
  exact ⟨a, b⟩
theorem S_code_o {w : World} {x y z : Int32} (h : cokB x y z = false) : S_code w x y z = ((-1000000002), w) := by unfold S_code; rw [h]; rfl
theorem cokB_o1 {x y z : Int32} (h : inR x (nI 1) (nI 3) = false) : cokB x y z = false := by unfold cokB; rw [h]; rfl
theorem cokB_o2 {m : Nat} {y z : Int32} (hm : 1 ≤ m ∧ m ≤ 3) (h : inR y (nI 1) (nI (2 * 2 ^ m - 1)) = false) : cokB (nI m) y z = false := by rw [cokB_n hm, h]; rfl
theorem cokB_o3 {m : Nat} {y z : Int32} (hm : 1 ≤ m ∧ m ≤ 3) (h : inR z (nI 1) (nI (2 * 2 ^ m - 1)) = false) : cokB (nI m) y z = false := by rw [cokB_n hm, h, Bool.and_false]
theorem S_code_ok {w : World} {m g h : Nat} (hc : cOK m g h) : S_code w (nI m) (nI g) (nI h) = (nI (2 ^ m), psh w (coded w.1 m g h)) := by
  have h1 := p2_le hc.1.2
  obtain ⟨hm, hg, hh⟩ := hc
  unfold S_code
  rw [cokB_n hm, inR_n (by omega) (by omega) (by omega), inR_n (by omega) (by omega) (by omega), decide_eq_true (by omega), decide_eq_true (by omega), if_pos (by rfl), nI_clamp (by omega), nI_clamp (by omega), nI_clamp (by omega)]
theorem S_drift_o1 {w : World} {x y : Int32} (h : inR x (nI 1) (nI 24) = false) : S_drift w x y = ((-1000000002), w) := by unfold S_drift; rw [h]; rfl
theorem S_drift_o2 {w : World} {x y : Int32} (h : inR y (nI 1) (nI 999999) = false) : S_drift w x y = ((-1000000002), w) := by unfold S_drift; rw [h, Bool.and_false]; rfl
theorem S_drift_ok {w : World} {k x : Nat} (hk : 1 ≤ k ∧ k ≤ 24) (hx : 1 ≤ x ∧ x ≤ 999999) : S_drift w (nI k) (nI x) = (nI (dr k w.1 x).1, psh w (dr k w.1 x).2) := by
  unfold S_drift
  rw [inR_n (by omega) (by omega) (by omega), inR_n (by omega) (by omega) (by omega), decide_eq_true (by omega), decide_eq_true (by omega), if_pos (by rfl), nI_clamp (by omega), nI_clamp (by omega)]
theorem S_keep_o {w : World} {x : Int32} (h : inR x (nI 0) (nI 1) = false) : S_keep w x = ((-1000000001), w) := by unfold S_keep; rw [h]; rfl
theorem S_keep_ok {w : World} {i : Nat} (hi : i < 2) : S_keep w (nI i) = (nI (rN w.1), (w.1, 0, w.2.2.1, uR w.2.2.2.1 i w.1, uR w.2.2.2.2 i true)) := by
  unfold S_keep
  rw [inR_n (by omega) (by omega) (by omega), decide_eq_true (by omega), if_pos (by rfl), nI_clamp (by omega)]
theorem S_goBack_o {w : World} {x : Int32} (h : inR x (nI 0) (nI 1) = false) : S_goBack w x = ((-1000000001), w) := by unfold S_goBack; rw [h]; rfl
theorem S_goBack_n {w : World} {i : Nat} (hi : i < 2) (h : w.2.2.2.2 i = false) : S_goBack w (nI i) = ((-1000000003), w) := by
  unfold S_goBack
  rw [inR_n (by omega) (by omega) (by omega), decide_eq_true (by omega), if_pos (by rfl), nI_clamp (by omega), if_neg (by rw [h]; decide)]
theorem S_goBack_ok {w : World} {i : Nat} (hi : i < 2) (h : w.2.2.2.2 i = true) : S_goBack w (nI i) = (nI (rN (w.2.2.2.1 i)), (w.2.2.2.1 i, 0, w.2.2)) := by
  unfold S_goBack
  rw [inR_n (by omega) (by omega) (by omega), decide_eq_true (by omega), if_pos (by rfl), nI_clamp (by omega), if_pos h]
theorem uR_s {α : Type} (f : Nat → α) (k : Nat) (v : α) : uR f k v k = v := by unfold uR; rw [if_pos rfl]
theorem uR_n {α : Type} (f : Nat → α) {k j : Nat} (v : α) (h : j ≠ k) : uR f k v j = f j := by unfold uR; rw [if_neg h]
/-! what was SENT with one more -/
theorem stS_sent {A : Rec} {u w : Nat} : ∀ k, k ≤ rS A → stS (sentR A u w) k = stS A k
  | 0, _ => rfl
  | k + 1, h => by
    show nx (rM A) (stS (sentR A u w) k) (fu (rU A) (rS A) u k) = nx (rM A) (stS A k) (rU A k)
    rw [stS_sent k (by omega), fu_n _ (by omega)]
theorem stS_sent' {A : Rec} {u w : Nat} : stS (sentR A u w) (rS A + 1) = nx (rM A) (stS A (rS A)) u := by
  show nx (rM A) (stS (sentR A u w) (rS A)) (fu (rU A) (rS A) u (rS A)) = _
  rw [stS_sent _ (Nat.le_refl _), fu_s]
theorem ptS_sent {A : Rec} {u w : Nat} {k : Nat} (h : k < rS A) : ptS (sentR A u w) k = ptS A k := by
  show pt (fam (rM A) (rG A) (rH A) (stS (sentR A u w) k) (fu (rU A) (rS A) u k)) (fu (rW A) (rS A) w k) = pt (fam (rM A) (rG A) (rH A) (stS A k) (rU A k)) (rW A k)
  rw [stS_sent k (by omega), fu_n _ (by omega), fu_n _ (by omega)]
theorem ptS_sent' {A : Rec} {u w : Nat} : ptS (sentR A u w) (rS A) = pt (fam (rM A) (rG A) (rH A) (stS A (rS A)) u) w := by
  show pt (fam (rM A) (rG A) (rH A) (stS (sentR A u w) (rS A)) (fu (rU A) (rS A) u (rS A))) (fu (rW A) (rS A) w (rS A)) = _
  rw [stS_sent _ (Nat.le_refl _), fu_s, fu_s]
theorem sent_ok {A : Rec} (h : ROk A) {u w : Nat} (hu : u < 2) (hw : w < 4) (hn : rS A < 24) : ROk (sentR A u w) := by
  obtain ⟨h1, h2, h3, h4, h5⟩ := h
  refine ⟨h1, ⟨by show rS A + 1 ≤ 24; omega, h2.2⟩, fun k hk => ?_, h4, h5⟩
  have hk : k < rS A + 1 := hk
  show fu (rU A) (rS A) u k < 2 ∧ fu (rW A) (rS A) w k < 4
  by_cases e : k = rS A
  · subst e; rw [fu_s, fu_s]; exact ⟨hu, hw⟩
  · rw [fu_n _ e, fu_n _ e]; exact h3 k (by omega)
theorem sent_CM {σ : Mem} {mo : Nat} {A : Rec} (h : CM σ mo A) (u w : Nat) : CM (rowApp σ (mo + 2) (rS A) u w (pt (fam (rM A) (rG A) (rH A) (stS A (rS A)) u) w) (nx (rM A) (stS A (rS A)) u)) mo (sentR A u w) := by
  obtain ⟨h1, h2, h3, h4, h5, h6⟩ := h
  unfold rowApp
  refine ⟨h1.keep (by rw [m2_o (by omega), m2_o (by omega), m2_o (by omega), m2_o (by omega), m2_o (by omega)]), ?_, m2_ss, fun k hk => ?_, ?_, fun k hk => ?_⟩
  · rw [m2_o (by omega), m2_o (by omega), m2_o (by omega), m2_o (by omega), m2_o (by omega)]; exact h2
  · have hk : k < rS A + 1 := hk
    by_cases e : k = rS A
    · subst e
      refine ⟨?_, ?_, ?_, ?_⟩
      · rw [m2_o (by omega), m2_o (by omega), m2_o (by omega), m2_o (by omega), m2_ss]; exact congrArg nI (fu_s _ _ _).symm
      · rw [m2_o (by omega), m2_o (by omega), m2_o (by omega), m2_ss]; exact congrArg nI (fu_s _ _ _).symm
      · rw [m2_o (by omega), m2_o (by omega), m2_ss, ptS_sent']
      · rw [m2_o (by omega), m2_ss, stS_sent']
    · have q := h4 k (by omega)
      refine ⟨?_, ?_, ?_, ?_⟩
      · rw [m2_o (by omega), m2_o (by omega), m2_o (by omega), m2_o (by omega), m2_sn e]; exact q.1.trans (congrArg nI (fu_n _ e).symm)
      · rw [m2_o (by omega), m2_o (by omega), m2_o (by omega), m2_sn e, m2_o (by omega)]; exact q.2.1.trans (congrArg nI (fu_n _ e).symm)
      · rw [m2_o (by omega), m2_o (by omega), m2_sn e, m2_o (by omega), m2_o (by omega), ptS_sent (by omega)]; exact q.2.2.1
      · rw [m2_o (by omega), m2_sn e, m2_o (by omega), m2_o (by omega), m2_o (by omega), stS_sent _ (by omega)]; exact q.2.2.2
  · rw [m2_o (by omega), m2_o (by omega), m2_o (by omega), m2_o (by omega), m2_o (by omega)]; exact h5
  · rw [m2_o (by omega), m2_o (by omega), m2_o (by omega), m2_o (by omega), m2_o (by omega), m2_o (by omega), m2_o (by omega), m2_o (by omega), m2_o (by omega), m2_o (by omega)]; exact h6 k hk
theorem heard_ok {A : Rec} (h : ROk A) {x y : Int32} (hx : hOK x y) (hn : rN A < 24) : ROk (heardR A x y) := by
  obtain ⟨h1, h2, h3, h4, h5⟩ := h
  refine ⟨h1, ⟨h2.1, by show rN A + 1 ≤ 24; omega⟩, h3, fun k hk => ?_, h5⟩
  have hk : k < rN A + 1 := hk
  show hOK (upd (rX A) (rN A) x k) (upd (rY A) (rN A) y k)
  unfold upd
  by_cases e : k = rN A
  · rw [if_pos e, if_pos e]; exact hx
  · rw [if_neg e, if_neg e]; exact h4 k (by omega)
theorem stS_heard {A : Rec} {x y : Int32} : ∀ k, stS (heardR A x y) k = stS A k
  | 0 => rfl
  | k + 1 => by
    show nx (rM A) (stS (heardR A x y) k) (rU A k) = nx (rM A) (stS A k) (rU A k)
    rw [stS_heard k]
theorem ptS_heard {A : Rec} {x y : Int32} (k : Nat) : ptS (heardR A x y) k = ptS A k := by
  show pt (fam (rM A) (rG A) (rH A) (stS (heardR A x y) k) (rU A k)) (rW A k) = _
  rw [stS_heard k]
  rfl
theorem heard_CM {σ : Mem} {mo : Nat} {A : Rec} (h : CM σ mo A) (x y : Int32) : CM (plApp σ (mo + 7) (rN A) x y) mo (heardR A x y) := by
  obtain ⟨h1, h2, h3, h4, h5, h6⟩ := h
  unfold plApp
  refine ⟨h1.keep (by rw [m2_o (by omega), m2_o (by omega), m2_o (by omega)]), ?_, ?_, fun k hk => ?_, m2_ss, fun k hk => ?_⟩
  · rw [m2_o (by omega), m2_o (by omega), m2_o (by omega)]; exact h2
  · rw [m2_o (by omega), m2_o (by omega), m2_o (by omega)]; exact h3
  · rw [m2_o (by omega), m2_o (by omega), m2_o (by omega), m2_o (by omega), m2_o (by omega), m2_o (by omega), m2_o (by omega), m2_o (by omega), m2_o (by omega), m2_o (by omega), m2_o (by omega), m2_o (by omega), ptS_heard, stS_heard]; exact h4 k hk
  · have hk : k < rN A + 1 := hk
    show m2 _ _ _ _ _ _ = upd (rX A) (rN A) x k ∧ m2 _ _ _ _ _ _ = upd (rY A) (rN A) y k
    unfold upd
    by_cases e : k = rN A
    · rw [if_pos e, if_pos e, e, m2_o (by omega), m2_o (by omega), m2_ss, m2_o (by omega), m2_ss]; exact ⟨rfl, rfl⟩
    · have q := h6 k (by omega)
      rw [if_neg e, if_neg e, m2_o (by omega), m2_o (by omega), m2_sn e, m2_o (by omega), m2_sn e, m2_o (by omega)]; exact q
theorem cleared_ok {A : Rec} (h : ROk A) : ROk (cleared A) := ⟨h.1, ⟨Nat.zero_le _, Nat.zero_le _⟩, fun _ q => absurd q (Nat.not_lt_zero _), fun _ q => absurd q (Nat.not_lt_zero _), h.2.2.2.2⟩
theorem cleared_CM {σ : Mem} {mo : Nat} {A : Rec} (h : CM σ mo A) : CM (moClear σ mo) mo (cleared A) := by
  unfold moClear
  refine ⟨h.1.keep (by rw [m2_o (by omega), m2_o (by omega)]), ?_, ?_, fun _ q => absurd q (Nat.not_lt_zero _), m2_ss, fun _ q => absurd q (Nat.not_lt_zero _)⟩
  · rw [m2_o (by omega), m2_o (by omega)]; exact h.2.1
  · rw [m2_o (by omega), m2_ss]; rfl
theorem coded_ok {A : Rec} {m g h : Nat} (hc : cOK m g h) : ROk (coded A m g h) := ⟨hc, ⟨Nat.zero_le _, Nat.zero_le _⟩, fun _ q => absurd q (Nat.not_lt_zero _), fun _ q => absurd q (Nat.not_lt_zero _), Or.inl rfl⟩
theorem coded_CM {σ : Mem} {mo : Nat} {A : Rec} {m g h : Nat} (hc : cOK m g h) : CM (m2 (moClear (codeSet σ (mo + 1) (nI m) (nI g) (nI h)) mo) mo 3 (-1)) mo (coded A m g h) := by
  have hl := hc.lt
  unfold moClear codeSet
  refine ⟨⟨?_, ?_, ?_, hc.1, hl.1, hl.2⟩, m2_ss, ?_, fun _ q => absurd q (Nat.not_lt_zero _), ?_, fun _ q => absurd q (Nat.not_lt_zero _)⟩
  · rw [m2_o (by omega), m2_o (by omega), m2_o (by omega), m2_sn (by omega), m2_sn (by omega), m2_ss]; rfl
  · rw [m2_o (by omega), m2_o (by omega), m2_o (by omega), m2_sn (by omega), m2_ss]; rfl
  · rw [m2_o (by omega), m2_o (by omega), m2_o (by omega), m2_ss]; rfl
  · rw [m2_o (by omega), m2_o (by omega), m2_ss]; rfl
  · rw [m2_o (by omega), m2_ss]; rfl
theorem ended_ok {A : Rec} (h : ROk A) {e : Int32} (he : eOK (rM A) e) : ROk (endedR A e) := ⟨h.1, h.2.1, h.2.2.1, h.2.2.2.1, he⟩
theorem stS_ended {A : Rec} {e : Int32} : ∀ k, stS (endedR A e) k = stS A k
  | 0 => rfl
  | k + 1 => by
    show nx (rM A) (stS (endedR A e) k) (rU A k) = nx (rM A) (stS A k) (rU A k)
    rw [stS_ended k]
theorem ended_CM {σ : Mem} {mo : Nat} {A : Rec} (h : CM σ mo A) (e : Int32) : CM (m2 σ mo 3 e) mo (endedR A e) := by
  obtain ⟨h1, h2, h3, h4, h5, h6⟩ := h
  refine ⟨h1.keep (by rw [m2_o (by omega)]), m2_ss, ?_, fun k hk => ?_, ?_, fun k hk => ?_⟩
  · rw [m2_o (by omega)]; exact h3
  · rw [m2_o (by omega), m2_o (by omega), m2_o (by omega), m2_o (by omega), stS_ended]
    have e1 : ptS (endedR A e) k = ptS A k := by
      show pt (fam (rM A) (rG A) (rH A) (stS (endedR A e) k) (rU A k)) (rW A k) = _
      rw [stS_ended k]
      rfl
    rw [e1]
    exact h4 k hk
  · rw [m2_o (by omega)]; exact h5
  · rw [m2_o (by omega), m2_o (by omega)]; exact h6 k hk

theorem kc_0 : kd 0 = 0 := rfl
theorem kc_1 : kd 1 = 1 := rfl
theorem kc_2 : kd 2 = 2 := rfl
theorem kc_3 : kd 3 = 3 := rfl
theorem kc_4 : kd 4 = 4 := rfl
theorem kc_5 : kd 5 = 4 := rfl
theorem kc_6 : kd 6 = 4 := rfl
theorem kc_7 : kd 7 = 4 := rfl
theorem kc_8 : kd 8 = 5 := rfl
theorem kc_9 : kd 9 = 4 := rfl
theorem kc_10 : kd 10 = 4 := rfl
theorem kc_11 : kd 11 = 6 := rfl
theorem kc_12 : kd 12 = 7 := rfl
theorem kc_13 : kd 13 = 1 := rfl
theorem kc_14 : kd 14 = 2 := rfl
theorem kc_15 : kd 15 = 3 := rfl
theorem kc_16 : kd 16 = 4 := rfl
theorem kc_17 : kd 17 = 4 := rfl
theorem kc_18 : kd 18 = 4 := rfl
theorem kc_19 : kd 19 = 4 := rfl
theorem kc_20 : kd 20 = 5 := rfl
theorem kc_21 : kd 21 = 4 := rfl
theorem kc_22 : kd 22 = 4 := rfl
theorem kc_23 : kd 23 = 1 := rfl
theorem kc_24 : kd 24 = 2 := rfl
theorem kc_25 : kd 25 = 3 := rfl
theorem kc_26 : kd 26 = 4 := rfl
theorem kc_27 : kd 27 = 4 := rfl
theorem kc_28 : kd 28 = 4 := rfl
theorem kc_29 : kd 29 = 4 := rfl
theorem kc_30 : kd 30 = 5 := rfl
theorem kc_31 : kd 31 = 4 := rfl
theorem kc_32 : kd 32 = 4 := rfl
theorem kc_33 : kd 33 = 1 := rfl
theorem kc_34 : kd 34 = 2 := rfl
theorem kc_35 : kd 35 = 3 := rfl
theorem kc_36 : kd 36 = 4 := rfl
theorem kc_37 : kd 37 = 4 := rfl
theorem kc_38 : kd 38 = 4 := rfl
theorem kc_39 : kd 39 = 4 := rfl
theorem kc_40 : kd 40 = 5 := rfl
theorem kc_41 : kd 41 = 4 := rfl
theorem kc_42 : kd 42 = 4 := rfl
theorem kc_43 : kd 43 = 1 := rfl
theorem kc_44 : kd 44 = 2 := rfl
theorem kc_45 : kd 45 = 3 := rfl
theorem kc_46 : kd 46 = 4 := rfl
theorem kc_47 : kd 47 = 4 := rfl
theorem kc_48 : kd 48 = 4 := rfl
theorem kc_49 : kd 49 = 4 := rfl
theorem kc_50 : kd 50 = 5 := rfl
theorem kc_51 : kd 51 = 4 := rfl
theorem kc_52 : kd 52 = 4 := rfl
theorem kc_53 : kd 53 = 1 := rfl
theorem kc_54 : kd 54 = 2 := rfl
theorem kc_55 : kd 55 = 3 := rfl
theorem kc_56 : kd 56 = 4 := rfl
theorem kc_57 : kd 57 = 4 := rfl
theorem kc_58 : kd 58 = 4 := rfl
theorem kc_59 : kd 59 = 4 := rfl
theorem kc_60 : kd 60 = 5 := rfl
theorem kc_61 : kd 61 = 4 := rfl
theorem kc_62 : kd 62 = 4 := rfl
theorem kc_63 : kd 63 = 1 := rfl
theorem kc_64 : kd 64 = 2 := rfl
theorem kc_65 : kd 65 = 3 := rfl
theorem kc_66 : kd 66 = 4 := rfl
theorem kc_67 : kd 67 = 4 := rfl
theorem kc_68 : kd 68 = 4 := rfl
theorem kc_69 : kd 69 = 4 := rfl
theorem kc_70 : kd 70 = 5 := rfl
theorem kc_71 : kd 71 = 4 := rfl
theorem kc_72 : kd 72 = 4 := rfl
theorem kc_73 : kd 73 = 1 := rfl
theorem kc_74 : kd 74 = 2 := rfl
theorem kc_75 : kd 75 = 3 := rfl
theorem kc_76 : kd 76 = 4 := rfl
theorem kc_77 : kd 77 = 4 := rfl
theorem kc_78 : kd 78 = 4 := rfl
theorem kc_79 : kd 79 = 4 := rfl
theorem kc_80 : kd 80 = 5 := rfl
theorem kc_81 : kd 81 = 4 := rfl
theorem kc_82 : kd 82 = 4 := rfl
theorem kc_83 : kd 83 = 1 := rfl
theorem kc_84 : kd 84 = 2 := rfl
theorem kc_85 : kd 85 = 3 := rfl
theorem kc_86 : kd 86 = 4 := rfl
theorem kc_87 : kd 87 = 4 := rfl
theorem kc_88 : kd 88 = 4 := rfl
theorem kc_89 : kd 89 = 4 := rfl
theorem kc_90 : kd 90 = 5 := rfl
theorem kc_91 : kd 91 = 4 := rfl
theorem kc_92 : kd 92 = 4 := rfl
theorem kc_93 : kd 93 = 8 := rfl
theorem kc_94 : kd 94 = 1 := rfl
theorem kc_95 : kd 95 = 2 := rfl
theorem kc_96 : kd 96 = 3 := rfl
theorem kc_97 : kd 97 = 4 := rfl
theorem kc_98 : kd 98 = 4 := rfl
theorem kc_99 : kd 99 = 4 := rfl
theorem kc_100 : kd 100 = 4 := rfl
theorem kc_101 : kd 101 = 5 := rfl
theorem kc_102 : kd 102 = 4 := rfl
theorem kc_103 : kd 103 = 4 := rfl
theorem kc_104 : kd 104 = 1 := rfl
theorem kc_105 : kd 105 = 2 := rfl
theorem kc_106 : kd 106 = 3 := rfl
theorem kc_107 : kd 107 = 4 := rfl
theorem kc_108 : kd 108 = 4 := rfl
theorem kc_109 : kd 109 = 4 := rfl
theorem kc_110 : kd 110 = 4 := rfl
theorem kc_111 : kd 111 = 5 := rfl
theorem kc_112 : kd 112 = 4 := rfl
theorem kc_113 : kd 113 = 4 := rfl
theorem kc_114 : kd 114 = 9 := rfl
theorem kc_115 : kd 115 = 24 := rfl
theorem kc_116 : kd 116 = 10 := rfl
theorem kc_117 : kd 117 = 3 := rfl
theorem kc_118 : kd 118 = 4 := rfl
theorem kc_119 : kd 119 = 4 := rfl
theorem kc_120 : kd 120 = 4 := rfl
theorem kc_121 : kd 121 = 4 := rfl
theorem kc_122 : kd 122 = 11 := rfl
theorem kc_123 : kd 123 = 11 := rfl
theorem kc_124 : kd 124 = 12 := rfl
theorem kc_125 : kd 125 = 13 := rfl
theorem kc_126 : kd 126 = 14 := rfl
theorem kc_127 : kd 127 = 15 := rfl
theorem kc_128 : kd 128 = 15 := rfl
theorem kc_129 : kd 129 = 16 := rfl
theorem kc_130 : kd 130 = 17 := rfl
theorem kc_131 : kd 131 = 18 := rfl
theorem kc_132 : kd 132 = 19 := rfl
theorem kc_133 : kd 133 = 20 := rfl
theorem kc_134 : kd 134 = 21 := rfl
theorem kc_135 : kd 135 = 9 := rfl
theorem kc_136 : kd 136 = 12 := rfl
theorem kc_137 : kd 137 = 4 := rfl
theorem kc_138 : kd 138 = 4 := rfl
theorem kc_139 : kd 139 = 4 := rfl
theorem kc_140 : kd 140 = 15 := rfl
theorem kc_141 : kd 141 = 15 := rfl
theorem kc_142 : kd 142 = 22 := rfl
theorem kc_143 : kd 143 = 23 := rfl
/-! WHAT IS MEANT: points, families, the register -/
def gx (p : Nat) : Int32 := nI (20 * (p / 4)) - nI 30
def gy (p : Nat) : Int32 := nI (20 * (p % 4)) - nI 30
def gf (p : Nat) : Nat := 2 * ((p / 4 + p % 4) % 2) + p % 4 % 2
def grk (p : Nat) : Nat := 2 * (p / 4 / 2) + p % 4 / 2
def pt (f w : Nat) : Nat := 4 * ((f / 2 + f % 2) % 2 + 2 * (w / 2)) + (f % 2 + 2 * (w % 2))
def tn (p : Nat) : Nat := 4 * (3 - p % 4) + p / 4
def tf (f : Nat) : Nat := gf (tn (pt f 0))
def far (p : Nat) (x y : Int32) : Int32 := (gx p - x) * (gx p - x) + (gy p - y) * (gy p - y)
def pc1 (n : Nat) : Nat := n % 2 + n / 2 % 2 + n / 4 % 2 + n / 8 % 2
def rg (m s u : Nat) : Nat := u * 2 ^ m + s
def fam (m g h s u : Nat) : Nat := 2 * (pc1 (rg m s u &&& g) % 2) + pc1 (rg m s u &&& h) % 2
def nx (m s u : Nat) : Nat := rg m s u / 2
theorem gf_lt (p : Nat) : gf p < 4 := by unfold gf; omega
theorem pt_lt {f w : Nat} (hf : f < 4) (hw : w < 4) : pt f w < 16 := by unfold pt; omega
theorem tn_lt {p : Nat} (hp : p < 16) : tn p < 16 := by unfold tn; omega
theorem tf_lt (f : Nat) : tf f < 4 := gf_lt _
theorem fam_lt (m g h s u : Nat) : fam m g h s u < 4 := by unfold fam; omega
theorem p2_le {m : Nat} (h : m ≤ 3) : 2 ^ m ≤ 8 := Nat.pow_le_pow_right (by decide) h
theorem p2_pos (m : Nat) : 0 < 2 ^ m := Nat.pow_pos (by decide)
theorem rg_lt {m s u : Nat} (hu : u < 2) (hs : s < 2 ^ m) : rg m s u < 2 * 2 ^ m := by
  unfold rg
  rcases (show u = 0 ∨ u = 1 by omega) with rfl | rfl <;> omega
theorem rg_16 {m s u : Nat} (hm : m ≤ 3) (hu : u < 2) (hs : s < 2 ^ m) : rg m s u < 16 := by
  have h1 := rg_lt hu hs
  have h2 := p2_le hm
  omega
theorem nx_lt {m s u : Nat} (hu : u < 2) (hs : s < 2 ^ m) : nx m s u < 2 ^ m := by
  unfold nx
  have h1 := rg_lt hu hs
  omega
theorem and_16 {a g : Nat} (h : a < 16) : a &&& g < 16 := Nat.lt_of_le_of_lt Nat.and_le_left h
theorem q_min {a b : Nat} (ha : a < 2 ^ 31) (hb : b < 2 ^ 31) : (if nI b < nI a then nI b else nI a) = nI (min a b) := by
  by_cases h : b < a
  · rw [if_pos (nI_lt h ha), Nat.min_eq_right (Nat.le_of_lt h)]
  · rw [if_neg (nI_nlt (Nat.not_lt.mp h) hb), Nat.min_eq_left (Nat.not_lt.mp h)]
/-- the number that a switch asks for -/
theorem swc (x : Int32) (hi : Nat) (hh : hi < 1000 := by decide) : (x.toInt < 0 ∨ (hi : Int) < x.toInt) ∨ ∃ j, j < hi + 1 ∧ x = nI j := by
  by_cases h : x.toInt < 0 ∨ (hi : Int) < x.toInt
  · exact Or.inl h
  · right
    refine ⟨x.toInt.toNat, by omega, ?_⟩
    apply Int32.toInt_inj.mp
    rw [nI_toInt (by omega)]
    omega
/-- bits that are 1, as Integer.bitCount reckons them -/
def bcI (x : Int32) : Int32 :=
  let x1 := x - ((x.toUInt32 >>> ((nI 1).toUInt32 &&& Int32.toUInt32 31)).toInt32 &&& nI 1431655765)
  let x2 := (x1 &&& nI 858993459) + ((x1.toUInt32 >>> ((nI 2).toUInt32 &&& Int32.toUInt32 31)).toInt32 &&& nI 858993459)
  let x3 := (x2 + (x2.toUInt32 >>> ((nI 4).toUInt32 &&& Int32.toUInt32 31)).toInt32) &&& nI 252645135
  let x4 := x3 + (x3.toUInt32 >>> ((nI 8).toUInt32 &&& Int32.toUInt32 31)).toInt32
  let x5 := x4 + (x4.toUInt32 >>> ((nI 16).toUInt32 &&& Int32.toUInt32 31)).toInt32
  x5 &&& nI 63
theorem bcI_ok : ∀ n, n < 16 → bcI (nI n) = nI (pc1 n) := by decide +kernel
/-- THE CODE, as it lies in a cell -/
def CodeAt (σ : Mem) (cd m g h : Nat) : Prop := σ cd 0 = nI m ∧ σ cd 1 = nI g ∧ σ cd 2 = nI h ∧ (1 ≤ m ∧ m ≤ 3) ∧ g < 16 ∧ h < 16
/-- the point nearest to a place, of the first n -/
def pa (x y : Int32) : Nat → Nat
  | 0 => 0
  | n + 1 => if far n x y < far (pa x y n) x y then n else pa x y n
theorem pa_lt (x y : Int32) : ∀ n, n ≤ 16 → pa x y n < 16
  | 0, _ => by show 0 < 16; decide
  | n + 1, h => by
    unfold pa
    have := pa_lt x y n (by omega)
    split <;> omega
theorem pa_1 (x y : Int32) : pa x y 1 = 0 := by unfold pa; split <;> rfl
/-- the least distance of two families, of the first n pairs -/
def gpC (f o : Nat) : Nat → Int32
  | 0 => nI 99999999
  | n + 1 => if pt f (n / 4) = pt o (n % 4) then gpC f o n else
      (if far (pt f (n / 4)) (gx (pt o (n % 4))) (gy (pt o (n % 4))) < gpC f o n then far (pt f (n / 4)) (gx (pt o (n % 4))) (gy (pt o (n % 4))) else gpC f o n)
theorem gpC_s {f o a w : Nat} (hw : w < 4) : gpC f o (4 * a + w + 1) = if pt f a = pt o w then gpC f o (4 * a + w) else (if far (pt f a) (gx (pt o w)) (gy (pt o w)) < gpC f o (4 * a + w) then far (pt f a) (gx (pt o w)) (gy (pt o w)) else gpC f o (4 * a + w)) := by
  show (if pt f ((4 * a + w) / 4) = pt o ((4 * a + w) % 4) then _ else _) = _
  rw [show (4 * a + w) / 4 = a by omega, show (4 * a + w) % 4 = w by omega]
theorem pa_s (x y : Int32) (n : Nat) : pa x y (n + 1) = if far n x y < far (pa x y n) x y then n else pa x y n := rfl
def gap (f o : Nat) : Nat := (gpC f o 16).toNatClampNeg
theorem gap_ok : ∀ f, f < 4 → ∀ o, o < 4 → gpC f o 16 = nI (gap f o) ∧ gap f o ≤ 1600 := by decide +kernel

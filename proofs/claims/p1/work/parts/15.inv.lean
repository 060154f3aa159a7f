-- ===== what holds between instructions =====
def okt_0 (k : Nat) : Option (Int × Int) := match k with | 0 => some (0, 1600) | 12 => some (0, 100000) | _ => none
def okt_1 (k : Nat) : Option (Int × Int) := match k with | 0 => some (0, 6) | 1 => some (0, 60) | _ => none
def okt_4 (k : Nat) : Option (Int × Int) := some (0, 59)
def okt_6 (k : Nat) : Option (Int × Int) := some (0, 60)
def okt_7 (k : Nat) : Option (Int × Int) := some (0, 2147483647)
def okt_13 (k : Nat) : Option (Int × Int) := match k with | 0 => some (0, 6) | 1 => some (0, 60) | _ => none
def okt_16 (k : Nat) : Option (Int × Int) := some (0, 59)
def okt_18 (k : Nat) : Option (Int × Int) := some (0, 60)
def okt_19 (k : Nat) : Option (Int × Int) := some (0, 2147483647)
def okt_25 (k : Nat) : Option (Int × Int) := match k with | 2 => some (0, 1000000) | _ => none
def okt_33 (k : Nat) : Option (Int × Int) := match k with | 5 => some (0, 4) | _ => none
def okt_34 (k : Nat) : Option (Int × Int) := match k with | 1 => some (0, 1600) | 2 => some (0, 1600) | 3 => some (0, 1600) | _ => none
def okt_36 (k : Nat) : Option (Int × Int) := match k with | 3 => some (0, 2147483647) | 7 => some (0, 4) | _ => none
def okt_43 (k : Nat) : Option (Int × Int) := match k with | 3 => some (0, 270) | 4 => some (0, 30) | _ => none
def okt_47 (k : Nat) : Option (Int × Int) := some (0, 59)
def okt_48 (k : Nat) : Option (Int × Int) := match k with | 1 => some (0, 40) | 2 => some (0, 40) | 3 => some (0, 40) | _ => none
def okt_182 (k : Nat) : Option (Int × Int) := match k with | 1 => some (0, 364) | 7 => some (0, 364) | _ => none
def okt_183 (k : Nat) : Option (Int × Int) := some (0, 1023)
def okt_185 (k : Nat) : Option (Int × Int) := some (0, 1023)
def okt_189 (k : Nat) : Option (Int × Int) := match k with | 8 => some (0, 30) | 10 => some (0, 15) | _ => none
def okt_190 (k : Nat) : Option (Int × Int) := match k with | 3 => some (0, 2147483647) | 7 => some (0, 4) | _ => none
def okt_197 (k : Nat) : Option (Int × Int) := match k with | 2 => some (0, 1000000) | _ => none
def okt_213 (k : Nat) : Option (Int × Int) := some (0, 14)
def okt_St (k : Nat) : Option (Int × Int) := match k with | 1 => some (0, 24) | 3 => some (0, 42) | _ => none
def okt (a k : Nat) : Option (Int × Int) := if a < 256 then if a < 128 then if a < 64 then if a < 32 then if a < 16 then if a < 8 then if a < 4 then if a < 2 then if a < 1 then okt_0 k else okt_1 k else none else if a < 6 then if a < 5 then okt_4 k else none else if a < 7 then okt_6 k else okt_7 k else if a < 12 then none else if a < 14 then if a < 13 then none else okt_13 k else none else if a < 24 then if a < 20 then if a < 18 then if a < 17 then okt_16 k else none else if a < 19 then okt_18 k else okt_19 k else none else if a < 28 then if a < 26 then if a < 25 then none else okt_25 k else if a < 27 then none else okt_St k else if a < 30 then none else if a < 31 then okt_St k else none else if a < 48 then if a < 40 then if a < 36 then if a < 34 then if a < 33 then none else okt_33 k else if a < 35 then okt_34 k else none else if a < 38 then if a < 37 then okt_36 k else none else none else if a < 44 then if a < 42 then none else if a < 43 then none else okt_43 k else if a < 46 then none else if a < 47 then none else okt_47 k else if a < 56 then if a < 52 then if a < 50 then if a < 49 then okt_48 k else none else if a < 51 then okt_St k else none else if a < 54 then if a < 53 then none else okt_St k else none else if a < 60 then if a < 58 then if a < 57 then okt_St k else none else if a < 59 then none else okt_St k else if a < 62 then none else if a < 63 then okt_St k else none else if a < 96 then if a < 80 then if a < 72 then if a < 68 then if a < 66 then if a < 65 then none else okt_St k else none else if a < 70 then if a < 69 then okt_St k else none else if a < 71 then none else okt_St k else if a < 76 then if a < 74 then none else if a < 75 then okt_St k else none else if a < 78 then if a < 77 then none else okt_St k else none else if a < 88 then if a < 84 then if a < 82 then if a < 81 then okt_St k else none else if a < 83 then none else okt_St k else if a < 86 then none else if a < 87 then okt_St k else none else if a < 92 then if a < 90 then if a < 89 then none else okt_St k else none else if a < 94 then if a < 93 then okt_St k else none else if a < 95 then none else okt_St k else if a < 112 then if a < 104 then if a < 100 then if a < 98 then none else if a < 99 then okt_St k else none else if a < 102 then if a < 101 then none else okt_St k else none else if a < 108 then if a < 106 then if a < 105 then okt_St k else none else if a < 107 then none else okt_St k else if a < 110 then none else if a < 111 then okt_St k else none else if a < 120 then if a < 116 then if a < 114 then if a < 113 then none else okt_St k else none else if a < 118 then if a < 117 then okt_St k else none else if a < 119 then none else okt_St k else if a < 124 then if a < 122 then none else if a < 123 then okt_St k else none else if a < 126 then if a < 125 then none else okt_St k else none else if a < 192 then if a < 160 then if a < 144 then if a < 136 then if a < 132 then if a < 130 then if a < 129 then okt_St k else none else if a < 131 then none else okt_St k else if a < 134 then none else if a < 135 then okt_St k else none else if a < 140 then if a < 138 then if a < 137 then none else okt_St k else none else if a < 142 then if a < 141 then okt_St k else none else if a < 143 then none else okt_St k else if a < 152 then if a < 148 then if a < 146 then none else if a < 147 then okt_St k else none else if a < 150 then if a < 149 then none else okt_St k else none else if a < 156 then if a < 154 then if a < 153 then okt_St k else none else if a < 155 then none else okt_St k else if a < 158 then none else if a < 159 then okt_St k else none else if a < 176 then if a < 168 then if a < 164 then if a < 162 then if a < 161 then none else okt_St k else none else if a < 166 then if a < 165 then okt_St k else none else if a < 167 then none else okt_St k else if a < 172 then if a < 170 then none else if a < 171 then okt_St k else none else if a < 174 then none else if a < 175 then okt_St k else none else if a < 184 then if a < 180 then none else if a < 182 then none else if a < 183 then okt_182 k else okt_183 k else if a < 188 then if a < 186 then if a < 185 then none else okt_185 k else none else if a < 190 then if a < 189 then none else okt_189 k else if a < 191 then okt_190 k else none else if a < 224 then if a < 208 then if a < 200 then if a < 196 then none else if a < 198 then if a < 197 then none else okt_197 k else if a < 199 then none else okt_St k else if a < 204 then if a < 202 then none else if a < 203 then okt_St k else none else if a < 206 then if a < 205 then none else okt_St k else none else if a < 216 then if a < 212 then none else if a < 214 then if a < 213 then none else okt_213 k else if a < 215 then none else okt_St k else if a < 220 then if a < 218 then none else if a < 219 then okt_St k else none else if a < 222 then if a < 221 then none else okt_St k else none else none else none
def okc (a k : Nat) (z : Int) : Prop := match okt a k with | none => True | some p => p.1 ≤ z ∧ z ≤ p.2
def cI (h : sw_H) : Prop := ∀ a k, okc a k (h a k)
/-- the class's own ties between places: of the CODES' items, of the time line, of both CODES -/
def Rg (i : Nat) (h : sw_H) : Prop := match i with
  | 1 => ∀ c, c = 1 ∨ c = 13 → ∀ i, (h (c + 1) i = 0 → 0 ≤ h (c + 2) i ∧ h (c + 2) i ≤ 14) ∧ (h (c + 1) i = 2 → 0 ≤ h (c + 2) i ∧ h (c + 2) i ≤ 5)
  | 2 => h 48 2 ≤ h 48 3
  | 4 => (h 0 1 = 1 ∧ h 0 2 = 13) ∨ (h 0 1 = 13 ∧ h 0 2 = 1)
  | _ => True
/-- to which tie a place belongs -/
def grp (a k : Nat) : Nat := if a = 2 ∨ a = 3 ∨ a = 14 ∨ a = 15 then 1 else if a = 48 ∧ (k = 2 ∨ k = 3) then 2 else if a = 0 ∧ (k = 1 ∨ k = 2) then 4 else 0
def prZ (a k : Nat) : Bool := decide (224 ≤ a) || (a == 0 && k == 12)
def prY (a k : Nat) : Bool := decide (224 ≤ a) || (a == 0 && (k == 1 || k == 2))
def pr1 (a k : Nat) : Bool := (decide (224 ≤ a) || (a == 0 && (k == 12 || k == 1 || k == 2)))
def pr0 (a k : Nat) : Bool := pr1 a k || ((a == 25 || a == 197) && (k == 0 || k == 1)) || (a == 33 && k == 9) || ((a == 43 || a == 36 || a == 190) && k == 0)
def pr2 (a k : Nat) : Bool := pr1 a k || (a == 33 && k == 9)
def prQ (a k : Nat) : Bool := pr1 a k || (a == 33 && k == 9) || ((a == 1 || a == 13) && k == 0)
def prR (a k : Nat) : Bool := pr1 a k || ((a == 25 || a == 197) && (k == 0 || k == 1)) || (a == 33 && k == 9) || ((a == 43 || a == 36 || a == 190) && k == 0) || ((a == 1 || a == 13) && k == 0)
def prX (a k : Nat) : Bool := pr1 a k || ((a == 25 || a == 197) && (k == 0 || k == 1)) || (a == 33 && k == 9) || ((a == 43 || a == 36 || a == 190) && k == 0) || ((a == 1 || a == 13) && (k == 0 || k == 1))
def prC (a k : Nat) : Bool := !(a == 34 || a == 35)
def prT (a k : Nat) : Bool := !(decide (36 ≤ a ∧ a ≤ 42) || decide (190 ≤ a ∧ a ≤ 196)) || ((a == 36 || a == 190) && k == 0)
def prU (a k : Nat) : Bool := !(decide (36 ≤ a ∧ a ≤ 42) || decide (190 ≤ a ∧ a ≤ 196))
def prS (a k : Nat) : Bool := !(decide (27 ≤ a ∧ a ≤ 32) || decide (50 ≤ a ∧ a ≤ 176) || decide (199 ≤ a ∧ a ≤ 223))
def prD (a k : Nat) : Bool := !(decide (25 ≤ a ∧ a ≤ 32) || decide (50 ≤ a ∧ a ≤ 176) || decide (197 ≤ a ∧ a ≤ 223))
def prE (a k : Nat) : Bool := !(decide (25 ≤ a ∧ a ≤ 32) || decide (50 ≤ a ∧ a ≤ 176) || decide (197 ≤ a ∧ a ≤ 223)) || ((a == 25 || a == 197) && (k == 0 || k == 1))
def prG (a k : Nat) : Bool := !(decide (25 ≤ a ∧ a ≤ 32) || decide (36 ≤ a ∧ a ≤ 42) || decide (50 ≤ a ∧ a ≤ 176) || decide (189 ≤ a ∧ a ≤ 223))
def prH (a k : Nat) : Bool := !(decide (182 ≤ a ∧ a ≤ 188))
def prI (a k : Nat) : Bool := !(decide (182 ≤ a ∧ a ≤ 188)) || (a == 182 && (k == 7 || k == 8))
def prK (a k : Nat) : Bool := !(decide (177 ≤ a ∧ a ≤ 181))
def prL (a k : Nat) : Bool := !(a == 48 || decide (27 ≤ a ∧ a ≤ 32) || decide (50 ≤ a ∧ a ≤ 176) || decide (199 ≤ a ∧ a ≤ 223))
def prF (a k : Nat) : Bool := !(decide (34 ≤ a ∧ a ≤ 35) || decide (43 ≤ a ∧ a ≤ 45)) || (a == 43 && k == 0)
theorem sb_prZ_prZ : ∀ a k, prZ a k = true → prZ a k = true := fun _ _ q => q
theorem sb_prZ_pr1 : ∀ a k, prZ a k = true → pr1 a k = true := by
  intro a k h
  simp only [prZ, prY, pr1, pr0, pr2, prQ, prR, prX, prC, prT, prU, prS, prD, prE, prG, prH, prI, prK, prL, prF, Bool.or_eq_true, Bool.and_eq_true, beq_iff_eq, decide_eq_true_eq, Bool.not_eq_true', Bool.or_eq_false_iff, beq_eq_false_iff_ne, decide_eq_false_iff_not, ne_eq] at h ⊢
  omega
theorem sb_prZ_pr0 : ∀ a k, prZ a k = true → pr0 a k = true := by
  intro a k h
  simp only [prZ, prY, pr1, pr0, pr2, prQ, prR, prX, prC, prT, prU, prS, prD, prE, prG, prH, prI, prK, prL, prF, Bool.or_eq_true, Bool.and_eq_true, beq_iff_eq, decide_eq_true_eq, Bool.not_eq_true', Bool.or_eq_false_iff, beq_eq_false_iff_ne, decide_eq_false_iff_not, ne_eq] at h ⊢
  omega
theorem sb_prZ_pr2 : ∀ a k, prZ a k = true → pr2 a k = true := by
  intro a k h
  simp only [prZ, prY, pr1, pr0, pr2, prQ, prR, prX, prC, prT, prU, prS, prD, prE, prG, prH, prI, prK, prL, prF, Bool.or_eq_true, Bool.and_eq_true, beq_iff_eq, decide_eq_true_eq, Bool.not_eq_true', Bool.or_eq_false_iff, beq_eq_false_iff_ne, decide_eq_false_iff_not, ne_eq] at h ⊢
  omega
theorem sb_prZ_prQ : ∀ a k, prZ a k = true → prQ a k = true := by
  intro a k h
  simp only [prZ, prY, pr1, pr0, pr2, prQ, prR, prX, prC, prT, prU, prS, prD, prE, prG, prH, prI, prK, prL, prF, Bool.or_eq_true, Bool.and_eq_true, beq_iff_eq, decide_eq_true_eq, Bool.not_eq_true', Bool.or_eq_false_iff, beq_eq_false_iff_ne, decide_eq_false_iff_not, ne_eq] at h ⊢
  omega
theorem sb_prZ_prR : ∀ a k, prZ a k = true → prR a k = true := by
  intro a k h
  simp only [prZ, prY, pr1, pr0, pr2, prQ, prR, prX, prC, prT, prU, prS, prD, prE, prG, prH, prI, prK, prL, prF, Bool.or_eq_true, Bool.and_eq_true, beq_iff_eq, decide_eq_true_eq, Bool.not_eq_true', Bool.or_eq_false_iff, beq_eq_false_iff_ne, decide_eq_false_iff_not, ne_eq] at h ⊢
  omega
theorem sb_prZ_prX : ∀ a k, prZ a k = true → prX a k = true := by
  intro a k h
  simp only [prZ, prY, pr1, pr0, pr2, prQ, prR, prX, prC, prT, prU, prS, prD, prE, prG, prH, prI, prK, prL, prF, Bool.or_eq_true, Bool.and_eq_true, beq_iff_eq, decide_eq_true_eq, Bool.not_eq_true', Bool.or_eq_false_iff, beq_eq_false_iff_ne, decide_eq_false_iff_not, ne_eq] at h ⊢
  omega
theorem sb_prZ_prC : ∀ a k, prZ a k = true → prC a k = true := by
  intro a k h
  simp only [prZ, prY, pr1, pr0, pr2, prQ, prR, prX, prC, prT, prU, prS, prD, prE, prG, prH, prI, prK, prL, prF, Bool.or_eq_true, Bool.and_eq_true, beq_iff_eq, decide_eq_true_eq, Bool.not_eq_true', Bool.or_eq_false_iff, beq_eq_false_iff_ne, decide_eq_false_iff_not, ne_eq] at h ⊢
  omega
theorem sb_prZ_prT : ∀ a k, prZ a k = true → prT a k = true := by
  intro a k h
  simp only [prZ, prY, pr1, pr0, pr2, prQ, prR, prX, prC, prT, prU, prS, prD, prE, prG, prH, prI, prK, prL, prF, Bool.or_eq_true, Bool.and_eq_true, beq_iff_eq, decide_eq_true_eq, Bool.not_eq_true', Bool.or_eq_false_iff, beq_eq_false_iff_ne, decide_eq_false_iff_not, ne_eq] at h ⊢
  omega
theorem sb_prZ_prU : ∀ a k, prZ a k = true → prU a k = true := by
  intro a k h
  simp only [prZ, prY, pr1, pr0, pr2, prQ, prR, prX, prC, prT, prU, prS, prD, prE, prG, prH, prI, prK, prL, prF, Bool.or_eq_true, Bool.and_eq_true, beq_iff_eq, decide_eq_true_eq, Bool.not_eq_true', Bool.or_eq_false_iff, beq_eq_false_iff_ne, decide_eq_false_iff_not, ne_eq] at h ⊢
  omega
theorem sb_prZ_prS : ∀ a k, prZ a k = true → prS a k = true := by
  intro a k h
  simp only [prZ, prY, pr1, pr0, pr2, prQ, prR, prX, prC, prT, prU, prS, prD, prE, prG, prH, prI, prK, prL, prF, Bool.or_eq_true, Bool.and_eq_true, beq_iff_eq, decide_eq_true_eq, Bool.not_eq_true', Bool.or_eq_false_iff, beq_eq_false_iff_ne, decide_eq_false_iff_not, ne_eq] at h ⊢
  omega
theorem sb_prZ_prD : ∀ a k, prZ a k = true → prD a k = true := by
  intro a k h
  simp only [prZ, prY, pr1, pr0, pr2, prQ, prR, prX, prC, prT, prU, prS, prD, prE, prG, prH, prI, prK, prL, prF, Bool.or_eq_true, Bool.and_eq_true, beq_iff_eq, decide_eq_true_eq, Bool.not_eq_true', Bool.or_eq_false_iff, beq_eq_false_iff_ne, decide_eq_false_iff_not, ne_eq] at h ⊢
  omega
theorem sb_prZ_prE : ∀ a k, prZ a k = true → prE a k = true := by
  intro a k h
  simp only [prZ, prY, pr1, pr0, pr2, prQ, prR, prX, prC, prT, prU, prS, prD, prE, prG, prH, prI, prK, prL, prF, Bool.or_eq_true, Bool.and_eq_true, beq_iff_eq, decide_eq_true_eq, Bool.not_eq_true', Bool.or_eq_false_iff, beq_eq_false_iff_ne, decide_eq_false_iff_not, ne_eq] at h ⊢
  omega
theorem sb_prZ_prG : ∀ a k, prZ a k = true → prG a k = true := by
  intro a k h
  simp only [prZ, prY, pr1, pr0, pr2, prQ, prR, prX, prC, prT, prU, prS, prD, prE, prG, prH, prI, prK, prL, prF, Bool.or_eq_true, Bool.and_eq_true, beq_iff_eq, decide_eq_true_eq, Bool.not_eq_true', Bool.or_eq_false_iff, beq_eq_false_iff_ne, decide_eq_false_iff_not, ne_eq] at h ⊢
  omega
theorem sb_prZ_prH : ∀ a k, prZ a k = true → prH a k = true := by
  intro a k h
  simp only [prZ, prY, pr1, pr0, pr2, prQ, prR, prX, prC, prT, prU, prS, prD, prE, prG, prH, prI, prK, prL, prF, Bool.or_eq_true, Bool.and_eq_true, beq_iff_eq, decide_eq_true_eq, Bool.not_eq_true', Bool.or_eq_false_iff, beq_eq_false_iff_ne, decide_eq_false_iff_not, ne_eq] at h ⊢
  omega
theorem sb_prZ_prI : ∀ a k, prZ a k = true → prI a k = true := by
  intro a k h
  simp only [prZ, prY, pr1, pr0, pr2, prQ, prR, prX, prC, prT, prU, prS, prD, prE, prG, prH, prI, prK, prL, prF, Bool.or_eq_true, Bool.and_eq_true, beq_iff_eq, decide_eq_true_eq, Bool.not_eq_true', Bool.or_eq_false_iff, beq_eq_false_iff_ne, decide_eq_false_iff_not, ne_eq] at h ⊢
  omega
theorem sb_prZ_prK : ∀ a k, prZ a k = true → prK a k = true := by
  intro a k h
  simp only [prZ, prY, pr1, pr0, pr2, prQ, prR, prX, prC, prT, prU, prS, prD, prE, prG, prH, prI, prK, prL, prF, Bool.or_eq_true, Bool.and_eq_true, beq_iff_eq, decide_eq_true_eq, Bool.not_eq_true', Bool.or_eq_false_iff, beq_eq_false_iff_ne, decide_eq_false_iff_not, ne_eq] at h ⊢
  omega
theorem sb_prZ_prL : ∀ a k, prZ a k = true → prL a k = true := by
  intro a k h
  simp only [prZ, prY, pr1, pr0, pr2, prQ, prR, prX, prC, prT, prU, prS, prD, prE, prG, prH, prI, prK, prL, prF, Bool.or_eq_true, Bool.and_eq_true, beq_iff_eq, decide_eq_true_eq, Bool.not_eq_true', Bool.or_eq_false_iff, beq_eq_false_iff_ne, decide_eq_false_iff_not, ne_eq] at h ⊢
  omega
theorem sb_prZ_prF : ∀ a k, prZ a k = true → prF a k = true := by
  intro a k h
  simp only [prZ, prY, pr1, pr0, pr2, prQ, prR, prX, prC, prT, prU, prS, prD, prE, prG, prH, prI, prK, prL, prF, Bool.or_eq_true, Bool.and_eq_true, beq_iff_eq, decide_eq_true_eq, Bool.not_eq_true', Bool.or_eq_false_iff, beq_eq_false_iff_ne, decide_eq_false_iff_not, ne_eq] at h ⊢
  omega
theorem sb_prY_prY : ∀ a k, prY a k = true → prY a k = true := fun _ _ q => q
theorem sb_prY_pr1 : ∀ a k, prY a k = true → pr1 a k = true := by
  intro a k h
  simp only [prZ, prY, pr1, pr0, pr2, prQ, prR, prX, prC, prT, prU, prS, prD, prE, prG, prH, prI, prK, prL, prF, Bool.or_eq_true, Bool.and_eq_true, beq_iff_eq, decide_eq_true_eq, Bool.not_eq_true', Bool.or_eq_false_iff, beq_eq_false_iff_ne, decide_eq_false_iff_not, ne_eq] at h ⊢
  omega
theorem sb_prY_pr0 : ∀ a k, prY a k = true → pr0 a k = true := by
  intro a k h
  simp only [prZ, prY, pr1, pr0, pr2, prQ, prR, prX, prC, prT, prU, prS, prD, prE, prG, prH, prI, prK, prL, prF, Bool.or_eq_true, Bool.and_eq_true, beq_iff_eq, decide_eq_true_eq, Bool.not_eq_true', Bool.or_eq_false_iff, beq_eq_false_iff_ne, decide_eq_false_iff_not, ne_eq] at h ⊢
  omega
theorem sb_prY_pr2 : ∀ a k, prY a k = true → pr2 a k = true := by
  intro a k h
  simp only [prZ, prY, pr1, pr0, pr2, prQ, prR, prX, prC, prT, prU, prS, prD, prE, prG, prH, prI, prK, prL, prF, Bool.or_eq_true, Bool.and_eq_true, beq_iff_eq, decide_eq_true_eq, Bool.not_eq_true', Bool.or_eq_false_iff, beq_eq_false_iff_ne, decide_eq_false_iff_not, ne_eq] at h ⊢
  omega
theorem sb_prY_prQ : ∀ a k, prY a k = true → prQ a k = true := by
  intro a k h
  simp only [prZ, prY, pr1, pr0, pr2, prQ, prR, prX, prC, prT, prU, prS, prD, prE, prG, prH, prI, prK, prL, prF, Bool.or_eq_true, Bool.and_eq_true, beq_iff_eq, decide_eq_true_eq, Bool.not_eq_true', Bool.or_eq_false_iff, beq_eq_false_iff_ne, decide_eq_false_iff_not, ne_eq] at h ⊢
  omega
theorem sb_prY_prR : ∀ a k, prY a k = true → prR a k = true := by
  intro a k h
  simp only [prZ, prY, pr1, pr0, pr2, prQ, prR, prX, prC, prT, prU, prS, prD, prE, prG, prH, prI, prK, prL, prF, Bool.or_eq_true, Bool.and_eq_true, beq_iff_eq, decide_eq_true_eq, Bool.not_eq_true', Bool.or_eq_false_iff, beq_eq_false_iff_ne, decide_eq_false_iff_not, ne_eq] at h ⊢
  omega
theorem sb_prY_prX : ∀ a k, prY a k = true → prX a k = true := by
  intro a k h
  simp only [prZ, prY, pr1, pr0, pr2, prQ, prR, prX, prC, prT, prU, prS, prD, prE, prG, prH, prI, prK, prL, prF, Bool.or_eq_true, Bool.and_eq_true, beq_iff_eq, decide_eq_true_eq, Bool.not_eq_true', Bool.or_eq_false_iff, beq_eq_false_iff_ne, decide_eq_false_iff_not, ne_eq] at h ⊢
  omega
theorem sb_prY_prC : ∀ a k, prY a k = true → prC a k = true := by
  intro a k h
  simp only [prZ, prY, pr1, pr0, pr2, prQ, prR, prX, prC, prT, prU, prS, prD, prE, prG, prH, prI, prK, prL, prF, Bool.or_eq_true, Bool.and_eq_true, beq_iff_eq, decide_eq_true_eq, Bool.not_eq_true', Bool.or_eq_false_iff, beq_eq_false_iff_ne, decide_eq_false_iff_not, ne_eq] at h ⊢
  omega
theorem sb_prY_prT : ∀ a k, prY a k = true → prT a k = true := by
  intro a k h
  simp only [prZ, prY, pr1, pr0, pr2, prQ, prR, prX, prC, prT, prU, prS, prD, prE, prG, prH, prI, prK, prL, prF, Bool.or_eq_true, Bool.and_eq_true, beq_iff_eq, decide_eq_true_eq, Bool.not_eq_true', Bool.or_eq_false_iff, beq_eq_false_iff_ne, decide_eq_false_iff_not, ne_eq] at h ⊢
  omega
theorem sb_prY_prU : ∀ a k, prY a k = true → prU a k = true := by
  intro a k h
  simp only [prZ, prY, pr1, pr0, pr2, prQ, prR, prX, prC, prT, prU, prS, prD, prE, prG, prH, prI, prK, prL, prF, Bool.or_eq_true, Bool.and_eq_true, beq_iff_eq, decide_eq_true_eq, Bool.not_eq_true', Bool.or_eq_false_iff, beq_eq_false_iff_ne, decide_eq_false_iff_not, ne_eq] at h ⊢
  omega
theorem sb_prY_prS : ∀ a k, prY a k = true → prS a k = true := by
  intro a k h
  simp only [prZ, prY, pr1, pr0, pr2, prQ, prR, prX, prC, prT, prU, prS, prD, prE, prG, prH, prI, prK, prL, prF, Bool.or_eq_true, Bool.and_eq_true, beq_iff_eq, decide_eq_true_eq, Bool.not_eq_true', Bool.or_eq_false_iff, beq_eq_false_iff_ne, decide_eq_false_iff_not, ne_eq] at h ⊢
  omega
theorem sb_prY_prD : ∀ a k, prY a k = true → prD a k = true := by
  intro a k h
  simp only [prZ, prY, pr1, pr0, pr2, prQ, prR, prX, prC, prT, prU, prS, prD, prE, prG, prH, prI, prK, prL, prF, Bool.or_eq_true, Bool.and_eq_true, beq_iff_eq, decide_eq_true_eq, Bool.not_eq_true', Bool.or_eq_false_iff, beq_eq_false_iff_ne, decide_eq_false_iff_not, ne_eq] at h ⊢
  omega
theorem sb_prY_prE : ∀ a k, prY a k = true → prE a k = true := by
  intro a k h
  simp only [prZ, prY, pr1, pr0, pr2, prQ, prR, prX, prC, prT, prU, prS, prD, prE, prG, prH, prI, prK, prL, prF, Bool.or_eq_true, Bool.and_eq_true, beq_iff_eq, decide_eq_true_eq, Bool.not_eq_true', Bool.or_eq_false_iff, beq_eq_false_iff_ne, decide_eq_false_iff_not, ne_eq] at h ⊢
  omega
theorem sb_prY_prG : ∀ a k, prY a k = true → prG a k = true := by
  intro a k h
  simp only [prZ, prY, pr1, pr0, pr2, prQ, prR, prX, prC, prT, prU, prS, prD, prE, prG, prH, prI, prK, prL, prF, Bool.or_eq_true, Bool.and_eq_true, beq_iff_eq, decide_eq_true_eq, Bool.not_eq_true', Bool.or_eq_false_iff, beq_eq_false_iff_ne, decide_eq_false_iff_not, ne_eq] at h ⊢
  omega
theorem sb_prY_prH : ∀ a k, prY a k = true → prH a k = true := by
  intro a k h
  simp only [prZ, prY, pr1, pr0, pr2, prQ, prR, prX, prC, prT, prU, prS, prD, prE, prG, prH, prI, prK, prL, prF, Bool.or_eq_true, Bool.and_eq_true, beq_iff_eq, decide_eq_true_eq, Bool.not_eq_true', Bool.or_eq_false_iff, beq_eq_false_iff_ne, decide_eq_false_iff_not, ne_eq] at h ⊢
  omega
theorem sb_prY_prI : ∀ a k, prY a k = true → prI a k = true := by
  intro a k h
  simp only [prZ, prY, pr1, pr0, pr2, prQ, prR, prX, prC, prT, prU, prS, prD, prE, prG, prH, prI, prK, prL, prF, Bool.or_eq_true, Bool.and_eq_true, beq_iff_eq, decide_eq_true_eq, Bool.not_eq_true', Bool.or_eq_false_iff, beq_eq_false_iff_ne, decide_eq_false_iff_not, ne_eq] at h ⊢
  omega
theorem sb_prY_prK : ∀ a k, prY a k = true → prK a k = true := by
  intro a k h
  simp only [prZ, prY, pr1, pr0, pr2, prQ, prR, prX, prC, prT, prU, prS, prD, prE, prG, prH, prI, prK, prL, prF, Bool.or_eq_true, Bool.and_eq_true, beq_iff_eq, decide_eq_true_eq, Bool.not_eq_true', Bool.or_eq_false_iff, beq_eq_false_iff_ne, decide_eq_false_iff_not, ne_eq] at h ⊢
  omega
theorem sb_prY_prL : ∀ a k, prY a k = true → prL a k = true := by
  intro a k h
  simp only [prZ, prY, pr1, pr0, pr2, prQ, prR, prX, prC, prT, prU, prS, prD, prE, prG, prH, prI, prK, prL, prF, Bool.or_eq_true, Bool.and_eq_true, beq_iff_eq, decide_eq_true_eq, Bool.not_eq_true', Bool.or_eq_false_iff, beq_eq_false_iff_ne, decide_eq_false_iff_not, ne_eq] at h ⊢
  omega
theorem sb_prY_prF : ∀ a k, prY a k = true → prF a k = true := by
  intro a k h
  simp only [prZ, prY, pr1, pr0, pr2, prQ, prR, prX, prC, prT, prU, prS, prD, prE, prG, prH, prI, prK, prL, prF, Bool.or_eq_true, Bool.and_eq_true, beq_iff_eq, decide_eq_true_eq, Bool.not_eq_true', Bool.or_eq_false_iff, beq_eq_false_iff_ne, decide_eq_false_iff_not, ne_eq] at h ⊢
  omega
theorem sb_pr1_pr1 : ∀ a k, pr1 a k = true → pr1 a k = true := fun _ _ q => q
theorem sb_pr1_pr0 : ∀ a k, pr1 a k = true → pr0 a k = true := by
  intro a k h
  simp only [prZ, prY, pr1, pr0, pr2, prQ, prR, prX, prC, prT, prU, prS, prD, prE, prG, prH, prI, prK, prL, prF, Bool.or_eq_true, Bool.and_eq_true, beq_iff_eq, decide_eq_true_eq, Bool.not_eq_true', Bool.or_eq_false_iff, beq_eq_false_iff_ne, decide_eq_false_iff_not, ne_eq] at h ⊢
  omega
theorem sb_pr1_pr2 : ∀ a k, pr1 a k = true → pr2 a k = true := by
  intro a k h
  simp only [prZ, prY, pr1, pr0, pr2, prQ, prR, prX, prC, prT, prU, prS, prD, prE, prG, prH, prI, prK, prL, prF, Bool.or_eq_true, Bool.and_eq_true, beq_iff_eq, decide_eq_true_eq, Bool.not_eq_true', Bool.or_eq_false_iff, beq_eq_false_iff_ne, decide_eq_false_iff_not, ne_eq] at h ⊢
  omega
theorem sb_pr1_prQ : ∀ a k, pr1 a k = true → prQ a k = true := by
  intro a k h
  simp only [prZ, prY, pr1, pr0, pr2, prQ, prR, prX, prC, prT, prU, prS, prD, prE, prG, prH, prI, prK, prL, prF, Bool.or_eq_true, Bool.and_eq_true, beq_iff_eq, decide_eq_true_eq, Bool.not_eq_true', Bool.or_eq_false_iff, beq_eq_false_iff_ne, decide_eq_false_iff_not, ne_eq] at h ⊢
  omega
theorem sb_pr1_prR : ∀ a k, pr1 a k = true → prR a k = true := by
  intro a k h
  simp only [prZ, prY, pr1, pr0, pr2, prQ, prR, prX, prC, prT, prU, prS, prD, prE, prG, prH, prI, prK, prL, prF, Bool.or_eq_true, Bool.and_eq_true, beq_iff_eq, decide_eq_true_eq, Bool.not_eq_true', Bool.or_eq_false_iff, beq_eq_false_iff_ne, decide_eq_false_iff_not, ne_eq] at h ⊢
  omega
theorem sb_pr1_prX : ∀ a k, pr1 a k = true → prX a k = true := by
  intro a k h
  simp only [prZ, prY, pr1, pr0, pr2, prQ, prR, prX, prC, prT, prU, prS, prD, prE, prG, prH, prI, prK, prL, prF, Bool.or_eq_true, Bool.and_eq_true, beq_iff_eq, decide_eq_true_eq, Bool.not_eq_true', Bool.or_eq_false_iff, beq_eq_false_iff_ne, decide_eq_false_iff_not, ne_eq] at h ⊢
  omega
theorem sb_pr1_prC : ∀ a k, pr1 a k = true → prC a k = true := by
  intro a k h
  simp only [prZ, prY, pr1, pr0, pr2, prQ, prR, prX, prC, prT, prU, prS, prD, prE, prG, prH, prI, prK, prL, prF, Bool.or_eq_true, Bool.and_eq_true, beq_iff_eq, decide_eq_true_eq, Bool.not_eq_true', Bool.or_eq_false_iff, beq_eq_false_iff_ne, decide_eq_false_iff_not, ne_eq] at h ⊢
  omega
theorem sb_pr1_prT : ∀ a k, pr1 a k = true → prT a k = true := by
  intro a k h
  simp only [prZ, prY, pr1, pr0, pr2, prQ, prR, prX, prC, prT, prU, prS, prD, prE, prG, prH, prI, prK, prL, prF, Bool.or_eq_true, Bool.and_eq_true, beq_iff_eq, decide_eq_true_eq, Bool.not_eq_true', Bool.or_eq_false_iff, beq_eq_false_iff_ne, decide_eq_false_iff_not, ne_eq] at h ⊢
  omega
theorem sb_pr1_prU : ∀ a k, pr1 a k = true → prU a k = true := by
  intro a k h
  simp only [prZ, prY, pr1, pr0, pr2, prQ, prR, prX, prC, prT, prU, prS, prD, prE, prG, prH, prI, prK, prL, prF, Bool.or_eq_true, Bool.and_eq_true, beq_iff_eq, decide_eq_true_eq, Bool.not_eq_true', Bool.or_eq_false_iff, beq_eq_false_iff_ne, decide_eq_false_iff_not, ne_eq] at h ⊢
  omega
theorem sb_pr1_prS : ∀ a k, pr1 a k = true → prS a k = true := by
  intro a k h
  simp only [prZ, prY, pr1, pr0, pr2, prQ, prR, prX, prC, prT, prU, prS, prD, prE, prG, prH, prI, prK, prL, prF, Bool.or_eq_true, Bool.and_eq_true, beq_iff_eq, decide_eq_true_eq, Bool.not_eq_true', Bool.or_eq_false_iff, beq_eq_false_iff_ne, decide_eq_false_iff_not, ne_eq] at h ⊢
  omega
theorem sb_pr1_prD : ∀ a k, pr1 a k = true → prD a k = true := by
  intro a k h
  simp only [prZ, prY, pr1, pr0, pr2, prQ, prR, prX, prC, prT, prU, prS, prD, prE, prG, prH, prI, prK, prL, prF, Bool.or_eq_true, Bool.and_eq_true, beq_iff_eq, decide_eq_true_eq, Bool.not_eq_true', Bool.or_eq_false_iff, beq_eq_false_iff_ne, decide_eq_false_iff_not, ne_eq] at h ⊢
  omega
theorem sb_pr1_prE : ∀ a k, pr1 a k = true → prE a k = true := by
  intro a k h
  simp only [prZ, prY, pr1, pr0, pr2, prQ, prR, prX, prC, prT, prU, prS, prD, prE, prG, prH, prI, prK, prL, prF, Bool.or_eq_true, Bool.and_eq_true, beq_iff_eq, decide_eq_true_eq, Bool.not_eq_true', Bool.or_eq_false_iff, beq_eq_false_iff_ne, decide_eq_false_iff_not, ne_eq] at h ⊢
  omega
theorem sb_pr1_prG : ∀ a k, pr1 a k = true → prG a k = true := by
  intro a k h
  simp only [prZ, prY, pr1, pr0, pr2, prQ, prR, prX, prC, prT, prU, prS, prD, prE, prG, prH, prI, prK, prL, prF, Bool.or_eq_true, Bool.and_eq_true, beq_iff_eq, decide_eq_true_eq, Bool.not_eq_true', Bool.or_eq_false_iff, beq_eq_false_iff_ne, decide_eq_false_iff_not, ne_eq] at h ⊢
  omega
theorem sb_pr1_prH : ∀ a k, pr1 a k = true → prH a k = true := by
  intro a k h
  simp only [prZ, prY, pr1, pr0, pr2, prQ, prR, prX, prC, prT, prU, prS, prD, prE, prG, prH, prI, prK, prL, prF, Bool.or_eq_true, Bool.and_eq_true, beq_iff_eq, decide_eq_true_eq, Bool.not_eq_true', Bool.or_eq_false_iff, beq_eq_false_iff_ne, decide_eq_false_iff_not, ne_eq] at h ⊢
  omega
theorem sb_pr1_prI : ∀ a k, pr1 a k = true → prI a k = true := by
  intro a k h
  simp only [prZ, prY, pr1, pr0, pr2, prQ, prR, prX, prC, prT, prU, prS, prD, prE, prG, prH, prI, prK, prL, prF, Bool.or_eq_true, Bool.and_eq_true, beq_iff_eq, decide_eq_true_eq, Bool.not_eq_true', Bool.or_eq_false_iff, beq_eq_false_iff_ne, decide_eq_false_iff_not, ne_eq] at h ⊢
  omega
theorem sb_pr1_prK : ∀ a k, pr1 a k = true → prK a k = true := by
  intro a k h
  simp only [prZ, prY, pr1, pr0, pr2, prQ, prR, prX, prC, prT, prU, prS, prD, prE, prG, prH, prI, prK, prL, prF, Bool.or_eq_true, Bool.and_eq_true, beq_iff_eq, decide_eq_true_eq, Bool.not_eq_true', Bool.or_eq_false_iff, beq_eq_false_iff_ne, decide_eq_false_iff_not, ne_eq] at h ⊢
  omega
theorem sb_pr1_prL : ∀ a k, pr1 a k = true → prL a k = true := by
  intro a k h
  simp only [prZ, prY, pr1, pr0, pr2, prQ, prR, prX, prC, prT, prU, prS, prD, prE, prG, prH, prI, prK, prL, prF, Bool.or_eq_true, Bool.and_eq_true, beq_iff_eq, decide_eq_true_eq, Bool.not_eq_true', Bool.or_eq_false_iff, beq_eq_false_iff_ne, decide_eq_false_iff_not, ne_eq] at h ⊢
  omega
theorem sb_pr1_prF : ∀ a k, pr1 a k = true → prF a k = true := by
  intro a k h
  simp only [prZ, prY, pr1, pr0, pr2, prQ, prR, prX, prC, prT, prU, prS, prD, prE, prG, prH, prI, prK, prL, prF, Bool.or_eq_true, Bool.and_eq_true, beq_iff_eq, decide_eq_true_eq, Bool.not_eq_true', Bool.or_eq_false_iff, beq_eq_false_iff_ne, decide_eq_false_iff_not, ne_eq] at h ⊢
  omega
theorem sb_pr0_pr0 : ∀ a k, pr0 a k = true → pr0 a k = true := fun _ _ q => q
theorem sb_pr0_prR : ∀ a k, pr0 a k = true → prR a k = true := by
  intro a k h
  simp only [prZ, prY, pr1, pr0, pr2, prQ, prR, prX, prC, prT, prU, prS, prD, prE, prG, prH, prI, prK, prL, prF, Bool.or_eq_true, Bool.and_eq_true, beq_iff_eq, decide_eq_true_eq, Bool.not_eq_true', Bool.or_eq_false_iff, beq_eq_false_iff_ne, decide_eq_false_iff_not, ne_eq] at h ⊢
  omega
theorem sb_pr0_prX : ∀ a k, pr0 a k = true → prX a k = true := by
  intro a k h
  simp only [prZ, prY, pr1, pr0, pr2, prQ, prR, prX, prC, prT, prU, prS, prD, prE, prG, prH, prI, prK, prL, prF, Bool.or_eq_true, Bool.and_eq_true, beq_iff_eq, decide_eq_true_eq, Bool.not_eq_true', Bool.or_eq_false_iff, beq_eq_false_iff_ne, decide_eq_false_iff_not, ne_eq] at h ⊢
  omega
theorem sb_pr0_prC : ∀ a k, pr0 a k = true → prC a k = true := by
  intro a k h
  simp only [prZ, prY, pr1, pr0, pr2, prQ, prR, prX, prC, prT, prU, prS, prD, prE, prG, prH, prI, prK, prL, prF, Bool.or_eq_true, Bool.and_eq_true, beq_iff_eq, decide_eq_true_eq, Bool.not_eq_true', Bool.or_eq_false_iff, beq_eq_false_iff_ne, decide_eq_false_iff_not, ne_eq] at h ⊢
  omega
theorem sb_pr0_prT : ∀ a k, pr0 a k = true → prT a k = true := by
  intro a k h
  simp only [prZ, prY, pr1, pr0, pr2, prQ, prR, prX, prC, prT, prU, prS, prD, prE, prG, prH, prI, prK, prL, prF, Bool.or_eq_true, Bool.and_eq_true, beq_iff_eq, decide_eq_true_eq, Bool.not_eq_true', Bool.or_eq_false_iff, beq_eq_false_iff_ne, decide_eq_false_iff_not, ne_eq] at h ⊢
  omega
theorem sb_pr0_prS : ∀ a k, pr0 a k = true → prS a k = true := by
  intro a k h
  simp only [prZ, prY, pr1, pr0, pr2, prQ, prR, prX, prC, prT, prU, prS, prD, prE, prG, prH, prI, prK, prL, prF, Bool.or_eq_true, Bool.and_eq_true, beq_iff_eq, decide_eq_true_eq, Bool.not_eq_true', Bool.or_eq_false_iff, beq_eq_false_iff_ne, decide_eq_false_iff_not, ne_eq] at h ⊢
  omega
theorem sb_pr0_prE : ∀ a k, pr0 a k = true → prE a k = true := by
  intro a k h
  simp only [prZ, prY, pr1, pr0, pr2, prQ, prR, prX, prC, prT, prU, prS, prD, prE, prG, prH, prI, prK, prL, prF, Bool.or_eq_true, Bool.and_eq_true, beq_iff_eq, decide_eq_true_eq, Bool.not_eq_true', Bool.or_eq_false_iff, beq_eq_false_iff_ne, decide_eq_false_iff_not, ne_eq] at h ⊢
  omega
theorem sb_pr0_prH : ∀ a k, pr0 a k = true → prH a k = true := by
  intro a k h
  simp only [prZ, prY, pr1, pr0, pr2, prQ, prR, prX, prC, prT, prU, prS, prD, prE, prG, prH, prI, prK, prL, prF, Bool.or_eq_true, Bool.and_eq_true, beq_iff_eq, decide_eq_true_eq, Bool.not_eq_true', Bool.or_eq_false_iff, beq_eq_false_iff_ne, decide_eq_false_iff_not, ne_eq] at h ⊢
  omega
theorem sb_pr0_prI : ∀ a k, pr0 a k = true → prI a k = true := by
  intro a k h
  simp only [prZ, prY, pr1, pr0, pr2, prQ, prR, prX, prC, prT, prU, prS, prD, prE, prG, prH, prI, prK, prL, prF, Bool.or_eq_true, Bool.and_eq_true, beq_iff_eq, decide_eq_true_eq, Bool.not_eq_true', Bool.or_eq_false_iff, beq_eq_false_iff_ne, decide_eq_false_iff_not, ne_eq] at h ⊢
  omega
theorem sb_pr0_prK : ∀ a k, pr0 a k = true → prK a k = true := by
  intro a k h
  simp only [prZ, prY, pr1, pr0, pr2, prQ, prR, prX, prC, prT, prU, prS, prD, prE, prG, prH, prI, prK, prL, prF, Bool.or_eq_true, Bool.and_eq_true, beq_iff_eq, decide_eq_true_eq, Bool.not_eq_true', Bool.or_eq_false_iff, beq_eq_false_iff_ne, decide_eq_false_iff_not, ne_eq] at h ⊢
  omega
theorem sb_pr0_prL : ∀ a k, pr0 a k = true → prL a k = true := by
  intro a k h
  simp only [prZ, prY, pr1, pr0, pr2, prQ, prR, prX, prC, prT, prU, prS, prD, prE, prG, prH, prI, prK, prL, prF, Bool.or_eq_true, Bool.and_eq_true, beq_iff_eq, decide_eq_true_eq, Bool.not_eq_true', Bool.or_eq_false_iff, beq_eq_false_iff_ne, decide_eq_false_iff_not, ne_eq] at h ⊢
  omega
theorem sb_pr0_prF : ∀ a k, pr0 a k = true → prF a k = true := by
  intro a k h
  simp only [prZ, prY, pr1, pr0, pr2, prQ, prR, prX, prC, prT, prU, prS, prD, prE, prG, prH, prI, prK, prL, prF, Bool.or_eq_true, Bool.and_eq_true, beq_iff_eq, decide_eq_true_eq, Bool.not_eq_true', Bool.or_eq_false_iff, beq_eq_false_iff_ne, decide_eq_false_iff_not, ne_eq] at h ⊢
  omega
theorem sb_pr2_pr0 : ∀ a k, pr2 a k = true → pr0 a k = true := by
  intro a k h
  simp only [prZ, prY, pr1, pr0, pr2, prQ, prR, prX, prC, prT, prU, prS, prD, prE, prG, prH, prI, prK, prL, prF, Bool.or_eq_true, Bool.and_eq_true, beq_iff_eq, decide_eq_true_eq, Bool.not_eq_true', Bool.or_eq_false_iff, beq_eq_false_iff_ne, decide_eq_false_iff_not, ne_eq] at h ⊢
  omega
theorem sb_pr2_pr2 : ∀ a k, pr2 a k = true → pr2 a k = true := fun _ _ q => q
theorem sb_pr2_prQ : ∀ a k, pr2 a k = true → prQ a k = true := by
  intro a k h
  simp only [prZ, prY, pr1, pr0, pr2, prQ, prR, prX, prC, prT, prU, prS, prD, prE, prG, prH, prI, prK, prL, prF, Bool.or_eq_true, Bool.and_eq_true, beq_iff_eq, decide_eq_true_eq, Bool.not_eq_true', Bool.or_eq_false_iff, beq_eq_false_iff_ne, decide_eq_false_iff_not, ne_eq] at h ⊢
  omega
theorem sb_pr2_prR : ∀ a k, pr2 a k = true → prR a k = true := by
  intro a k h
  simp only [prZ, prY, pr1, pr0, pr2, prQ, prR, prX, prC, prT, prU, prS, prD, prE, prG, prH, prI, prK, prL, prF, Bool.or_eq_true, Bool.and_eq_true, beq_iff_eq, decide_eq_true_eq, Bool.not_eq_true', Bool.or_eq_false_iff, beq_eq_false_iff_ne, decide_eq_false_iff_not, ne_eq] at h ⊢
  omega
theorem sb_pr2_prX : ∀ a k, pr2 a k = true → prX a k = true := by
  intro a k h
  simp only [prZ, prY, pr1, pr0, pr2, prQ, prR, prX, prC, prT, prU, prS, prD, prE, prG, prH, prI, prK, prL, prF, Bool.or_eq_true, Bool.and_eq_true, beq_iff_eq, decide_eq_true_eq, Bool.not_eq_true', Bool.or_eq_false_iff, beq_eq_false_iff_ne, decide_eq_false_iff_not, ne_eq] at h ⊢
  omega
theorem sb_pr2_prC : ∀ a k, pr2 a k = true → prC a k = true := by
  intro a k h
  simp only [prZ, prY, pr1, pr0, pr2, prQ, prR, prX, prC, prT, prU, prS, prD, prE, prG, prH, prI, prK, prL, prF, Bool.or_eq_true, Bool.and_eq_true, beq_iff_eq, decide_eq_true_eq, Bool.not_eq_true', Bool.or_eq_false_iff, beq_eq_false_iff_ne, decide_eq_false_iff_not, ne_eq] at h ⊢
  omega
theorem sb_pr2_prT : ∀ a k, pr2 a k = true → prT a k = true := by
  intro a k h
  simp only [prZ, prY, pr1, pr0, pr2, prQ, prR, prX, prC, prT, prU, prS, prD, prE, prG, prH, prI, prK, prL, prF, Bool.or_eq_true, Bool.and_eq_true, beq_iff_eq, decide_eq_true_eq, Bool.not_eq_true', Bool.or_eq_false_iff, beq_eq_false_iff_ne, decide_eq_false_iff_not, ne_eq] at h ⊢
  omega
theorem sb_pr2_prU : ∀ a k, pr2 a k = true → prU a k = true := by
  intro a k h
  simp only [prZ, prY, pr1, pr0, pr2, prQ, prR, prX, prC, prT, prU, prS, prD, prE, prG, prH, prI, prK, prL, prF, Bool.or_eq_true, Bool.and_eq_true, beq_iff_eq, decide_eq_true_eq, Bool.not_eq_true', Bool.or_eq_false_iff, beq_eq_false_iff_ne, decide_eq_false_iff_not, ne_eq] at h ⊢
  omega
theorem sb_pr2_prS : ∀ a k, pr2 a k = true → prS a k = true := by
  intro a k h
  simp only [prZ, prY, pr1, pr0, pr2, prQ, prR, prX, prC, prT, prU, prS, prD, prE, prG, prH, prI, prK, prL, prF, Bool.or_eq_true, Bool.and_eq_true, beq_iff_eq, decide_eq_true_eq, Bool.not_eq_true', Bool.or_eq_false_iff, beq_eq_false_iff_ne, decide_eq_false_iff_not, ne_eq] at h ⊢
  omega
theorem sb_pr2_prD : ∀ a k, pr2 a k = true → prD a k = true := by
  intro a k h
  simp only [prZ, prY, pr1, pr0, pr2, prQ, prR, prX, prC, prT, prU, prS, prD, prE, prG, prH, prI, prK, prL, prF, Bool.or_eq_true, Bool.and_eq_true, beq_iff_eq, decide_eq_true_eq, Bool.not_eq_true', Bool.or_eq_false_iff, beq_eq_false_iff_ne, decide_eq_false_iff_not, ne_eq] at h ⊢
  omega
theorem sb_pr2_prE : ∀ a k, pr2 a k = true → prE a k = true := by
  intro a k h
  simp only [prZ, prY, pr1, pr0, pr2, prQ, prR, prX, prC, prT, prU, prS, prD, prE, prG, prH, prI, prK, prL, prF, Bool.or_eq_true, Bool.and_eq_true, beq_iff_eq, decide_eq_true_eq, Bool.not_eq_true', Bool.or_eq_false_iff, beq_eq_false_iff_ne, decide_eq_false_iff_not, ne_eq] at h ⊢
  omega
theorem sb_pr2_prG : ∀ a k, pr2 a k = true → prG a k = true := by
  intro a k h
  simp only [prZ, prY, pr1, pr0, pr2, prQ, prR, prX, prC, prT, prU, prS, prD, prE, prG, prH, prI, prK, prL, prF, Bool.or_eq_true, Bool.and_eq_true, beq_iff_eq, decide_eq_true_eq, Bool.not_eq_true', Bool.or_eq_false_iff, beq_eq_false_iff_ne, decide_eq_false_iff_not, ne_eq] at h ⊢
  omega
theorem sb_pr2_prH : ∀ a k, pr2 a k = true → prH a k = true := by
  intro a k h
  simp only [prZ, prY, pr1, pr0, pr2, prQ, prR, prX, prC, prT, prU, prS, prD, prE, prG, prH, prI, prK, prL, prF, Bool.or_eq_true, Bool.and_eq_true, beq_iff_eq, decide_eq_true_eq, Bool.not_eq_true', Bool.or_eq_false_iff, beq_eq_false_iff_ne, decide_eq_false_iff_not, ne_eq] at h ⊢
  omega
theorem sb_pr2_prI : ∀ a k, pr2 a k = true → prI a k = true := by
  intro a k h
  simp only [prZ, prY, pr1, pr0, pr2, prQ, prR, prX, prC, prT, prU, prS, prD, prE, prG, prH, prI, prK, prL, prF, Bool.or_eq_true, Bool.and_eq_true, beq_iff_eq, decide_eq_true_eq, Bool.not_eq_true', Bool.or_eq_false_iff, beq_eq_false_iff_ne, decide_eq_false_iff_not, ne_eq] at h ⊢
  omega
theorem sb_pr2_prK : ∀ a k, pr2 a k = true → prK a k = true := by
  intro a k h
  simp only [prZ, prY, pr1, pr0, pr2, prQ, prR, prX, prC, prT, prU, prS, prD, prE, prG, prH, prI, prK, prL, prF, Bool.or_eq_true, Bool.and_eq_true, beq_iff_eq, decide_eq_true_eq, Bool.not_eq_true', Bool.or_eq_false_iff, beq_eq_false_iff_ne, decide_eq_false_iff_not, ne_eq] at h ⊢
  omega
theorem sb_pr2_prL : ∀ a k, pr2 a k = true → prL a k = true := by
  intro a k h
  simp only [prZ, prY, pr1, pr0, pr2, prQ, prR, prX, prC, prT, prU, prS, prD, prE, prG, prH, prI, prK, prL, prF, Bool.or_eq_true, Bool.and_eq_true, beq_iff_eq, decide_eq_true_eq, Bool.not_eq_true', Bool.or_eq_false_iff, beq_eq_false_iff_ne, decide_eq_false_iff_not, ne_eq] at h ⊢
  omega
theorem sb_pr2_prF : ∀ a k, pr2 a k = true → prF a k = true := by
  intro a k h
  simp only [prZ, prY, pr1, pr0, pr2, prQ, prR, prX, prC, prT, prU, prS, prD, prE, prG, prH, prI, prK, prL, prF, Bool.or_eq_true, Bool.and_eq_true, beq_iff_eq, decide_eq_true_eq, Bool.not_eq_true', Bool.or_eq_false_iff, beq_eq_false_iff_ne, decide_eq_false_iff_not, ne_eq] at h ⊢
  omega
theorem sb_prQ_prQ : ∀ a k, prQ a k = true → prQ a k = true := fun _ _ q => q
theorem sb_prQ_prR : ∀ a k, prQ a k = true → prR a k = true := by
  intro a k h
  simp only [prZ, prY, pr1, pr0, pr2, prQ, prR, prX, prC, prT, prU, prS, prD, prE, prG, prH, prI, prK, prL, prF, Bool.or_eq_true, Bool.and_eq_true, beq_iff_eq, decide_eq_true_eq, Bool.not_eq_true', Bool.or_eq_false_iff, beq_eq_false_iff_ne, decide_eq_false_iff_not, ne_eq] at h ⊢
  omega
theorem sb_prQ_prX : ∀ a k, prQ a k = true → prX a k = true := by
  intro a k h
  simp only [prZ, prY, pr1, pr0, pr2, prQ, prR, prX, prC, prT, prU, prS, prD, prE, prG, prH, prI, prK, prL, prF, Bool.or_eq_true, Bool.and_eq_true, beq_iff_eq, decide_eq_true_eq, Bool.not_eq_true', Bool.or_eq_false_iff, beq_eq_false_iff_ne, decide_eq_false_iff_not, ne_eq] at h ⊢
  omega
theorem sb_prQ_prC : ∀ a k, prQ a k = true → prC a k = true := by
  intro a k h
  simp only [prZ, prY, pr1, pr0, pr2, prQ, prR, prX, prC, prT, prU, prS, prD, prE, prG, prH, prI, prK, prL, prF, Bool.or_eq_true, Bool.and_eq_true, beq_iff_eq, decide_eq_true_eq, Bool.not_eq_true', Bool.or_eq_false_iff, beq_eq_false_iff_ne, decide_eq_false_iff_not, ne_eq] at h ⊢
  omega
theorem sb_prQ_prT : ∀ a k, prQ a k = true → prT a k = true := by
  intro a k h
  simp only [prZ, prY, pr1, pr0, pr2, prQ, prR, prX, prC, prT, prU, prS, prD, prE, prG, prH, prI, prK, prL, prF, Bool.or_eq_true, Bool.and_eq_true, beq_iff_eq, decide_eq_true_eq, Bool.not_eq_true', Bool.or_eq_false_iff, beq_eq_false_iff_ne, decide_eq_false_iff_not, ne_eq] at h ⊢
  omega
theorem sb_prQ_prU : ∀ a k, prQ a k = true → prU a k = true := by
  intro a k h
  simp only [prZ, prY, pr1, pr0, pr2, prQ, prR, prX, prC, prT, prU, prS, prD, prE, prG, prH, prI, prK, prL, prF, Bool.or_eq_true, Bool.and_eq_true, beq_iff_eq, decide_eq_true_eq, Bool.not_eq_true', Bool.or_eq_false_iff, beq_eq_false_iff_ne, decide_eq_false_iff_not, ne_eq] at h ⊢
  omega
theorem sb_prQ_prS : ∀ a k, prQ a k = true → prS a k = true := by
  intro a k h
  simp only [prZ, prY, pr1, pr0, pr2, prQ, prR, prX, prC, prT, prU, prS, prD, prE, prG, prH, prI, prK, prL, prF, Bool.or_eq_true, Bool.and_eq_true, beq_iff_eq, decide_eq_true_eq, Bool.not_eq_true', Bool.or_eq_false_iff, beq_eq_false_iff_ne, decide_eq_false_iff_not, ne_eq] at h ⊢
  omega
theorem sb_prQ_prD : ∀ a k, prQ a k = true → prD a k = true := by
  intro a k h
  simp only [prZ, prY, pr1, pr0, pr2, prQ, prR, prX, prC, prT, prU, prS, prD, prE, prG, prH, prI, prK, prL, prF, Bool.or_eq_true, Bool.and_eq_true, beq_iff_eq, decide_eq_true_eq, Bool.not_eq_true', Bool.or_eq_false_iff, beq_eq_false_iff_ne, decide_eq_false_iff_not, ne_eq] at h ⊢
  omega
theorem sb_prQ_prE : ∀ a k, prQ a k = true → prE a k = true := by
  intro a k h
  simp only [prZ, prY, pr1, pr0, pr2, prQ, prR, prX, prC, prT, prU, prS, prD, prE, prG, prH, prI, prK, prL, prF, Bool.or_eq_true, Bool.and_eq_true, beq_iff_eq, decide_eq_true_eq, Bool.not_eq_true', Bool.or_eq_false_iff, beq_eq_false_iff_ne, decide_eq_false_iff_not, ne_eq] at h ⊢
  omega
theorem sb_prQ_prG : ∀ a k, prQ a k = true → prG a k = true := by
  intro a k h
  simp only [prZ, prY, pr1, pr0, pr2, prQ, prR, prX, prC, prT, prU, prS, prD, prE, prG, prH, prI, prK, prL, prF, Bool.or_eq_true, Bool.and_eq_true, beq_iff_eq, decide_eq_true_eq, Bool.not_eq_true', Bool.or_eq_false_iff, beq_eq_false_iff_ne, decide_eq_false_iff_not, ne_eq] at h ⊢
  omega
theorem sb_prQ_prH : ∀ a k, prQ a k = true → prH a k = true := by
  intro a k h
  simp only [prZ, prY, pr1, pr0, pr2, prQ, prR, prX, prC, prT, prU, prS, prD, prE, prG, prH, prI, prK, prL, prF, Bool.or_eq_true, Bool.and_eq_true, beq_iff_eq, decide_eq_true_eq, Bool.not_eq_true', Bool.or_eq_false_iff, beq_eq_false_iff_ne, decide_eq_false_iff_not, ne_eq] at h ⊢
  omega
theorem sb_prQ_prI : ∀ a k, prQ a k = true → prI a k = true := by
  intro a k h
  simp only [prZ, prY, pr1, pr0, pr2, prQ, prR, prX, prC, prT, prU, prS, prD, prE, prG, prH, prI, prK, prL, prF, Bool.or_eq_true, Bool.and_eq_true, beq_iff_eq, decide_eq_true_eq, Bool.not_eq_true', Bool.or_eq_false_iff, beq_eq_false_iff_ne, decide_eq_false_iff_not, ne_eq] at h ⊢
  omega
theorem sb_prQ_prK : ∀ a k, prQ a k = true → prK a k = true := by
  intro a k h
  simp only [prZ, prY, pr1, pr0, pr2, prQ, prR, prX, prC, prT, prU, prS, prD, prE, prG, prH, prI, prK, prL, prF, Bool.or_eq_true, Bool.and_eq_true, beq_iff_eq, decide_eq_true_eq, Bool.not_eq_true', Bool.or_eq_false_iff, beq_eq_false_iff_ne, decide_eq_false_iff_not, ne_eq] at h ⊢
  omega
theorem sb_prQ_prL : ∀ a k, prQ a k = true → prL a k = true := by
  intro a k h
  simp only [prZ, prY, pr1, pr0, pr2, prQ, prR, prX, prC, prT, prU, prS, prD, prE, prG, prH, prI, prK, prL, prF, Bool.or_eq_true, Bool.and_eq_true, beq_iff_eq, decide_eq_true_eq, Bool.not_eq_true', Bool.or_eq_false_iff, beq_eq_false_iff_ne, decide_eq_false_iff_not, ne_eq] at h ⊢
  omega
theorem sb_prQ_prF : ∀ a k, prQ a k = true → prF a k = true := by
  intro a k h
  simp only [prZ, prY, pr1, pr0, pr2, prQ, prR, prX, prC, prT, prU, prS, prD, prE, prG, prH, prI, prK, prL, prF, Bool.or_eq_true, Bool.and_eq_true, beq_iff_eq, decide_eq_true_eq, Bool.not_eq_true', Bool.or_eq_false_iff, beq_eq_false_iff_ne, decide_eq_false_iff_not, ne_eq] at h ⊢
  omega
theorem sb_prR_prR : ∀ a k, prR a k = true → prR a k = true := fun _ _ q => q
theorem sb_prR_prX : ∀ a k, prR a k = true → prX a k = true := by
  intro a k h
  simp only [prZ, prY, pr1, pr0, pr2, prQ, prR, prX, prC, prT, prU, prS, prD, prE, prG, prH, prI, prK, prL, prF, Bool.or_eq_true, Bool.and_eq_true, beq_iff_eq, decide_eq_true_eq, Bool.not_eq_true', Bool.or_eq_false_iff, beq_eq_false_iff_ne, decide_eq_false_iff_not, ne_eq] at h ⊢
  omega
theorem sb_prR_prC : ∀ a k, prR a k = true → prC a k = true := by
  intro a k h
  simp only [prZ, prY, pr1, pr0, pr2, prQ, prR, prX, prC, prT, prU, prS, prD, prE, prG, prH, prI, prK, prL, prF, Bool.or_eq_true, Bool.and_eq_true, beq_iff_eq, decide_eq_true_eq, Bool.not_eq_true', Bool.or_eq_false_iff, beq_eq_false_iff_ne, decide_eq_false_iff_not, ne_eq] at h ⊢
  omega
theorem sb_prR_prT : ∀ a k, prR a k = true → prT a k = true := by
  intro a k h
  simp only [prZ, prY, pr1, pr0, pr2, prQ, prR, prX, prC, prT, prU, prS, prD, prE, prG, prH, prI, prK, prL, prF, Bool.or_eq_true, Bool.and_eq_true, beq_iff_eq, decide_eq_true_eq, Bool.not_eq_true', Bool.or_eq_false_iff, beq_eq_false_iff_ne, decide_eq_false_iff_not, ne_eq] at h ⊢
  omega
theorem sb_prR_prS : ∀ a k, prR a k = true → prS a k = true := by
  intro a k h
  simp only [prZ, prY, pr1, pr0, pr2, prQ, prR, prX, prC, prT, prU, prS, prD, prE, prG, prH, prI, prK, prL, prF, Bool.or_eq_true, Bool.and_eq_true, beq_iff_eq, decide_eq_true_eq, Bool.not_eq_true', Bool.or_eq_false_iff, beq_eq_false_iff_ne, decide_eq_false_iff_not, ne_eq] at h ⊢
  omega
theorem sb_prR_prE : ∀ a k, prR a k = true → prE a k = true := by
  intro a k h
  simp only [prZ, prY, pr1, pr0, pr2, prQ, prR, prX, prC, prT, prU, prS, prD, prE, prG, prH, prI, prK, prL, prF, Bool.or_eq_true, Bool.and_eq_true, beq_iff_eq, decide_eq_true_eq, Bool.not_eq_true', Bool.or_eq_false_iff, beq_eq_false_iff_ne, decide_eq_false_iff_not, ne_eq] at h ⊢
  omega
theorem sb_prR_prH : ∀ a k, prR a k = true → prH a k = true := by
  intro a k h
  simp only [prZ, prY, pr1, pr0, pr2, prQ, prR, prX, prC, prT, prU, prS, prD, prE, prG, prH, prI, prK, prL, prF, Bool.or_eq_true, Bool.and_eq_true, beq_iff_eq, decide_eq_true_eq, Bool.not_eq_true', Bool.or_eq_false_iff, beq_eq_false_iff_ne, decide_eq_false_iff_not, ne_eq] at h ⊢
  omega
theorem sb_prR_prI : ∀ a k, prR a k = true → prI a k = true := by
  intro a k h
  simp only [prZ, prY, pr1, pr0, pr2, prQ, prR, prX, prC, prT, prU, prS, prD, prE, prG, prH, prI, prK, prL, prF, Bool.or_eq_true, Bool.and_eq_true, beq_iff_eq, decide_eq_true_eq, Bool.not_eq_true', Bool.or_eq_false_iff, beq_eq_false_iff_ne, decide_eq_false_iff_not, ne_eq] at h ⊢
  omega
theorem sb_prR_prK : ∀ a k, prR a k = true → prK a k = true := by
  intro a k h
  simp only [prZ, prY, pr1, pr0, pr2, prQ, prR, prX, prC, prT, prU, prS, prD, prE, prG, prH, prI, prK, prL, prF, Bool.or_eq_true, Bool.and_eq_true, beq_iff_eq, decide_eq_true_eq, Bool.not_eq_true', Bool.or_eq_false_iff, beq_eq_false_iff_ne, decide_eq_false_iff_not, ne_eq] at h ⊢
  omega
theorem sb_prR_prL : ∀ a k, prR a k = true → prL a k = true := by
  intro a k h
  simp only [prZ, prY, pr1, pr0, pr2, prQ, prR, prX, prC, prT, prU, prS, prD, prE, prG, prH, prI, prK, prL, prF, Bool.or_eq_true, Bool.and_eq_true, beq_iff_eq, decide_eq_true_eq, Bool.not_eq_true', Bool.or_eq_false_iff, beq_eq_false_iff_ne, decide_eq_false_iff_not, ne_eq] at h ⊢
  omega
theorem sb_prR_prF : ∀ a k, prR a k = true → prF a k = true := by
  intro a k h
  simp only [prZ, prY, pr1, pr0, pr2, prQ, prR, prX, prC, prT, prU, prS, prD, prE, prG, prH, prI, prK, prL, prF, Bool.or_eq_true, Bool.and_eq_true, beq_iff_eq, decide_eq_true_eq, Bool.not_eq_true', Bool.or_eq_false_iff, beq_eq_false_iff_ne, decide_eq_false_iff_not, ne_eq] at h ⊢
  omega
theorem sb_prX_prX : ∀ a k, prX a k = true → prX a k = true := fun _ _ q => q
theorem sb_prX_prC : ∀ a k, prX a k = true → prC a k = true := by
  intro a k h
  simp only [prZ, prY, pr1, pr0, pr2, prQ, prR, prX, prC, prT, prU, prS, prD, prE, prG, prH, prI, prK, prL, prF, Bool.or_eq_true, Bool.and_eq_true, beq_iff_eq, decide_eq_true_eq, Bool.not_eq_true', Bool.or_eq_false_iff, beq_eq_false_iff_ne, decide_eq_false_iff_not, ne_eq] at h ⊢
  omega
theorem sb_prX_prT : ∀ a k, prX a k = true → prT a k = true := by
  intro a k h
  simp only [prZ, prY, pr1, pr0, pr2, prQ, prR, prX, prC, prT, prU, prS, prD, prE, prG, prH, prI, prK, prL, prF, Bool.or_eq_true, Bool.and_eq_true, beq_iff_eq, decide_eq_true_eq, Bool.not_eq_true', Bool.or_eq_false_iff, beq_eq_false_iff_ne, decide_eq_false_iff_not, ne_eq] at h ⊢
  omega
theorem sb_prX_prS : ∀ a k, prX a k = true → prS a k = true := by
  intro a k h
  simp only [prZ, prY, pr1, pr0, pr2, prQ, prR, prX, prC, prT, prU, prS, prD, prE, prG, prH, prI, prK, prL, prF, Bool.or_eq_true, Bool.and_eq_true, beq_iff_eq, decide_eq_true_eq, Bool.not_eq_true', Bool.or_eq_false_iff, beq_eq_false_iff_ne, decide_eq_false_iff_not, ne_eq] at h ⊢
  omega
theorem sb_prX_prE : ∀ a k, prX a k = true → prE a k = true := by
  intro a k h
  simp only [prZ, prY, pr1, pr0, pr2, prQ, prR, prX, prC, prT, prU, prS, prD, prE, prG, prH, prI, prK, prL, prF, Bool.or_eq_true, Bool.and_eq_true, beq_iff_eq, decide_eq_true_eq, Bool.not_eq_true', Bool.or_eq_false_iff, beq_eq_false_iff_ne, decide_eq_false_iff_not, ne_eq] at h ⊢
  omega
theorem sb_prX_prH : ∀ a k, prX a k = true → prH a k = true := by
  intro a k h
  simp only [prZ, prY, pr1, pr0, pr2, prQ, prR, prX, prC, prT, prU, prS, prD, prE, prG, prH, prI, prK, prL, prF, Bool.or_eq_true, Bool.and_eq_true, beq_iff_eq, decide_eq_true_eq, Bool.not_eq_true', Bool.or_eq_false_iff, beq_eq_false_iff_ne, decide_eq_false_iff_not, ne_eq] at h ⊢
  omega
theorem sb_prX_prI : ∀ a k, prX a k = true → prI a k = true := by
  intro a k h
  simp only [prZ, prY, pr1, pr0, pr2, prQ, prR, prX, prC, prT, prU, prS, prD, prE, prG, prH, prI, prK, prL, prF, Bool.or_eq_true, Bool.and_eq_true, beq_iff_eq, decide_eq_true_eq, Bool.not_eq_true', Bool.or_eq_false_iff, beq_eq_false_iff_ne, decide_eq_false_iff_not, ne_eq] at h ⊢
  omega
theorem sb_prX_prK : ∀ a k, prX a k = true → prK a k = true := by
  intro a k h
  simp only [prZ, prY, pr1, pr0, pr2, prQ, prR, prX, prC, prT, prU, prS, prD, prE, prG, prH, prI, prK, prL, prF, Bool.or_eq_true, Bool.and_eq_true, beq_iff_eq, decide_eq_true_eq, Bool.not_eq_true', Bool.or_eq_false_iff, beq_eq_false_iff_ne, decide_eq_false_iff_not, ne_eq] at h ⊢
  omega
theorem sb_prX_prL : ∀ a k, prX a k = true → prL a k = true := by
  intro a k h
  simp only [prZ, prY, pr1, pr0, pr2, prQ, prR, prX, prC, prT, prU, prS, prD, prE, prG, prH, prI, prK, prL, prF, Bool.or_eq_true, Bool.and_eq_true, beq_iff_eq, decide_eq_true_eq, Bool.not_eq_true', Bool.or_eq_false_iff, beq_eq_false_iff_ne, decide_eq_false_iff_not, ne_eq] at h ⊢
  omega
theorem sb_prX_prF : ∀ a k, prX a k = true → prF a k = true := by
  intro a k h
  simp only [prZ, prY, pr1, pr0, pr2, prQ, prR, prX, prC, prT, prU, prS, prD, prE, prG, prH, prI, prK, prL, prF, Bool.or_eq_true, Bool.and_eq_true, beq_iff_eq, decide_eq_true_eq, Bool.not_eq_true', Bool.or_eq_false_iff, beq_eq_false_iff_ne, decide_eq_false_iff_not, ne_eq] at h ⊢
  omega
theorem sb_prC_prC : ∀ a k, prC a k = true → prC a k = true := fun _ _ q => q
theorem sb_prT_prT : ∀ a k, prT a k = true → prT a k = true := fun _ _ q => q
theorem sb_prU_prT : ∀ a k, prU a k = true → prT a k = true := by
  intro a k h
  simp only [prZ, prY, pr1, pr0, pr2, prQ, prR, prX, prC, prT, prU, prS, prD, prE, prG, prH, prI, prK, prL, prF, Bool.or_eq_true, Bool.and_eq_true, beq_iff_eq, decide_eq_true_eq, Bool.not_eq_true', Bool.or_eq_false_iff, beq_eq_false_iff_ne, decide_eq_false_iff_not, ne_eq] at h ⊢
  omega
theorem sb_prU_prU : ∀ a k, prU a k = true → prU a k = true := fun _ _ q => q
theorem sb_prS_prS : ∀ a k, prS a k = true → prS a k = true := fun _ _ q => q
theorem sb_prD_prS : ∀ a k, prD a k = true → prS a k = true := by
  intro a k h
  simp only [prZ, prY, pr1, pr0, pr2, prQ, prR, prX, prC, prT, prU, prS, prD, prE, prG, prH, prI, prK, prL, prF, Bool.or_eq_true, Bool.and_eq_true, beq_iff_eq, decide_eq_true_eq, Bool.not_eq_true', Bool.or_eq_false_iff, beq_eq_false_iff_ne, decide_eq_false_iff_not, ne_eq] at h ⊢
  omega
theorem sb_prD_prD : ∀ a k, prD a k = true → prD a k = true := fun _ _ q => q
theorem sb_prD_prE : ∀ a k, prD a k = true → prE a k = true := by
  intro a k h
  simp only [prZ, prY, pr1, pr0, pr2, prQ, prR, prX, prC, prT, prU, prS, prD, prE, prG, prH, prI, prK, prL, prF, Bool.or_eq_true, Bool.and_eq_true, beq_iff_eq, decide_eq_true_eq, Bool.not_eq_true', Bool.or_eq_false_iff, beq_eq_false_iff_ne, decide_eq_false_iff_not, ne_eq] at h ⊢
  omega
theorem sb_prE_prS : ∀ a k, prE a k = true → prS a k = true := by
  intro a k h
  simp only [prZ, prY, pr1, pr0, pr2, prQ, prR, prX, prC, prT, prU, prS, prD, prE, prG, prH, prI, prK, prL, prF, Bool.or_eq_true, Bool.and_eq_true, beq_iff_eq, decide_eq_true_eq, Bool.not_eq_true', Bool.or_eq_false_iff, beq_eq_false_iff_ne, decide_eq_false_iff_not, ne_eq] at h ⊢
  omega
theorem sb_prE_prE : ∀ a k, prE a k = true → prE a k = true := fun _ _ q => q
theorem sb_prG_prT : ∀ a k, prG a k = true → prT a k = true := by
  intro a k h
  simp only [prZ, prY, pr1, pr0, pr2, prQ, prR, prX, prC, prT, prU, prS, prD, prE, prG, prH, prI, prK, prL, prF, Bool.or_eq_true, Bool.and_eq_true, beq_iff_eq, decide_eq_true_eq, Bool.not_eq_true', Bool.or_eq_false_iff, beq_eq_false_iff_ne, decide_eq_false_iff_not, ne_eq] at h ⊢
  omega
theorem sb_prG_prU : ∀ a k, prG a k = true → prU a k = true := by
  intro a k h
  simp only [prZ, prY, pr1, pr0, pr2, prQ, prR, prX, prC, prT, prU, prS, prD, prE, prG, prH, prI, prK, prL, prF, Bool.or_eq_true, Bool.and_eq_true, beq_iff_eq, decide_eq_true_eq, Bool.not_eq_true', Bool.or_eq_false_iff, beq_eq_false_iff_ne, decide_eq_false_iff_not, ne_eq] at h ⊢
  omega
theorem sb_prG_prS : ∀ a k, prG a k = true → prS a k = true := by
  intro a k h
  simp only [prZ, prY, pr1, pr0, pr2, prQ, prR, prX, prC, prT, prU, prS, prD, prE, prG, prH, prI, prK, prL, prF, Bool.or_eq_true, Bool.and_eq_true, beq_iff_eq, decide_eq_true_eq, Bool.not_eq_true', Bool.or_eq_false_iff, beq_eq_false_iff_ne, decide_eq_false_iff_not, ne_eq] at h ⊢
  omega
theorem sb_prG_prD : ∀ a k, prG a k = true → prD a k = true := by
  intro a k h
  simp only [prZ, prY, pr1, pr0, pr2, prQ, prR, prX, prC, prT, prU, prS, prD, prE, prG, prH, prI, prK, prL, prF, Bool.or_eq_true, Bool.and_eq_true, beq_iff_eq, decide_eq_true_eq, Bool.not_eq_true', Bool.or_eq_false_iff, beq_eq_false_iff_ne, decide_eq_false_iff_not, ne_eq] at h ⊢
  omega
theorem sb_prG_prE : ∀ a k, prG a k = true → prE a k = true := by
  intro a k h
  simp only [prZ, prY, pr1, pr0, pr2, prQ, prR, prX, prC, prT, prU, prS, prD, prE, prG, prH, prI, prK, prL, prF, Bool.or_eq_true, Bool.and_eq_true, beq_iff_eq, decide_eq_true_eq, Bool.not_eq_true', Bool.or_eq_false_iff, beq_eq_false_iff_ne, decide_eq_false_iff_not, ne_eq] at h ⊢
  omega
theorem sb_prG_prG : ∀ a k, prG a k = true → prG a k = true := fun _ _ q => q
theorem sb_prH_prH : ∀ a k, prH a k = true → prH a k = true := fun _ _ q => q
theorem sb_prH_prI : ∀ a k, prH a k = true → prI a k = true := by
  intro a k h
  simp only [prZ, prY, pr1, pr0, pr2, prQ, prR, prX, prC, prT, prU, prS, prD, prE, prG, prH, prI, prK, prL, prF, Bool.or_eq_true, Bool.and_eq_true, beq_iff_eq, decide_eq_true_eq, Bool.not_eq_true', Bool.or_eq_false_iff, beq_eq_false_iff_ne, decide_eq_false_iff_not, ne_eq] at h ⊢
  omega
theorem sb_prI_prI : ∀ a k, prI a k = true → prI a k = true := fun _ _ q => q
theorem sb_prK_prK : ∀ a k, prK a k = true → prK a k = true := fun _ _ q => q
theorem sb_prL_prS : ∀ a k, prL a k = true → prS a k = true := by
  intro a k h
  simp only [prZ, prY, pr1, pr0, pr2, prQ, prR, prX, prC, prT, prU, prS, prD, prE, prG, prH, prI, prK, prL, prF, Bool.or_eq_true, Bool.and_eq_true, beq_iff_eq, decide_eq_true_eq, Bool.not_eq_true', Bool.or_eq_false_iff, beq_eq_false_iff_ne, decide_eq_false_iff_not, ne_eq] at h ⊢
  omega
theorem sb_prL_prL : ∀ a k, prL a k = true → prL a k = true := fun _ _ q => q
theorem sb_prF_prC : ∀ a k, prF a k = true → prC a k = true := by
  intro a k h
  simp only [prZ, prY, pr1, pr0, pr2, prQ, prR, prX, prC, prT, prU, prS, prD, prE, prG, prH, prI, prK, prL, prF, Bool.or_eq_true, Bool.and_eq_true, beq_iff_eq, decide_eq_true_eq, Bool.not_eq_true', Bool.or_eq_false_iff, beq_eq_false_iff_ne, decide_eq_false_iff_not, ne_eq] at h ⊢
  omega
theorem sb_prF_prF : ∀ a k, prF a k = true → prF a k = true := fun _ _ q => q
/-- between instructions; tie w may be broken -/
def cW (w : Nat) (pr : Nat → Nat → Bool) (g h : sw_H) : Prop := (cI h ∧ ∀ i, i ≠ w → Rg i h) ∧ ∀ a k, pr a k = true → h a k = g a k
def cJ (h : sw_H) : Prop := cI h ∧ ∀ i, i ≠ 0 → Rg i h
def cK (pr : Nat → Nat → Bool) (g h : sw_H) : Prop := cJ h ∧ ∀ a k, pr a k = true → h a k = g a k
theorem cK.refl {pr : Nat → Nat → Bool} {h : sw_H} (hJ : cJ h) : cK pr h h := ⟨hJ, fun _ _ _ => rfl⟩
theorem cI.up {h h1 : sw_H} {a k : Nat} {z : Int} (hI : cI h) (e : sw_to h h1 a k z) (ok : okc a k z) : cI h1 := by
  intro b j
  by_cases q : b = a ∧ j = k
  · obtain ⟨rfl, rfl⟩ := q
    rw [e.1]
    exact ok
  · rw [e.2 b j q]
    exact hI b j
/-- a tie stands if its places stay -/
theorem Rg.keep {h h1 : sw_H} {i : Nat} (hi : i ≠ 0) (hR : Rg i h) (key : ∀ b j, grp b j = i → h1 b j = h b j) : Rg i h1 := by
  match i, hi, hR, key with
  | 1, _, r1, key =>
    intro c hc i
    have h1' : h1 (c + 1) i = h (c + 1) i := key _ _ (by rcases hc with rfl | rfl <;> simp [grp])
    have h2' : h1 (c + 2) i = h (c + 2) i := key _ _ (by rcases hc with rfl | rfl <;> simp [grp])
    rw [h1', h2']
    exact r1 c hc i
  | 2, _, r2, key => show h1 48 2 ≤ h1 48 3; rw [key 48 2 rfl, key 48 3 rfl]; exact r2
  | 3, _, _, _ => trivial
  | 4, _, r4, key => show (h1 0 1 = 1 ∧ h1 0 2 = 13) ∨ (h1 0 1 = 13 ∧ h1 0 2 = 1); rw [key 0 1 rfl, key 0 2 rfl]; exact r4
  | n + 5, _, _, _ => trivial
theorem cK.up {pr : Nat → Nat → Bool} {g h h1 : sw_H} {a k : Nat} {z : Int} (hK : cK pr g h) (e : sw_to h h1 a k z) (ok : okc a k z) (ns : grp a k = 0) (np : pr a k = false) : cK pr g h1 :=
  ⟨⟨hK.1.1.up e ok, fun i hi => Rg.keep hi (hK.1.2 i hi) (fun b j hb => e.2 b j (fun q => by obtain ⟨rfl, rfl⟩ := q; omega))⟩, fun b j hb => by
    rw [e.2 b j (fun q => by obtain ⟨rfl, rfl⟩ := q; rw [np] at hb; cases hb)]
    exact hK.2 b j hb⟩
theorem cW.up {w : Nat} {pr : Nat → Nat → Bool} {g h h1 : sw_H} {a k : Nat} {z : Int} (hK : cW w pr g h) (e : sw_to h h1 a k z) (ok : okc a k z) (ns : grp a k = 0 ∨ grp a k = w) (np : pr a k = false) : cW w pr g h1 :=
  ⟨⟨hK.1.1.up e ok, fun i hi => by
    by_cases h0 : i = 0
    · subst h0; trivial
    · exact Rg.keep h0 (hK.1.2 i hi) (fun b j hb => e.2 b j (fun q => by obtain ⟨rfl, rfl⟩ := q; omega))⟩, fun b j hb => by
    rw [e.2 b j (fun q => by obtain ⟨rfl, rfl⟩ := q; rw [np] at hb; cases hb)]
    exact hK.2 b j hb⟩
theorem cK.wide {pr : Nat → Nat → Bool} {g h : sw_H} (w : Nat) (hK : cK pr g h) : cW w pr g h := ⟨⟨hK.1.1, fun i _ => by
    by_cases h0 : i = 0
    · subst h0; trivial
    · exact hK.1.2 i h0⟩, hK.2⟩
theorem cW.shut {w : Nat} {pr : Nat → Nat → Bool} {g h : sw_H} (hK : cW w pr g h) (hR : Rg w h) : cK pr g h := ⟨⟨hK.1.1, fun i _ => by
    by_cases h0 : i = w
    · subst h0; exact hR
    · exact hK.1.2 i h0⟩, hK.2⟩
theorem cK.upA {pr : Nat → Nat → Bool} {g h h1 : sw_H} {b : Nat} (hK : cK pr g h) (e : ∀ c j, c ≠ b → h1 c j = h c j) (ok : ∀ j, okc b j (h1 b j)) (ns : ∀ j, grp b j = 0) (np : ∀ j, pr b j = false) : cK pr g h1 := by
  refine ⟨⟨fun c j => ?_, fun i hi => Rg.keep hi (hK.1.2 i hi) (fun c j hc => e c j (fun q => by subst q; have := ns j; omega))⟩, fun c j hc => ?_⟩
  · by_cases q : c = b
    · subst q; exact ok j
    · rw [e c j q]; exact hK.1.1 c j
  · rw [e c j (fun q => by subst q; rw [np j] at hc; cases hc)]
    exact hK.2 c j hc
theorem cK.tr {p p2 : Nat → Nat → Bool} {g h h1 : sw_H} (hK : cK p g h) (h2 : cK p2 h h1) (hp : ∀ a k, p a k = true → p2 a k = true) : cK p g h1 := ⟨h2.1, fun a k q => (h2.2 a k (hp a k q)).trans (hK.2 a k q)⟩
theorem cK.to1 {g h : sw_H} (hK : cK pr0 g h) : cK pr1 g h := ⟨hK.1, fun a k q => hK.2 a k (sb_pr1_pr0 a k q)⟩
theorem St_ok1 : ∀ o ∈ stL, okt o 1 = some (0, 24) ∧ okt o 3 = some (0, 42) ∧ okt o 4 = none ∧ okt o 5 = none := by decide +kernel
theorem okt_none_lt : ∀ o ∈ stL, (if o + 1 < 512 then okt (o + 1) 0 else none) = none ∧ (if o + 2 < 512 then okt (o + 2) 0 else none) = none := by decide +kernel
theorem St_rng : ∀ o ∈ stL, (27 ≤ o ∧ o ≤ 30) ∨ (50 ≤ o ∧ o ≤ 174) ∨ (199 ≤ o ∧ o ≤ 221) := by decide +kernel
theorem St_mem3 : ∀ o ∈ stL, ∀ p ∈ stL, p ≠ o + 1 ∧ p ≠ o + 2 ∧ (p ≠ o → p + 1 ≠ o + 1 ∧ p + 2 ≠ o + 2) ∧ p + 1 ≠ o + 2 ∧ p + 2 ≠ o + 1 := by decide +kernel
theorem St_oka : ∀ o ∈ stL, ∀ k z, okc (o + 1) k z ∧ okc (o + 2) k z := by
  intro o ho k z
  have key : ∀ o ∈ stL, (fun k => okt (o + 1) k) = (fun _ => none) ∧ (fun k => okt (o + 2) k) = (fun _ => none) := by
    simp only [stL, List.forall_mem_cons, List.not_mem_nil, false_imp_iff, implies_true, and_true]
    repeat' constructor
  obtain ⟨k1, k2⟩ := key o ho
  have e1 := congrFun k1 k
  have e2 := congrFun k2 k
  exact ⟨by unfold okc; rw [e1]; trivial, by unfold okc; rw [e2]; trivial⟩
theorem St_sp : ∀ o ∈ stL, ∀ k, (grp o k = 0 ∧ grp (o + 1) k = 0 ∧ grp (o + 2) k = 0) ∧ prS o k = false ∧ prS (o + 1) k = false ∧ prS (o + 2) k = false := by
  intro o ho k
  have h := St_rng o ho
  have e : ∀ b, ((27 ≤ b ∧ b ≤ 32) ∨ (50 ≤ b ∧ b ≤ 176) ∨ (199 ≤ b ∧ b ≤ 223)) → grp b k = 0 ∧ prS b k = false := by
    intro b hb
    constructor
    · unfold grp
      rw [if_neg (by omega), if_neg (by omega), if_neg (by omega)]
    · simp only [prS, Bool.not_eq_false', Bool.or_eq_true, decide_eq_true_eq]
      omega
  have a0 := e o (by omega)
  have a1 := e (o + 1) (by omega)
  have a2 := e (o + 2) (by omega)
  exact ⟨⟨a0.1, a1.1, a2.1⟩, a0.2, a1.2, a2.2⟩
theorem ring_mem {i : Int} (h0 : 0 ≤ i) (h1 : i < 41) : 50 + 3 * i.toNat ∈ stL := by
  have key : ∀ n : Nat, n < 41 → 50 + 3 * n ∈ stL := by decide +kernel
  exact key i.toNat (by omega)
theorem box_mem {i : Int} (h0 : 0 ≤ i) (h1 : i < 3) : 215 + 3 * i.toNat ∈ stL := by
  have key : ∀ n : Nat, n < 3 → 215 + 3 * n ∈ stL := by decide +kernel
  exact key i.toNat (by omega)
theorem R1at1 {h : sw_H} (hJ : cJ h) (i : Nat) : (h 2 i = 0 → 0 ≤ h 3 i ∧ h 3 i ≤ 14) ∧ (h 2 i = 2 → 0 ≤ h 3 i ∧ h 3 i ≤ 5) := hJ.2 1 (by decide) 1 (Or.inl rfl) i
theorem R1at13 {h : sw_H} (hJ : cJ h) (i : Nat) : (h 14 i = 0 → 0 ≤ h 15 i ∧ h 15 i ≤ 14) ∧ (h 14 i = 2 → 0 ≤ h 15 i ∧ h 15 i ≤ 5) := hJ.2 1 (by decide) 13 (Or.inr rfl) i
theorem prf_of {p q : Nat → Nat → Bool} (hs : ∀ a k, p a k = true → q a k = true) {a k : Nat} (h : q a k = false) : p a k = false := by
  cases e : p a k with
  | false => rfl
  | true => rw [hs a k e] at h; cases h
/-- an item comes: its sort, then its value -/
theorem R1_add {h h1 h2 : sw_H} {c : Nat} (hc : c = 1 ∨ c = 13) {k : Nat} {s v : Int} (hR : Rg 1 h) (e1 : sw_to h h1 (c + 1) k s) (e2 : sw_to h1 h2 (c + 2) k v) (z0 : s = 0 → 0 ≤ v ∧ v ≤ 14) (z2 : s = 2 → 0 ≤ v ∧ v ≤ 5) : Rg 1 h2 := by
  intro b hb i
  have hR := hR b hb i
  have a1 := e1.1
  have b1 := e2.1
  by_cases q : b = c ∧ i = k
  · obtain ⟨rfl, rfl⟩ := q
    rw [e2.2 (b + 1) i (by omega), a1, b1]
    exact ⟨z0, z2⟩
  · have n1 : ¬ (b + 1 = c + 1 ∧ i = k) := by omega
    have n2 : ¬ (b + 1 = c + 2 ∧ i = k) := by omega
    have n3 : ¬ (b + 2 = c + 2 ∧ i = k) := by omega
    have n4 : ¬ (b + 2 = c + 1 ∧ i = k) := by omega
    rw [e2.2 (b + 1) i n2, e1.2 (b + 1) i n1, e2.2 (b + 2) i n3, e1.2 (b + 2) i n4]
    exact hR
theorem okc_of {a k : Nat} {z lo hi : Int} (h : okt a k = some (lo, hi)) : okc a k z = (lo ≤ z ∧ z ≤ hi) := by unfold okc; rw [h]
theorem okc_no {a k : Nat} {z : Int} (h : okt a k = none) : okc a k z := by unfold okc; rw [h]; trivial

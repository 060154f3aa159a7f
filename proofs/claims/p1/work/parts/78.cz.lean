def TL : List Nat := [0, 1, 12, 13, 24, 25, 27, 30, 33, 34, 36, 43, 48, 49, 50, 53, 56, 59, 62, 65, 68, 71, 74, 77, 80, 83, 86, 89, 92, 95, 98, 101, 104, 107, 110, 113, 116, 119, 122, 125, 128, 131, 134, 137, 140, 143, 146, 149, 152, 155, 158, 161, 164, 167, 170, 173, 174, 177, 182, 189, 190, 197, 199, 202, 205, 215, 218, 221, 224]
-- ===== all is made: what lies in the 290 cells =====
def hZ : sw_H := U_224 (U_0 hD)
theorem sw_up_ne {h : sw_H} {b j a k : Nat} {v : Int} (q : b ≠ a) : sw_up h b j v a k = h a k := by
  unfold sw_up
  rw [if_neg (fun e => q e.1.symm)]
theorem UT_ne {h : sw_H} {b n a k : Nat} (q : b ≠ a) : UT b n h a k = h a k := by
  unfold UT
  rw [if_neg (fun e => q e.1.symm)]
theorem nm_TL {a b : Nat} (hb : TL.contains b = true) (ha : a ∉ TL) : b ≠ a := fun e => ha (by rw [← e]; exact List.contains_iff_mem.mp hb)
def Bd (h : sw_H) : Prop := ∀ a k, -1 ≤ h a k ∧ h a k ≤ 1000
theorem Bd_up {h : sw_H} {a k : Nat} {z : Int} (B : Bd h) (h1 : -1 ≤ z ∧ z ≤ 1000) : Bd (sw_up h a k z) := by
  intro b j
  unfold sw_up
  split
  · exact h1
  · exact B b j
theorem Bd_UT {h : sw_H} {a : Nat} (B : Bd h) : Bd (UT a 57 h) := by
  intro b j
  unfold UT
  split
  · omega
  · exact B b j
theorem Bd_D : Bd hD := by
  intro a k
  unfold hD
  (repeat' split) <;> omega

theorem tc_1 (h : sw_H) (a k : Nat) (ha : a ∉ TL) : U_1 h a k = h a k := by
  unfold U_1
  rw [UT_ne (nm_TL (b := 12) rfl ha), sw_up_ne (nm_TL (b := 1) rfl ha), sw_up_ne (nm_TL (b := 1) rfl ha), sw_up_ne (nm_TL (b := 1) rfl ha), sw_up_ne (nm_TL (b := 1) rfl ha), sw_up_ne (nm_TL (b := 1) rfl ha), sw_up_ne (nm_TL (b := 1) rfl ha), sw_up_ne (nm_TL (b := 1) rfl ha), sw_up_ne (nm_TL (b := 1) rfl ha), sw_up_ne (nm_TL (b := 1) rfl ha), sw_up_ne (nm_TL (b := 1) rfl ha), sw_up_ne (nm_TL (b := 1) rfl ha)]
theorem tq_1 {h : sw_H} (B : Bd h) : Bd (U_1 h) := (Bd_UT (Bd_up (Bd_up (Bd_up (Bd_up (Bd_up (Bd_up (Bd_up (Bd_up (Bd_up (Bd_up (Bd_up B ⟨by decide, by decide⟩) ⟨by decide, by decide⟩) ⟨by decide, by decide⟩) ⟨by decide, by decide⟩) ⟨by decide, by decide⟩) ⟨by decide, by decide⟩) ⟨by decide, by decide⟩) ⟨by decide, by decide⟩) ⟨by decide, by decide⟩) ⟨by decide, by decide⟩) ⟨by decide, by decide⟩))
theorem tc_13 (h : sw_H) (a k : Nat) (ha : a ∉ TL) : U_13 h a k = h a k := by
  unfold U_13
  rw [UT_ne (nm_TL (b := 24) rfl ha), sw_up_ne (nm_TL (b := 13) rfl ha), sw_up_ne (nm_TL (b := 13) rfl ha), sw_up_ne (nm_TL (b := 13) rfl ha), sw_up_ne (nm_TL (b := 13) rfl ha), sw_up_ne (nm_TL (b := 13) rfl ha), sw_up_ne (nm_TL (b := 13) rfl ha), sw_up_ne (nm_TL (b := 13) rfl ha), sw_up_ne (nm_TL (b := 13) rfl ha), sw_up_ne (nm_TL (b := 13) rfl ha), sw_up_ne (nm_TL (b := 13) rfl ha), sw_up_ne (nm_TL (b := 13) rfl ha)]
theorem tq_13 {h : sw_H} (B : Bd h) : Bd (U_13 h) := (Bd_UT (Bd_up (Bd_up (Bd_up (Bd_up (Bd_up (Bd_up (Bd_up (Bd_up (Bd_up (Bd_up (Bd_up B ⟨by decide, by decide⟩) ⟨by decide, by decide⟩) ⟨by decide, by decide⟩) ⟨by decide, by decide⟩) ⟨by decide, by decide⟩) ⟨by decide, by decide⟩) ⟨by decide, by decide⟩) ⟨by decide, by decide⟩) ⟨by decide, by decide⟩) ⟨by decide, by decide⟩) ⟨by decide, by decide⟩))
theorem tc_27 (h : sw_H) (a k : Nat) (ha : a ∉ TL) : U_27 h a k = h a k := by
  unfold U_27
  rw [sw_up_ne (nm_TL (b := 27) rfl ha), sw_up_ne (nm_TL (b := 27) rfl ha)]
theorem tq_27 {h : sw_H} (B : Bd h) : Bd (U_27 h) := (Bd_up (Bd_up B ⟨by decide, by decide⟩) ⟨by decide, by decide⟩)
theorem tc_30 (h : sw_H) (a k : Nat) (ha : a ∉ TL) : U_30 h a k = h a k := by
  unfold U_30
  rw [sw_up_ne (nm_TL (b := 30) rfl ha), sw_up_ne (nm_TL (b := 30) rfl ha)]
theorem tq_30 {h : sw_H} (B : Bd h) : Bd (U_30 h) := (Bd_up (Bd_up B ⟨by decide, by decide⟩) ⟨by decide, by decide⟩)
theorem tc_25 (h : sw_H) (a k : Nat) (ha : a ∉ TL) : U_25 h a k = h a k := by
  unfold U_25
  rw [sw_up_ne (nm_TL (b := 25) rfl ha), tc_30 _ _ _ ha, sw_up_ne (nm_TL (b := 25) rfl ha), tc_27 _ _ _ ha, sw_up_ne (nm_TL (b := 25) rfl ha)]
theorem tq_25 {h : sw_H} (B : Bd h) : Bd (U_25 h) := (Bd_up (tq_30 (Bd_up (tq_27 (Bd_up B ⟨by decide, by decide⟩)) ⟨by decide, by decide⟩)) ⟨by decide, by decide⟩)
theorem tc_34 (h : sw_H) (a k : Nat) (ha : a ∉ TL) : U_34 h a k = h a k := by
  unfold U_34
  rw [sw_up_ne (nm_TL (b := 34) rfl ha), sw_up_ne (nm_TL (b := 34) rfl ha)]
theorem tq_34 {h : sw_H} (B : Bd h) : Bd (U_34 h) := (Bd_up (Bd_up B ⟨by decide, by decide⟩) ⟨by decide, by decide⟩)
theorem tc_36 (h : sw_H) (a k : Nat) (ha : a ∉ TL) : U_36 h a k = h a k := by
  unfold U_36
  rw [sw_up_ne (nm_TL (b := 36) rfl ha), sw_up_ne (nm_TL (b := 36) rfl ha), sw_up_ne (nm_TL (b := 36) rfl ha), sw_up_ne (nm_TL (b := 36) rfl ha), sw_up_ne (nm_TL (b := 36) rfl ha), sw_up_ne (nm_TL (b := 36) rfl ha)]
theorem tq_36 {h : sw_H} (B : Bd h) : Bd (U_36 h) := (Bd_up (Bd_up (Bd_up (Bd_up (Bd_up (Bd_up B ⟨by decide, by decide⟩) ⟨by decide, by decide⟩) ⟨by decide, by decide⟩) ⟨by decide, by decide⟩) ⟨by decide, by decide⟩) ⟨by decide, by decide⟩)
theorem tc_43 (h : sw_H) (a k : Nat) (ha : a ∉ TL) : U_43 h a k = h a k := by
  unfold U_43
  rw [sw_up_ne (nm_TL (b := 43) rfl ha), sw_up_ne (nm_TL (b := 43) rfl ha)]
theorem tq_43 {h : sw_H} (B : Bd h) : Bd (U_43 h) := (Bd_up (Bd_up B ⟨by decide, by decide⟩) ⟨by decide, by decide⟩)
theorem tc_33 (h : sw_H) (a k : Nat) (ha : a ∉ TL) : U_33 h a k = h a k := by
  unfold U_33
  rw [sw_up_ne (nm_TL (b := 33) rfl ha), sw_up_ne (nm_TL (b := 33) rfl ha), sw_up_ne (nm_TL (b := 33) rfl ha), tc_43 _ _ _ ha, sw_up_ne (nm_TL (b := 33) rfl ha), tc_36 _ _ _ ha, sw_up_ne (nm_TL (b := 33) rfl ha), tc_34 _ _ _ ha]
theorem tq_33 {h : sw_H} (B : Bd h) : Bd (U_33 h) := (Bd_up (Bd_up (Bd_up (tq_43 (Bd_up (tq_36 (Bd_up (tq_34 B) ⟨by decide, by decide⟩)) ⟨by decide, by decide⟩)) ⟨by decide, by decide⟩) ⟨by decide, by decide⟩) ⟨by decide, by decide⟩)
theorem tc_50 (h : sw_H) (a k : Nat) (ha : a ∉ TL) : U_50 h a k = h a k := by
  unfold U_50
  rw [sw_up_ne (nm_TL (b := 50) rfl ha), sw_up_ne (nm_TL (b := 50) rfl ha)]
theorem tq_50 {h : sw_H} (B : Bd h) : Bd (U_50 h) := (Bd_up (Bd_up B ⟨by decide, by decide⟩) ⟨by decide, by decide⟩)
theorem tc_53 (h : sw_H) (a k : Nat) (ha : a ∉ TL) : U_53 h a k = h a k := by
  unfold U_53
  rw [sw_up_ne (nm_TL (b := 53) rfl ha), sw_up_ne (nm_TL (b := 53) rfl ha)]
theorem tq_53 {h : sw_H} (B : Bd h) : Bd (U_53 h) := (Bd_up (Bd_up B ⟨by decide, by decide⟩) ⟨by decide, by decide⟩)
theorem tc_56 (h : sw_H) (a k : Nat) (ha : a ∉ TL) : U_56 h a k = h a k := by
  unfold U_56
  rw [sw_up_ne (nm_TL (b := 56) rfl ha), sw_up_ne (nm_TL (b := 56) rfl ha)]
theorem tq_56 {h : sw_H} (B : Bd h) : Bd (U_56 h) := (Bd_up (Bd_up B ⟨by decide, by decide⟩) ⟨by decide, by decide⟩)
theorem tc_59 (h : sw_H) (a k : Nat) (ha : a ∉ TL) : U_59 h a k = h a k := by
  unfold U_59
  rw [sw_up_ne (nm_TL (b := 59) rfl ha), sw_up_ne (nm_TL (b := 59) rfl ha)]
theorem tq_59 {h : sw_H} (B : Bd h) : Bd (U_59 h) := (Bd_up (Bd_up B ⟨by decide, by decide⟩) ⟨by decide, by decide⟩)
theorem tc_62 (h : sw_H) (a k : Nat) (ha : a ∉ TL) : U_62 h a k = h a k := by
  unfold U_62
  rw [sw_up_ne (nm_TL (b := 62) rfl ha), sw_up_ne (nm_TL (b := 62) rfl ha)]
theorem tq_62 {h : sw_H} (B : Bd h) : Bd (U_62 h) := (Bd_up (Bd_up B ⟨by decide, by decide⟩) ⟨by decide, by decide⟩)
theorem tc_65 (h : sw_H) (a k : Nat) (ha : a ∉ TL) : U_65 h a k = h a k := by
  unfold U_65
  rw [sw_up_ne (nm_TL (b := 65) rfl ha), sw_up_ne (nm_TL (b := 65) rfl ha)]
theorem tq_65 {h : sw_H} (B : Bd h) : Bd (U_65 h) := (Bd_up (Bd_up B ⟨by decide, by decide⟩) ⟨by decide, by decide⟩)
theorem tc_68 (h : sw_H) (a k : Nat) (ha : a ∉ TL) : U_68 h a k = h a k := by
  unfold U_68
  rw [sw_up_ne (nm_TL (b := 68) rfl ha), sw_up_ne (nm_TL (b := 68) rfl ha)]
theorem tq_68 {h : sw_H} (B : Bd h) : Bd (U_68 h) := (Bd_up (Bd_up B ⟨by decide, by decide⟩) ⟨by decide, by decide⟩)
theorem tc_71 (h : sw_H) (a k : Nat) (ha : a ∉ TL) : U_71 h a k = h a k := by
  unfold U_71
  rw [sw_up_ne (nm_TL (b := 71) rfl ha), sw_up_ne (nm_TL (b := 71) rfl ha)]
theorem tq_71 {h : sw_H} (B : Bd h) : Bd (U_71 h) := (Bd_up (Bd_up B ⟨by decide, by decide⟩) ⟨by decide, by decide⟩)
theorem tc_74 (h : sw_H) (a k : Nat) (ha : a ∉ TL) : U_74 h a k = h a k := by
  unfold U_74
  rw [sw_up_ne (nm_TL (b := 74) rfl ha), sw_up_ne (nm_TL (b := 74) rfl ha)]
theorem tq_74 {h : sw_H} (B : Bd h) : Bd (U_74 h) := (Bd_up (Bd_up B ⟨by decide, by decide⟩) ⟨by decide, by decide⟩)
theorem tc_77 (h : sw_H) (a k : Nat) (ha : a ∉ TL) : U_77 h a k = h a k := by
  unfold U_77
  rw [sw_up_ne (nm_TL (b := 77) rfl ha), sw_up_ne (nm_TL (b := 77) rfl ha)]
theorem tq_77 {h : sw_H} (B : Bd h) : Bd (U_77 h) := (Bd_up (Bd_up B ⟨by decide, by decide⟩) ⟨by decide, by decide⟩)
theorem tc_80 (h : sw_H) (a k : Nat) (ha : a ∉ TL) : U_80 h a k = h a k := by
  unfold U_80
  rw [sw_up_ne (nm_TL (b := 80) rfl ha), sw_up_ne (nm_TL (b := 80) rfl ha)]
theorem tq_80 {h : sw_H} (B : Bd h) : Bd (U_80 h) := (Bd_up (Bd_up B ⟨by decide, by decide⟩) ⟨by decide, by decide⟩)
theorem tc_83 (h : sw_H) (a k : Nat) (ha : a ∉ TL) : U_83 h a k = h a k := by
  unfold U_83
  rw [sw_up_ne (nm_TL (b := 83) rfl ha), sw_up_ne (nm_TL (b := 83) rfl ha)]
theorem tq_83 {h : sw_H} (B : Bd h) : Bd (U_83 h) := (Bd_up (Bd_up B ⟨by decide, by decide⟩) ⟨by decide, by decide⟩)
theorem tc_86 (h : sw_H) (a k : Nat) (ha : a ∉ TL) : U_86 h a k = h a k := by
  unfold U_86
  rw [sw_up_ne (nm_TL (b := 86) rfl ha), sw_up_ne (nm_TL (b := 86) rfl ha)]
theorem tq_86 {h : sw_H} (B : Bd h) : Bd (U_86 h) := (Bd_up (Bd_up B ⟨by decide, by decide⟩) ⟨by decide, by decide⟩)
theorem tc_89 (h : sw_H) (a k : Nat) (ha : a ∉ TL) : U_89 h a k = h a k := by
  unfold U_89
  rw [sw_up_ne (nm_TL (b := 89) rfl ha), sw_up_ne (nm_TL (b := 89) rfl ha)]
theorem tq_89 {h : sw_H} (B : Bd h) : Bd (U_89 h) := (Bd_up (Bd_up B ⟨by decide, by decide⟩) ⟨by decide, by decide⟩)
theorem tc_92 (h : sw_H) (a k : Nat) (ha : a ∉ TL) : U_92 h a k = h a k := by
  unfold U_92
  rw [sw_up_ne (nm_TL (b := 92) rfl ha), sw_up_ne (nm_TL (b := 92) rfl ha)]
theorem tq_92 {h : sw_H} (B : Bd h) : Bd (U_92 h) := (Bd_up (Bd_up B ⟨by decide, by decide⟩) ⟨by decide, by decide⟩)
theorem tc_95 (h : sw_H) (a k : Nat) (ha : a ∉ TL) : U_95 h a k = h a k := by
  unfold U_95
  rw [sw_up_ne (nm_TL (b := 95) rfl ha), sw_up_ne (nm_TL (b := 95) rfl ha)]
theorem tq_95 {h : sw_H} (B : Bd h) : Bd (U_95 h) := (Bd_up (Bd_up B ⟨by decide, by decide⟩) ⟨by decide, by decide⟩)
theorem tc_98 (h : sw_H) (a k : Nat) (ha : a ∉ TL) : U_98 h a k = h a k := by
  unfold U_98
  rw [sw_up_ne (nm_TL (b := 98) rfl ha), sw_up_ne (nm_TL (b := 98) rfl ha)]
theorem tq_98 {h : sw_H} (B : Bd h) : Bd (U_98 h) := (Bd_up (Bd_up B ⟨by decide, by decide⟩) ⟨by decide, by decide⟩)
theorem tc_101 (h : sw_H) (a k : Nat) (ha : a ∉ TL) : U_101 h a k = h a k := by
  unfold U_101
  rw [sw_up_ne (nm_TL (b := 101) rfl ha), sw_up_ne (nm_TL (b := 101) rfl ha)]
theorem tq_101 {h : sw_H} (B : Bd h) : Bd (U_101 h) := (Bd_up (Bd_up B ⟨by decide, by decide⟩) ⟨by decide, by decide⟩)
theorem tc_104 (h : sw_H) (a k : Nat) (ha : a ∉ TL) : U_104 h a k = h a k := by
  unfold U_104
  rw [sw_up_ne (nm_TL (b := 104) rfl ha), sw_up_ne (nm_TL (b := 104) rfl ha)]
theorem tq_104 {h : sw_H} (B : Bd h) : Bd (U_104 h) := (Bd_up (Bd_up B ⟨by decide, by decide⟩) ⟨by decide, by decide⟩)
theorem tc_107 (h : sw_H) (a k : Nat) (ha : a ∉ TL) : U_107 h a k = h a k := by
  unfold U_107
  rw [sw_up_ne (nm_TL (b := 107) rfl ha), sw_up_ne (nm_TL (b := 107) rfl ha)]
theorem tq_107 {h : sw_H} (B : Bd h) : Bd (U_107 h) := (Bd_up (Bd_up B ⟨by decide, by decide⟩) ⟨by decide, by decide⟩)
theorem tc_110 (h : sw_H) (a k : Nat) (ha : a ∉ TL) : U_110 h a k = h a k := by
  unfold U_110
  rw [sw_up_ne (nm_TL (b := 110) rfl ha), sw_up_ne (nm_TL (b := 110) rfl ha)]
theorem tq_110 {h : sw_H} (B : Bd h) : Bd (U_110 h) := (Bd_up (Bd_up B ⟨by decide, by decide⟩) ⟨by decide, by decide⟩)
theorem tc_113 (h : sw_H) (a k : Nat) (ha : a ∉ TL) : U_113 h a k = h a k := by
  unfold U_113
  rw [sw_up_ne (nm_TL (b := 113) rfl ha), sw_up_ne (nm_TL (b := 113) rfl ha)]
theorem tq_113 {h : sw_H} (B : Bd h) : Bd (U_113 h) := (Bd_up (Bd_up B ⟨by decide, by decide⟩) ⟨by decide, by decide⟩)
theorem tc_116 (h : sw_H) (a k : Nat) (ha : a ∉ TL) : U_116 h a k = h a k := by
  unfold U_116
  rw [sw_up_ne (nm_TL (b := 116) rfl ha), sw_up_ne (nm_TL (b := 116) rfl ha)]
theorem tq_116 {h : sw_H} (B : Bd h) : Bd (U_116 h) := (Bd_up (Bd_up B ⟨by decide, by decide⟩) ⟨by decide, by decide⟩)
theorem tc_119 (h : sw_H) (a k : Nat) (ha : a ∉ TL) : U_119 h a k = h a k := by
  unfold U_119
  rw [sw_up_ne (nm_TL (b := 119) rfl ha), sw_up_ne (nm_TL (b := 119) rfl ha)]
theorem tq_119 {h : sw_H} (B : Bd h) : Bd (U_119 h) := (Bd_up (Bd_up B ⟨by decide, by decide⟩) ⟨by decide, by decide⟩)
theorem tc_122 (h : sw_H) (a k : Nat) (ha : a ∉ TL) : U_122 h a k = h a k := by
  unfold U_122
  rw [sw_up_ne (nm_TL (b := 122) rfl ha), sw_up_ne (nm_TL (b := 122) rfl ha)]
theorem tq_122 {h : sw_H} (B : Bd h) : Bd (U_122 h) := (Bd_up (Bd_up B ⟨by decide, by decide⟩) ⟨by decide, by decide⟩)
theorem tc_125 (h : sw_H) (a k : Nat) (ha : a ∉ TL) : U_125 h a k = h a k := by
  unfold U_125
  rw [sw_up_ne (nm_TL (b := 125) rfl ha), sw_up_ne (nm_TL (b := 125) rfl ha)]
theorem tq_125 {h : sw_H} (B : Bd h) : Bd (U_125 h) := (Bd_up (Bd_up B ⟨by decide, by decide⟩) ⟨by decide, by decide⟩)
theorem tc_128 (h : sw_H) (a k : Nat) (ha : a ∉ TL) : U_128 h a k = h a k := by
  unfold U_128
  rw [sw_up_ne (nm_TL (b := 128) rfl ha), sw_up_ne (nm_TL (b := 128) rfl ha)]
theorem tq_128 {h : sw_H} (B : Bd h) : Bd (U_128 h) := (Bd_up (Bd_up B ⟨by decide, by decide⟩) ⟨by decide, by decide⟩)
theorem tc_131 (h : sw_H) (a k : Nat) (ha : a ∉ TL) : U_131 h a k = h a k := by
  unfold U_131
  rw [sw_up_ne (nm_TL (b := 131) rfl ha), sw_up_ne (nm_TL (b := 131) rfl ha)]
theorem tq_131 {h : sw_H} (B : Bd h) : Bd (U_131 h) := (Bd_up (Bd_up B ⟨by decide, by decide⟩) ⟨by decide, by decide⟩)
theorem tc_134 (h : sw_H) (a k : Nat) (ha : a ∉ TL) : U_134 h a k = h a k := by
  unfold U_134
  rw [sw_up_ne (nm_TL (b := 134) rfl ha), sw_up_ne (nm_TL (b := 134) rfl ha)]
theorem tq_134 {h : sw_H} (B : Bd h) : Bd (U_134 h) := (Bd_up (Bd_up B ⟨by decide, by decide⟩) ⟨by decide, by decide⟩)
theorem tc_137 (h : sw_H) (a k : Nat) (ha : a ∉ TL) : U_137 h a k = h a k := by
  unfold U_137
  rw [sw_up_ne (nm_TL (b := 137) rfl ha), sw_up_ne (nm_TL (b := 137) rfl ha)]
theorem tq_137 {h : sw_H} (B : Bd h) : Bd (U_137 h) := (Bd_up (Bd_up B ⟨by decide, by decide⟩) ⟨by decide, by decide⟩)
theorem tc_140 (h : sw_H) (a k : Nat) (ha : a ∉ TL) : U_140 h a k = h a k := by
  unfold U_140
  rw [sw_up_ne (nm_TL (b := 140) rfl ha), sw_up_ne (nm_TL (b := 140) rfl ha)]
theorem tq_140 {h : sw_H} (B : Bd h) : Bd (U_140 h) := (Bd_up (Bd_up B ⟨by decide, by decide⟩) ⟨by decide, by decide⟩)
theorem tc_143 (h : sw_H) (a k : Nat) (ha : a ∉ TL) : U_143 h a k = h a k := by
  unfold U_143
  rw [sw_up_ne (nm_TL (b := 143) rfl ha), sw_up_ne (nm_TL (b := 143) rfl ha)]
theorem tq_143 {h : sw_H} (B : Bd h) : Bd (U_143 h) := (Bd_up (Bd_up B ⟨by decide, by decide⟩) ⟨by decide, by decide⟩)
theorem tc_146 (h : sw_H) (a k : Nat) (ha : a ∉ TL) : U_146 h a k = h a k := by
  unfold U_146
  rw [sw_up_ne (nm_TL (b := 146) rfl ha), sw_up_ne (nm_TL (b := 146) rfl ha)]
theorem tq_146 {h : sw_H} (B : Bd h) : Bd (U_146 h) := (Bd_up (Bd_up B ⟨by decide, by decide⟩) ⟨by decide, by decide⟩)
theorem tc_149 (h : sw_H) (a k : Nat) (ha : a ∉ TL) : U_149 h a k = h a k := by
  unfold U_149
  rw [sw_up_ne (nm_TL (b := 149) rfl ha), sw_up_ne (nm_TL (b := 149) rfl ha)]
theorem tq_149 {h : sw_H} (B : Bd h) : Bd (U_149 h) := (Bd_up (Bd_up B ⟨by decide, by decide⟩) ⟨by decide, by decide⟩)
theorem tc_152 (h : sw_H) (a k : Nat) (ha : a ∉ TL) : U_152 h a k = h a k := by
  unfold U_152
  rw [sw_up_ne (nm_TL (b := 152) rfl ha), sw_up_ne (nm_TL (b := 152) rfl ha)]
theorem tq_152 {h : sw_H} (B : Bd h) : Bd (U_152 h) := (Bd_up (Bd_up B ⟨by decide, by decide⟩) ⟨by decide, by decide⟩)
theorem tc_155 (h : sw_H) (a k : Nat) (ha : a ∉ TL) : U_155 h a k = h a k := by
  unfold U_155
  rw [sw_up_ne (nm_TL (b := 155) rfl ha), sw_up_ne (nm_TL (b := 155) rfl ha)]
theorem tq_155 {h : sw_H} (B : Bd h) : Bd (U_155 h) := (Bd_up (Bd_up B ⟨by decide, by decide⟩) ⟨by decide, by decide⟩)
theorem tc_158 (h : sw_H) (a k : Nat) (ha : a ∉ TL) : U_158 h a k = h a k := by
  unfold U_158
  rw [sw_up_ne (nm_TL (b := 158) rfl ha), sw_up_ne (nm_TL (b := 158) rfl ha)]
theorem tq_158 {h : sw_H} (B : Bd h) : Bd (U_158 h) := (Bd_up (Bd_up B ⟨by decide, by decide⟩) ⟨by decide, by decide⟩)
theorem tc_161 (h : sw_H) (a k : Nat) (ha : a ∉ TL) : U_161 h a k = h a k := by
  unfold U_161
  rw [sw_up_ne (nm_TL (b := 161) rfl ha), sw_up_ne (nm_TL (b := 161) rfl ha)]
theorem tq_161 {h : sw_H} (B : Bd h) : Bd (U_161 h) := (Bd_up (Bd_up B ⟨by decide, by decide⟩) ⟨by decide, by decide⟩)
theorem tc_164 (h : sw_H) (a k : Nat) (ha : a ∉ TL) : U_164 h a k = h a k := by
  unfold U_164
  rw [sw_up_ne (nm_TL (b := 164) rfl ha), sw_up_ne (nm_TL (b := 164) rfl ha)]
theorem tq_164 {h : sw_H} (B : Bd h) : Bd (U_164 h) := (Bd_up (Bd_up B ⟨by decide, by decide⟩) ⟨by decide, by decide⟩)
theorem tc_167 (h : sw_H) (a k : Nat) (ha : a ∉ TL) : U_167 h a k = h a k := by
  unfold U_167
  rw [sw_up_ne (nm_TL (b := 167) rfl ha), sw_up_ne (nm_TL (b := 167) rfl ha)]
theorem tq_167 {h : sw_H} (B : Bd h) : Bd (U_167 h) := (Bd_up (Bd_up B ⟨by decide, by decide⟩) ⟨by decide, by decide⟩)
theorem tc_170 (h : sw_H) (a k : Nat) (ha : a ∉ TL) : U_170 h a k = h a k := by
  unfold U_170
  rw [sw_up_ne (nm_TL (b := 170) rfl ha), sw_up_ne (nm_TL (b := 170) rfl ha)]
theorem tq_170 {h : sw_H} (B : Bd h) : Bd (U_170 h) := (Bd_up (Bd_up B ⟨by decide, by decide⟩) ⟨by decide, by decide⟩)
theorem tc_48 (h : sw_H) (a k : Nat) (ha : a ∉ TL) : U_48 h a k = h a k := by
  unfold U_48
  rw [sw_up_ne (nm_TL (b := 49) rfl ha), tc_170 _ _ _ ha, sw_up_ne (nm_TL (b := 49) rfl ha), tc_167 _ _ _ ha, sw_up_ne (nm_TL (b := 49) rfl ha), tc_164 _ _ _ ha, sw_up_ne (nm_TL (b := 49) rfl ha), tc_161 _ _ _ ha, sw_up_ne (nm_TL (b := 49) rfl ha), tc_158 _ _ _ ha, sw_up_ne (nm_TL (b := 49) rfl ha), tc_155 _ _ _ ha, sw_up_ne (nm_TL (b := 49) rfl ha), tc_152 _ _ _ ha, sw_up_ne (nm_TL (b := 49) rfl ha), tc_149 _ _ _ ha, sw_up_ne (nm_TL (b := 49) rfl ha), tc_146 _ _ _ ha, sw_up_ne (nm_TL (b := 49) rfl ha), tc_143 _ _ _ ha, sw_up_ne (nm_TL (b := 49) rfl ha), tc_140 _ _ _ ha, sw_up_ne (nm_TL (b := 49) rfl ha), tc_137 _ _ _ ha, sw_up_ne (nm_TL (b := 49) rfl ha), tc_134 _ _ _ ha, sw_up_ne (nm_TL (b := 49) rfl ha), tc_131 _ _ _ ha, sw_up_ne (nm_TL (b := 49) rfl ha), tc_128 _ _ _ ha, sw_up_ne (nm_TL (b := 49) rfl ha), tc_125 _ _ _ ha, sw_up_ne (nm_TL (b := 49) rfl ha), tc_122 _ _ _ ha, sw_up_ne (nm_TL (b := 49) rfl ha), tc_119 _ _ _ ha, sw_up_ne (nm_TL (b := 49) rfl ha), tc_116 _ _ _ ha, sw_up_ne (nm_TL (b := 49) rfl ha), tc_113 _ _ _ ha, sw_up_ne (nm_TL (b := 49) rfl ha), tc_110 _ _ _ ha, sw_up_ne (nm_TL (b := 49) rfl ha), tc_107 _ _ _ ha, sw_up_ne (nm_TL (b := 49) rfl ha), tc_104 _ _ _ ha, sw_up_ne (nm_TL (b := 49) rfl ha), tc_101 _ _ _ ha, sw_up_ne (nm_TL (b := 49) rfl ha), tc_98 _ _ _ ha, sw_up_ne (nm_TL (b := 49) rfl ha), tc_95 _ _ _ ha, sw_up_ne (nm_TL (b := 49) rfl ha), tc_92 _ _ _ ha, sw_up_ne (nm_TL (b := 49) rfl ha), tc_89 _ _ _ ha, sw_up_ne (nm_TL (b := 49) rfl ha), tc_86 _ _ _ ha, sw_up_ne (nm_TL (b := 49) rfl ha), tc_83 _ _ _ ha, sw_up_ne (nm_TL (b := 49) rfl ha), tc_80 _ _ _ ha, sw_up_ne (nm_TL (b := 49) rfl ha), tc_77 _ _ _ ha, sw_up_ne (nm_TL (b := 49) rfl ha), tc_74 _ _ _ ha, sw_up_ne (nm_TL (b := 49) rfl ha), tc_71 _ _ _ ha, sw_up_ne (nm_TL (b := 49) rfl ha), tc_68 _ _ _ ha, sw_up_ne (nm_TL (b := 49) rfl ha), tc_65 _ _ _ ha, sw_up_ne (nm_TL (b := 49) rfl ha), tc_62 _ _ _ ha, sw_up_ne (nm_TL (b := 49) rfl ha), tc_59 _ _ _ ha, sw_up_ne (nm_TL (b := 49) rfl ha), tc_56 _ _ _ ha, sw_up_ne (nm_TL (b := 49) rfl ha), tc_53 _ _ _ ha, sw_up_ne (nm_TL (b := 49) rfl ha), tc_50 _ _ _ ha, sw_up_ne (nm_TL (b := 48) rfl ha)]
theorem tq_48 {h : sw_H} (B : Bd h) : Bd (U_48 h) := (Bd_up (tq_170 (Bd_up (tq_167 (Bd_up (tq_164 (Bd_up (tq_161 (Bd_up (tq_158 (Bd_up (tq_155 (Bd_up (tq_152 (Bd_up (tq_149 (Bd_up (tq_146 (Bd_up (tq_143 (Bd_up (tq_140 (Bd_up (tq_137 (Bd_up (tq_134 (Bd_up (tq_131 (Bd_up (tq_128 (Bd_up (tq_125 (Bd_up (tq_122 (Bd_up (tq_119 (Bd_up (tq_116 (Bd_up (tq_113 (Bd_up (tq_110 (Bd_up (tq_107 (Bd_up (tq_104 (Bd_up (tq_101 (Bd_up (tq_98 (Bd_up (tq_95 (Bd_up (tq_92 (Bd_up (tq_89 (Bd_up (tq_86 (Bd_up (tq_83 (Bd_up (tq_80 (Bd_up (tq_77 (Bd_up (tq_74 (Bd_up (tq_71 (Bd_up (tq_68 (Bd_up (tq_65 (Bd_up (tq_62 (Bd_up (tq_59 (Bd_up (tq_56 (Bd_up (tq_53 (Bd_up (tq_50 (Bd_up B ⟨by decide, by decide⟩)) ⟨by decide, by decide⟩)) ⟨by decide, by decide⟩)) ⟨by decide, by decide⟩)) ⟨by decide, by decide⟩)) ⟨by decide, by decide⟩)) ⟨by decide, by decide⟩)) ⟨by decide, by decide⟩)) ⟨by decide, by decide⟩)) ⟨by decide, by decide⟩)) ⟨by decide, by decide⟩)) ⟨by decide, by decide⟩)) ⟨by decide, by decide⟩)) ⟨by decide, by decide⟩)) ⟨by decide, by decide⟩)) ⟨by decide, by decide⟩)) ⟨by decide, by decide⟩)) ⟨by decide, by decide⟩)) ⟨by decide, by decide⟩)) ⟨by decide, by decide⟩)) ⟨by decide, by decide⟩)) ⟨by decide, by decide⟩)) ⟨by decide, by decide⟩)) ⟨by decide, by decide⟩)) ⟨by decide, by decide⟩)) ⟨by decide, by decide⟩)) ⟨by decide, by decide⟩)) ⟨by decide, by decide⟩)) ⟨by decide, by decide⟩)) ⟨by decide, by decide⟩)) ⟨by decide, by decide⟩)) ⟨by decide, by decide⟩)) ⟨by decide, by decide⟩)) ⟨by decide, by decide⟩)) ⟨by decide, by decide⟩)) ⟨by decide, by decide⟩)) ⟨by decide, by decide⟩)) ⟨by decide, by decide⟩)) ⟨by decide, by decide⟩)) ⟨by decide, by decide⟩)) ⟨by decide, by decide⟩)) ⟨by decide, by decide⟩)
theorem tc_174 (h : sw_H) (a k : Nat) (ha : a ∉ TL) : U_174 h a k = h a k := by
  unfold U_174
  rw [sw_up_ne (nm_TL (b := 174) rfl ha), sw_up_ne (nm_TL (b := 174) rfl ha)]
theorem tq_174 {h : sw_H} (B : Bd h) : Bd (U_174 h) := (Bd_up (Bd_up B ⟨by decide, by decide⟩) ⟨by decide, by decide⟩)
theorem tc_177 (h : sw_H) (a k : Nat) (ha : a ∉ TL) : U_177 h a k = h a k := by
  unfold U_177
  rw [sw_up_ne (nm_TL (b := 177) rfl ha), sw_up_ne (nm_TL (b := 177) rfl ha), sw_up_ne (nm_TL (b := 177) rfl ha), sw_up_ne (nm_TL (b := 177) rfl ha)]
theorem tq_177 {h : sw_H} (B : Bd h) : Bd (U_177 h) := (Bd_up (Bd_up (Bd_up (Bd_up B ⟨by decide, by decide⟩) ⟨by decide, by decide⟩) ⟨by decide, by decide⟩) ⟨by decide, by decide⟩)
theorem tc_182 (h : sw_H) (a k : Nat) (ha : a ∉ TL) : U_182 h a k = h a k := by
  unfold U_182
  rw [sw_up_ne (nm_TL (b := 182) rfl ha), sw_up_ne (nm_TL (b := 182) rfl ha), sw_up_ne (nm_TL (b := 182) rfl ha), sw_up_ne (nm_TL (b := 182) rfl ha), sw_up_ne (nm_TL (b := 182) rfl ha), sw_up_ne (nm_TL (b := 182) rfl ha)]
theorem tq_182 {h : sw_H} (B : Bd h) : Bd (U_182 h) := (Bd_up (Bd_up (Bd_up (Bd_up (Bd_up (Bd_up B ⟨by decide, by decide⟩) ⟨by decide, by decide⟩) ⟨by decide, by decide⟩) ⟨by decide, by decide⟩) ⟨by decide, by decide⟩) ⟨by decide, by decide⟩)
theorem tc_190 (h : sw_H) (a k : Nat) (ha : a ∉ TL) : U_190 h a k = h a k := by
  unfold U_190
  rw [sw_up_ne (nm_TL (b := 190) rfl ha), sw_up_ne (nm_TL (b := 190) rfl ha), sw_up_ne (nm_TL (b := 190) rfl ha), sw_up_ne (nm_TL (b := 190) rfl ha), sw_up_ne (nm_TL (b := 190) rfl ha), sw_up_ne (nm_TL (b := 190) rfl ha)]
theorem tq_190 {h : sw_H} (B : Bd h) : Bd (U_190 h) := (Bd_up (Bd_up (Bd_up (Bd_up (Bd_up (Bd_up B ⟨by decide, by decide⟩) ⟨by decide, by decide⟩) ⟨by decide, by decide⟩) ⟨by decide, by decide⟩) ⟨by decide, by decide⟩) ⟨by decide, by decide⟩)
theorem tc_199 (h : sw_H) (a k : Nat) (ha : a ∉ TL) : U_199 h a k = h a k := by
  unfold U_199
  rw [sw_up_ne (nm_TL (b := 199) rfl ha), sw_up_ne (nm_TL (b := 199) rfl ha)]
theorem tq_199 {h : sw_H} (B : Bd h) : Bd (U_199 h) := (Bd_up (Bd_up B ⟨by decide, by decide⟩) ⟨by decide, by decide⟩)
theorem tc_202 (h : sw_H) (a k : Nat) (ha : a ∉ TL) : U_202 h a k = h a k := by
  unfold U_202
  rw [sw_up_ne (nm_TL (b := 202) rfl ha), sw_up_ne (nm_TL (b := 202) rfl ha)]
theorem tq_202 {h : sw_H} (B : Bd h) : Bd (U_202 h) := (Bd_up (Bd_up B ⟨by decide, by decide⟩) ⟨by decide, by decide⟩)
theorem tc_197 (h : sw_H) (a k : Nat) (ha : a ∉ TL) : U_197 h a k = h a k := by
  unfold U_197
  rw [sw_up_ne (nm_TL (b := 197) rfl ha), tc_202 _ _ _ ha, sw_up_ne (nm_TL (b := 197) rfl ha), tc_199 _ _ _ ha, sw_up_ne (nm_TL (b := 197) rfl ha)]
theorem tq_197 {h : sw_H} (B : Bd h) : Bd (U_197 h) := (Bd_up (tq_202 (Bd_up (tq_199 (Bd_up B ⟨by decide, by decide⟩)) ⟨by decide, by decide⟩)) ⟨by decide, by decide⟩)
theorem tc_205 (h : sw_H) (a k : Nat) (ha : a ∉ TL) : U_205 h a k = h a k := by
  unfold U_205
  rw [sw_up_ne (nm_TL (b := 205) rfl ha), sw_up_ne (nm_TL (b := 205) rfl ha)]
theorem tq_205 {h : sw_H} (B : Bd h) : Bd (U_205 h) := (Bd_up (Bd_up B ⟨by decide, by decide⟩) ⟨by decide, by decide⟩)
theorem tc_189 (h : sw_H) (a k : Nat) (ha : a ∉ TL) : U_189 h a k = h a k := by
  unfold U_189
  rw [sw_up_ne (nm_TL (b := 189) rfl ha), sw_up_ne (nm_TL (b := 189) rfl ha), sw_up_ne (nm_TL (b := 189) rfl ha), sw_up_ne (nm_TL (b := 189) rfl ha), sw_up_ne (nm_TL (b := 189) rfl ha), sw_up_ne (nm_TL (b := 189) rfl ha), sw_up_ne (nm_TL (b := 189) rfl ha), sw_up_ne (nm_TL (b := 189) rfl ha), tc_205 _ _ _ ha, sw_up_ne (nm_TL (b := 189) rfl ha), tc_197 _ _ _ ha, sw_up_ne (nm_TL (b := 189) rfl ha), tc_190 _ _ _ ha]
theorem tq_189 {h : sw_H} (B : Bd h) : Bd (U_189 h) := (Bd_up (Bd_up (Bd_up (Bd_up (Bd_up (Bd_up (Bd_up (Bd_up (tq_205 (Bd_up (tq_197 (Bd_up (tq_190 B) ⟨by decide, by decide⟩)) ⟨by decide, by decide⟩)) ⟨by decide, by decide⟩) ⟨by decide, by decide⟩) ⟨by decide, by decide⟩) ⟨by decide, by decide⟩) ⟨by decide, by decide⟩) ⟨by decide, by decide⟩) ⟨by decide, by decide⟩) ⟨by decide, by decide⟩)
theorem tc_215 (h : sw_H) (a k : Nat) (ha : a ∉ TL) : U_215 h a k = h a k := by
  unfold U_215
  rw [sw_up_ne (nm_TL (b := 215) rfl ha), sw_up_ne (nm_TL (b := 215) rfl ha)]
theorem tq_215 {h : sw_H} (B : Bd h) : Bd (U_215 h) := (Bd_up (Bd_up B ⟨by decide, by decide⟩) ⟨by decide, by decide⟩)
theorem tc_218 (h : sw_H) (a k : Nat) (ha : a ∉ TL) : U_218 h a k = h a k := by
  unfold U_218
  rw [sw_up_ne (nm_TL (b := 218) rfl ha), sw_up_ne (nm_TL (b := 218) rfl ha)]
theorem tq_218 {h : sw_H} (B : Bd h) : Bd (U_218 h) := (Bd_up (Bd_up B ⟨by decide, by decide⟩) ⟨by decide, by decide⟩)
theorem tc_221 (h : sw_H) (a k : Nat) (ha : a ∉ TL) : U_221 h a k = h a k := by
  unfold U_221
  rw [sw_up_ne (nm_TL (b := 221) rfl ha), sw_up_ne (nm_TL (b := 221) rfl ha)]
theorem tq_221 {h : sw_H} (B : Bd h) : Bd (U_221 h) := (Bd_up (Bd_up B ⟨by decide, by decide⟩) ⟨by decide, by decide⟩)
theorem tc_0 (h : sw_H) (a k : Nat) (ha : a ∉ TL) : U_0 h a k = h a k := by
  unfold U_0
  rw [sw_up_ne (nm_TL (b := 173) rfl ha), tc_221 _ _ _ ha, sw_up_ne (nm_TL (b := 173) rfl ha), tc_218 _ _ _ ha, sw_up_ne (nm_TL (b := 173) rfl ha), tc_215 _ _ _ ha, sw_up_ne (nm_TL (b := 0) rfl ha), sw_up_ne (nm_TL (b := 0) rfl ha), tc_189 _ _ _ ha, sw_up_ne (nm_TL (b := 0) rfl ha), tc_182 _ _ _ ha, sw_up_ne (nm_TL (b := 0) rfl ha), tc_177 _ _ _ ha, sw_up_ne (nm_TL (b := 0) rfl ha), tc_174 _ _ _ ha, sw_up_ne (nm_TL (b := 0) rfl ha), sw_up_ne (nm_TL (b := 0) rfl ha), tc_48 _ _ _ ha, sw_up_ne (nm_TL (b := 0) rfl ha), tc_33 _ _ _ ha, sw_up_ne (nm_TL (b := 0) rfl ha), tc_25 _ _ _ ha, sw_up_ne (nm_TL (b := 0) rfl ha), tc_13 _ _ _ ha, sw_up_ne (nm_TL (b := 0) rfl ha), tc_1 _ _ _ ha]
theorem tq_0 {h : sw_H} (B : Bd h) : Bd (U_0 h) := (Bd_up (tq_221 (Bd_up (tq_218 (Bd_up (tq_215 (Bd_up (Bd_up (tq_189 (Bd_up (tq_182 (Bd_up (tq_177 (Bd_up (tq_174 (Bd_up (Bd_up (tq_48 (Bd_up (tq_33 (Bd_up (tq_25 (Bd_up (tq_13 (Bd_up (tq_1 B) ⟨by decide, by decide⟩)) ⟨by decide, by decide⟩)) ⟨by decide, by decide⟩)) ⟨by decide, by decide⟩)) ⟨by decide, by decide⟩) ⟨by decide, by decide⟩)) ⟨by decide, by decide⟩)) ⟨by decide, by decide⟩)) ⟨by decide, by decide⟩)) ⟨by decide, by decide⟩) ⟨by decide, by decide⟩)) ⟨by decide, by decide⟩)) ⟨by decide, by decide⟩)) ⟨by decide, by decide⟩)
theorem tc_224 (h : sw_H) (a k : Nat) (ha : a ∉ TL) : U_224 h a k = h a k := by
  unfold U_224
  rw [sw_up_ne (nm_TL (b := 224) rfl ha), sw_up_ne (nm_TL (b := 224) rfl ha), sw_up_ne (nm_TL (b := 224) rfl ha), sw_up_ne (nm_TL (b := 224) rfl ha), sw_up_ne (nm_TL (b := 224) rfl ha), sw_up_ne (nm_TL (b := 224) rfl ha), sw_up_ne (nm_TL (b := 224) rfl ha), sw_up_ne (nm_TL (b := 224) rfl ha), sw_up_ne (nm_TL (b := 224) rfl ha), sw_up_ne (nm_TL (b := 224) rfl ha), sw_up_ne (nm_TL (b := 224) rfl ha), sw_up_ne (nm_TL (b := 224) rfl ha), sw_up_ne (nm_TL (b := 224) rfl ha), sw_up_ne (nm_TL (b := 224) rfl ha), sw_up_ne (nm_TL (b := 224) rfl ha), sw_up_ne (nm_TL (b := 224) rfl ha), sw_up_ne (nm_TL (b := 224) rfl ha), sw_up_ne (nm_TL (b := 224) rfl ha), sw_up_ne (nm_TL (b := 224) rfl ha), sw_up_ne (nm_TL (b := 224) rfl ha), sw_up_ne (nm_TL (b := 224) rfl ha), sw_up_ne (nm_TL (b := 224) rfl ha), sw_up_ne (nm_TL (b := 224) rfl ha), sw_up_ne (nm_TL (b := 224) rfl ha), sw_up_ne (nm_TL (b := 224) rfl ha), sw_up_ne (nm_TL (b := 224) rfl ha), sw_up_ne (nm_TL (b := 224) rfl ha), sw_up_ne (nm_TL (b := 224) rfl ha), sw_up_ne (nm_TL (b := 224) rfl ha), sw_up_ne (nm_TL (b := 224) rfl ha), sw_up_ne (nm_TL (b := 224) rfl ha), sw_up_ne (nm_TL (b := 224) rfl ha), sw_up_ne (nm_TL (b := 224) rfl ha), sw_up_ne (nm_TL (b := 224) rfl ha), sw_up_ne (nm_TL (b := 224) rfl ha), sw_up_ne (nm_TL (b := 224) rfl ha), sw_up_ne (nm_TL (b := 224) rfl ha), sw_up_ne (nm_TL (b := 224) rfl ha), sw_up_ne (nm_TL (b := 224) rfl ha), sw_up_ne (nm_TL (b := 224) rfl ha), sw_up_ne (nm_TL (b := 224) rfl ha), sw_up_ne (nm_TL (b := 224) rfl ha), sw_up_ne (nm_TL (b := 224) rfl ha), sw_up_ne (nm_TL (b := 224) rfl ha), sw_up_ne (nm_TL (b := 224) rfl ha), sw_up_ne (nm_TL (b := 224) rfl ha), sw_up_ne (nm_TL (b := 224) rfl ha), sw_up_ne (nm_TL (b := 224) rfl ha), sw_up_ne (nm_TL (b := 224) rfl ha), sw_up_ne (nm_TL (b := 224) rfl ha), sw_up_ne (nm_TL (b := 224) rfl ha), sw_up_ne (nm_TL (b := 224) rfl ha), sw_up_ne (nm_TL (b := 224) rfl ha), sw_up_ne (nm_TL (b := 224) rfl ha), sw_up_ne (nm_TL (b := 224) rfl ha), sw_up_ne (nm_TL (b := 224) rfl ha), sw_up_ne (nm_TL (b := 224) rfl ha), sw_up_ne (nm_TL (b := 224) rfl ha), sw_up_ne (nm_TL (b := 224) rfl ha), sw_up_ne (nm_TL (b := 224) rfl ha), sw_up_ne (nm_TL (b := 224) rfl ha), sw_up_ne (nm_TL (b := 224) rfl ha), sw_up_ne (nm_TL (b := 224) rfl ha), sw_up_ne (nm_TL (b := 224) rfl ha), sw_up_ne (nm_TL (b := 224) rfl ha), sw_up_ne (nm_TL (b := 224) rfl ha), sw_up_ne (nm_TL (b := 224) rfl ha), sw_up_ne (nm_TL (b := 224) rfl ha)]
theorem tq_224 {h : sw_H} (B : Bd h) : Bd (U_224 h) := (Bd_up (Bd_up (Bd_up (Bd_up (Bd_up (Bd_up (Bd_up (Bd_up (Bd_up (Bd_up (Bd_up (Bd_up (Bd_up (Bd_up (Bd_up (Bd_up (Bd_up (Bd_up (Bd_up (Bd_up (Bd_up (Bd_up (Bd_up (Bd_up (Bd_up (Bd_up (Bd_up (Bd_up (Bd_up (Bd_up (Bd_up (Bd_up (Bd_up (Bd_up (Bd_up (Bd_up (Bd_up (Bd_up (Bd_up (Bd_up (Bd_up (Bd_up (Bd_up (Bd_up (Bd_up (Bd_up (Bd_up (Bd_up (Bd_up (Bd_up (Bd_up (Bd_up (Bd_up (Bd_up (Bd_up (Bd_up (Bd_up (Bd_up (Bd_up (Bd_up (Bd_up (Bd_up (Bd_up (Bd_up (Bd_up (Bd_up (Bd_up (Bd_up B ⟨by decide, by decide⟩) ⟨by decide, by decide⟩) ⟨by decide, by decide⟩) ⟨by decide, by decide⟩) ⟨by decide, by decide⟩) ⟨by decide, by decide⟩) ⟨by decide, by decide⟩) ⟨by decide, by decide⟩) ⟨by decide, by decide⟩) ⟨by decide, by decide⟩) ⟨by decide, by decide⟩) ⟨by decide, by decide⟩) ⟨by decide, by decide⟩) ⟨by decide, by decide⟩) ⟨by decide, by decide⟩) ⟨by decide, by decide⟩) ⟨by decide, by decide⟩) ⟨by decide, by decide⟩) ⟨by decide, by decide⟩) ⟨by decide, by decide⟩) ⟨by decide, by decide⟩) ⟨by decide, by decide⟩) ⟨by decide, by decide⟩) ⟨by decide, by decide⟩) ⟨by decide, by decide⟩) ⟨by decide, by decide⟩) ⟨by decide, by decide⟩) ⟨by decide, by decide⟩) ⟨by decide, by decide⟩) ⟨by decide, by decide⟩) ⟨by decide, by decide⟩) ⟨by decide, by decide⟩) ⟨by decide, by decide⟩) ⟨by decide, by decide⟩) ⟨by decide, by decide⟩) ⟨by decide, by decide⟩) ⟨by decide, by decide⟩) ⟨by decide, by decide⟩) ⟨by decide, by decide⟩) ⟨by decide, by decide⟩) ⟨by decide, by decide⟩) ⟨by decide, by decide⟩) ⟨by decide, by decide⟩) ⟨by decide, by decide⟩) ⟨by decide, by decide⟩) ⟨by decide, by decide⟩) ⟨by decide, by decide⟩) ⟨by decide, by decide⟩) ⟨by decide, by decide⟩) ⟨by decide, by decide⟩) ⟨by decide, by decide⟩) ⟨by decide, by decide⟩) ⟨by decide, by decide⟩) ⟨by decide, by decide⟩) ⟨by decide, by decide⟩) ⟨by decide, by decide⟩) ⟨by decide, by decide⟩) ⟨by decide, by decide⟩) ⟨by decide, by decide⟩) ⟨by decide, by decide⟩) ⟨by decide, by decide⟩) ⟨by decide, by decide⟩) ⟨by decide, by decide⟩) ⟨by decide, by decide⟩) ⟨by decide, by decide⟩) ⟨by decide, by decide⟩) ⟨by decide, by decide⟩) ⟨by decide, by decide⟩)
theorem hZ_D {a k : Nat} (ha : a ∉ TL) : hZ a k = hD a k := by
  unfold hZ
  rw [tc_224 _ _ _ ha, tc_0 _ _ _ ha]
theorem hZ_B : Bd hZ := tq_224 (tq_0 Bd_D)
def kdB (a : Nat) : Bool := TL.contains a || (match S2 a with | some (c, _) => Nat.ble 100 c && !(Nat.beq c 104) | none => true)
set_option maxRecDepth 20000 in
theorem kd_all : (List.range 290).all kdB = true := by decide +kernel
theorem S2_none {a : Nat} (h : 290 ≤ a) : S2 a = none := by
  unfold S2 SH
  rw [if_pos h]
theorem hZ_0 {a k : Nat} (ha : a ∉ TL) : hZ a k = 0 := by
  rw [hZ_D ha]
  unfold hD
  by_cases h : 290 ≤ a
  · rw [S2_none h]
  · have e := List.all_eq_true.mp kd_all a (List.mem_range.mpr (by omega))
    unfold kdB at e
    rw [show TL.contains a = false by cases c : TL.contains a with | false => rfl | true => exact absurd (List.contains_iff_mem.mp c) ha] at e
    cases s : S2 a with
    | none => rfl
    | some p =>
      obtain ⟨c, l⟩ := p
      rw [s] at e
      simp only [Bool.false_or, Bool.and_eq_true, Bool.not_eq_true'] at e
      have e1 := Nat.le_of_ble_eq_true e.1
      have e2 : c ≠ 104 := fun q => by rw [q] at e; simp at e
      simp only [if_neg (show ¬ c < 100 by omega), if_neg e2]
theorem sw_fs_cv {G : sw_G} {f : Nat → Int} : ∀ (l : List Nat) (i : Nat), (∀ k c, l[k]? = some c → 3 ≤ c → f (i + k) = ((c - 3 : Nat) : Int)) → sw_fs G f i (l.map (fun c => if c < 2 then c else 2)) = sw_fs G f i l
  | [], _, _ => rfl
  | c :: l, i, h => by
    have ih := sw_fs_cv (G := G) l (i + 1) (fun k c' hk hc => by
      have := h (k + 1) c' (by simpa using hk) hc
      rw [show i + 1 + k = i + (k + 1) by omega]
      exact this)
    rw [List.map_cons]
    show sw_sv G _ (f i) :: sw_fs G f (i + 1) _ = sw_sv G c (f i) :: sw_fs G f (i + 1) l
    rw [ih]
    congr 1
    match c, h with
    | 0, _ => rfl
    | 1, _ => rfl
    | 2, _ => rfl
    | t + 3, h =>
      have e := h 0 (t + 3) rfl (by omega)
      rw [Nat.add_zero] at e
      rw [if_neg (by omega), e]
      simp only [sw_sv]
      rw [if_neg (by omega)]
      congr 2
def cvB (a : Nat) : Bool := match SH a with
  | none => true
  | some (k, l) => if k < 100 then (List.range l.length).all (fun i => Nat.blt (l.getD i 0) 3 || decide (hZ a i = ((l.getD i 0 - 3 : Nat) : Int))) else if k = 105 then (List.range (l.headD 0)).all (fun i => decide (hZ a i = ((l.getD 1 0 + l.getD 2 0 * i : Nat) : Int))) else true
set_option maxRecDepth 100000 in
theorem cv_all : (List.range 290).all cvB = true := by decide +kernel
theorem cv_at {G : sw_G} {H : Heap} {a : Nat} (ha : a < 290) (h : va_at G.2.1 vwCl (sw_ad G a, sw_ce G (hZ a) (S2 a)) H) : va_at G.2.1 vwCl (sw_ad G a, sw_ce G (hZ a) (SH a)) H := by
  have hc := List.all_eq_true.mp cv_all a (List.mem_range.mpr ha)
  unfold S2 at h
  unfold cvB at hc
  cases hs : SH a with
  | none => rw [hs] at h; exact h
  | some p =>
    obtain ⟨k, l⟩ := p
    rw [hs] at h hc
    dsimp only at h hc
    by_cases q : k < 100
    · rw [if_pos q] at h hc
      rw [sw_ce_obj q] at h ⊢
      rw [sw_fs_cv l 0 (fun i c hi h3 => ?_)] at h
      · exact h
      · have hl : i < l.length := (List.getElem?_eq_some_iff.mp hi).1
        have e := List.all_eq_true.mp hc i (List.mem_range.mpr hl)
        rw [show l.getD i 0 = c by rw [List.getD_eq_getElem?_getD, hi]; rfl] at e
        rw [Nat.zero_add]
        rcases Bool.or_eq_true_iff.mp e with e | e
        · exfalso
          have := Nat.le_of_ble_eq_true e
          omega
        · exact of_decide_eq_true e
    · rw [if_neg q] at h hc
      by_cases q5 : k = 105
      · rw [if_pos q5] at h hc
        subst q5
        have e1 : sw_ce G (hZ a) (some (104, l.take 1)) = .inl (G.2.2.1 4, l.headD 0, .inr (.inr (.inr (.inr (fun i => if hZ a i < 0 then none else some (sw_ad G (hZ a i).toNat)))))) := by
          cases l <;> simp [sw_ce]
        have e2 : sw_ce G (hZ a) (some (105, l)) = .inl (G.2.2.1 4, l.headD 0, .inr (.inr (.inr (.inr (fun i => some (sw_ad G (l.getD 1 0 + l.getD 2 0 * i))))))) := by
          simp [sw_ce]
        rw [e1] at h
        rw [e2]
        have h' : H[sw_ad G a]? = some (arrV (G.2.2.1 4) (l.headD 0) (fun j => va_rf (if hZ a j < 0 then none else some (sw_ad G (hZ a j).toNat)))) := h
        show H[sw_ad G a]? = some (arrV (G.2.2.1 4) (l.headD 0) (fun j => va_rf (some (sw_ad G (l.getD 1 0 + l.getD 2 0 * j)))))
        rw [h']
        congr 1
        unfold arrV
        congr 1
        apply congrArg
        funext j
        have e := of_decide_eq_true (List.all_eq_true.mp hc j.val (List.mem_range.mpr j.isLt))
        show va_rf (if hZ a j.val < 0 then none else some (sw_ad G (hZ a j.val).toNat)) = va_rf (some (sw_ad G (l.getD 1 0 + l.getD 2 0 * j.val)))
        rw [e, if_neg (by omega), Int.toNat_natCast]
      · rw [if_neg q5] at h
        exact h
theorem cv_Z {G : sw_G} (H : Heap) (hP : va_P G.2.1 vwCl (sw_ws G 290 S2 hZ) H) : va_P G.2.1 vwCl (sw_ws G 290 SH hZ) H := by
  intro k q hk
  obtain ⟨hl, rfl⟩ := sw_ws_at hk
  exact cv_at hl (hP k _ (sw_ws_get hl))
theorem okz_0 (o : Option (Nat × List Nat)) (i : Nat) : sw_okz o i 0 := by
  unfold sw_okz sw_ok32 sw_ok64
  (repeat' split) <;> omega
def kdO (a : Nat) : Bool := match SH a with | some (c, _) => Nat.blt c 100 || Nat.beq c 100 || Nat.beq c 105 | none => true
theorem kdO_all : TL.all kdO = true := by decide +kernel
theorem ok_Z : sw_okH SH hZ := by
  intro a i
  by_cases ha : a ∈ TL
  · have e := List.all_eq_true.mp kdO_all a ha
    have b := hZ_B a i
    unfold kdO at e
    unfold sw_okz
    cases s : SH a with
    | none => show sw_ok32 _; unfold sw_ok32; omega
    | some p =>
      obtain ⟨c, l⟩ := p
      rw [s] at e
      dsimp only at e ⊢
      simp only [Bool.or_eq_true] at e
      by_cases q : c < 100
      · rw [if_pos q]
        split
        · unfold sw_ok64; omega
        · unfold sw_ok32; omega
      · have : c = 100 ∨ c = 105 := by
          rcases e with (e | e) | e
          · exact absurd (Nat.le_of_ble_eq_true e) (by omega)
          · exact Or.inl (Nat.eq_of_beq_eq_true e)
          · exact Or.inr (Nat.eq_of_beq_eq_true e)
        rcases this with rfl | rfl
        · show sw_ok32 _; unfold sw_ok32; omega
        · show sw_ok32 _; unfold sw_ok32; omega
  · rw [hZ_0 ha]
    exact okz_0 _ _
theorem ok_D : sw_okH S2 hD := by
  intro a i
  have b := Bd_D a i
  by_cases q0 : hD a i = 0
  · rw [q0]; exact okz_0 _ _
  · unfold hD at q0 b ⊢
    unfold sw_okz
    cases s : S2 a with
    | none => rw [s] at q0; exact absurd rfl q0
    | some p =>
      obtain ⟨c, l⟩ := p
      rw [s] at q0 b
      dsimp only at q0 b ⊢
      by_cases q : c < 100
      · rw [if_pos q] at q0 b ⊢
        rw [if_pos q]
        split
        · unfold sw_ok64; omega
        · unfold sw_ok32; omega
      · rw [if_neg q] at q0 b ⊢
        rw [if_neg q]
        by_cases q4 : c = 104
        · subst q4
          show sw_ok32 _
          unfold sw_ok32
          omega
        · rw [if_neg q4] at q0
          exact absurd rfl q0
def gdP (o : Option (Int × Int)) : Prop := match o with | none => True | some p => p.1 ≤ 0 ∧ 0 ≤ p.2
theorem gd_ite {c : Prop} [Decidable c] {x y : Option (Int × Int)} (hx : gdP x) (hy : gdP y) : gdP (if c then x else y) := by
  split
  · exact hx
  · exact hy
theorem gd_s {x y : Int} (h : x ≤ 0 ∧ 0 ≤ y) : gdP (some (x, y)) := h
theorem gd_n : gdP none := trivial
theorem gd_o (k : Nat) : gdP (omt_o k) := by
  unfold omt_o
  split <;> first | exact gd_n | exact gd_s ⟨by decide, by decide⟩
theorem gd_a (k : Nat) : gdP (omt_a k) := by
  unfold omt_a
  exact gd_ite (gd_s ⟨by decide, by decide⟩) (gd_ite (gd_s ⟨by decide, by decide⟩) gd_n)
theorem gd_m (a k : Nat) : gdP (omt a k) := by
  unfold omt
  repeat' (first | exact gd_n | exact gd_o k | exact gd_a k | exact gd_s ⟨by decide, by decide⟩ | apply gd_ite)
theorem omc_0 (a k : Nat) : omc a k 0 := by
  have := gd_m a k
  unfold omc
  cases e : omt a k with
  | none => trivial
  | some p => rw [e] at this; exact this
theorem gd_okt_0 (k : Nat) : gdP (okt_0 k) := by
  unfold okt_0
  first | exact gd_s ⟨by decide, by decide⟩ | (split <;> first | exact gd_n | exact gd_s ⟨by decide, by decide⟩)
theorem gd_okt_1 (k : Nat) : gdP (okt_1 k) := by
  unfold okt_1
  first | exact gd_s ⟨by decide, by decide⟩ | (split <;> first | exact gd_n | exact gd_s ⟨by decide, by decide⟩)
theorem gd_okt_4 (k : Nat) : gdP (okt_4 k) := by
  unfold okt_4
  first | exact gd_s ⟨by decide, by decide⟩ | (split <;> first | exact gd_n | exact gd_s ⟨by decide, by decide⟩)
theorem gd_okt_6 (k : Nat) : gdP (okt_6 k) := by
  unfold okt_6
  first | exact gd_s ⟨by decide, by decide⟩ | (split <;> first | exact gd_n | exact gd_s ⟨by decide, by decide⟩)
theorem gd_okt_7 (k : Nat) : gdP (okt_7 k) := by
  unfold okt_7
  first | exact gd_s ⟨by decide, by decide⟩ | (split <;> first | exact gd_n | exact gd_s ⟨by decide, by decide⟩)
theorem gd_okt_13 (k : Nat) : gdP (okt_13 k) := by
  unfold okt_13
  first | exact gd_s ⟨by decide, by decide⟩ | (split <;> first | exact gd_n | exact gd_s ⟨by decide, by decide⟩)
theorem gd_okt_16 (k : Nat) : gdP (okt_16 k) := by
  unfold okt_16
  first | exact gd_s ⟨by decide, by decide⟩ | (split <;> first | exact gd_n | exact gd_s ⟨by decide, by decide⟩)
theorem gd_okt_18 (k : Nat) : gdP (okt_18 k) := by
  unfold okt_18
  first | exact gd_s ⟨by decide, by decide⟩ | (split <;> first | exact gd_n | exact gd_s ⟨by decide, by decide⟩)
theorem gd_okt_19 (k : Nat) : gdP (okt_19 k) := by
  unfold okt_19
  first | exact gd_s ⟨by decide, by decide⟩ | (split <;> first | exact gd_n | exact gd_s ⟨by decide, by decide⟩)
theorem gd_okt_25 (k : Nat) : gdP (okt_25 k) := by
  unfold okt_25
  first | exact gd_s ⟨by decide, by decide⟩ | (split <;> first | exact gd_n | exact gd_s ⟨by decide, by decide⟩)
theorem gd_okt_33 (k : Nat) : gdP (okt_33 k) := by
  unfold okt_33
  first | exact gd_s ⟨by decide, by decide⟩ | (split <;> first | exact gd_n | exact gd_s ⟨by decide, by decide⟩)
theorem gd_okt_34 (k : Nat) : gdP (okt_34 k) := by
  unfold okt_34
  first | exact gd_s ⟨by decide, by decide⟩ | (split <;> first | exact gd_n | exact gd_s ⟨by decide, by decide⟩)
theorem gd_okt_36 (k : Nat) : gdP (okt_36 k) := by
  unfold okt_36
  first | exact gd_s ⟨by decide, by decide⟩ | (split <;> first | exact gd_n | exact gd_s ⟨by decide, by decide⟩)
theorem gd_okt_43 (k : Nat) : gdP (okt_43 k) := by
  unfold okt_43
  first | exact gd_s ⟨by decide, by decide⟩ | (split <;> first | exact gd_n | exact gd_s ⟨by decide, by decide⟩)
theorem gd_okt_47 (k : Nat) : gdP (okt_47 k) := by
  unfold okt_47
  first | exact gd_s ⟨by decide, by decide⟩ | (split <;> first | exact gd_n | exact gd_s ⟨by decide, by decide⟩)
theorem gd_okt_48 (k : Nat) : gdP (okt_48 k) := by
  unfold okt_48
  first | exact gd_s ⟨by decide, by decide⟩ | (split <;> first | exact gd_n | exact gd_s ⟨by decide, by decide⟩)
theorem gd_okt_182 (k : Nat) : gdP (okt_182 k) := by
  unfold okt_182
  first | exact gd_s ⟨by decide, by decide⟩ | (split <;> first | exact gd_n | exact gd_s ⟨by decide, by decide⟩)
theorem gd_okt_183 (k : Nat) : gdP (okt_183 k) := by
  unfold okt_183
  first | exact gd_s ⟨by decide, by decide⟩ | (split <;> first | exact gd_n | exact gd_s ⟨by decide, by decide⟩)
theorem gd_okt_185 (k : Nat) : gdP (okt_185 k) := by
  unfold okt_185
  first | exact gd_s ⟨by decide, by decide⟩ | (split <;> first | exact gd_n | exact gd_s ⟨by decide, by decide⟩)
theorem gd_okt_189 (k : Nat) : gdP (okt_189 k) := by
  unfold okt_189
  first | exact gd_s ⟨by decide, by decide⟩ | (split <;> first | exact gd_n | exact gd_s ⟨by decide, by decide⟩)
theorem gd_okt_190 (k : Nat) : gdP (okt_190 k) := by
  unfold okt_190
  first | exact gd_s ⟨by decide, by decide⟩ | (split <;> first | exact gd_n | exact gd_s ⟨by decide, by decide⟩)
theorem gd_okt_197 (k : Nat) : gdP (okt_197 k) := by
  unfold okt_197
  first | exact gd_s ⟨by decide, by decide⟩ | (split <;> first | exact gd_n | exact gd_s ⟨by decide, by decide⟩)
theorem gd_okt_213 (k : Nat) : gdP (okt_213 k) := by
  unfold okt_213
  first | exact gd_s ⟨by decide, by decide⟩ | (split <;> first | exact gd_n | exact gd_s ⟨by decide, by decide⟩)
theorem gd_okt_St (k : Nat) : gdP (okt_St k) := by
  unfold okt_St
  first | exact gd_s ⟨by decide, by decide⟩ | (split <;> first | exact gd_n | exact gd_s ⟨by decide, by decide⟩)
theorem gd_c (a k : Nat) : gdP (okt a k) := by
  unfold okt
  repeat' (first | exact gd_n | exact gd_okt_0 k | exact gd_okt_1 k | exact gd_okt_4 k | exact gd_okt_6 k | exact gd_okt_7 k | exact gd_okt_13 k | exact gd_okt_16 k | exact gd_okt_18 k | exact gd_okt_19 k | exact gd_okt_25 k | exact gd_okt_33 k | exact gd_okt_34 k | exact gd_okt_36 k | exact gd_okt_43 k | exact gd_okt_47 k | exact gd_okt_48 k | exact gd_okt_182 k | exact gd_okt_183 k | exact gd_okt_185 k | exact gd_okt_189 k | exact gd_okt_190 k | exact gd_okt_197 k | exact gd_okt_213 k | exact gd_okt_St k | apply gd_ite)
theorem okc_0 (a k : Nat) : okc a k 0 := by
  have := gd_c a k
  unfold okc
  cases e : okt a k with
  | none => trivial
  | some p => rw [e] at this; exact this

-- ===== the constructors =====
theorem hd_0 : hD 0 = fun k => if [0, 2, 2, 2, 2, 2, 2, 0, 2, 2, 2, 2, 0, 0, 0].getD k 0 = 2 then -1 else 0 := by
  funext k
  unfold hD
  rw [s2_0]
  rfl
theorem hd_1 : hD 1 = fun k => if [0, 0, 0, 0, 0, 2, 2, 2, 2, 2, 2, 2, 2, 2, 2, 2].getD k 0 = 2 then -1 else 0 := by
  funext k
  unfold hD
  rw [s2_1]
  rfl
theorem hd_13 : hD 13 = fun k => if [0, 0, 0, 0, 0, 2, 2, 2, 2, 2, 2, 2, 2, 2, 2, 2].getD k 0 = 2 then -1 else 0 := by
  funext k
  unfold hD
  rw [s2_13]
  rfl
theorem hd_25 : hD 25 = fun k => if [2, 2, 0, 2, 2, 2].getD k 0 = 2 then -1 else 0 := by
  funext k
  unfold hD
  rw [s2_25]
  rfl
theorem hd_27 : hD 27 = fun k => if [2, 0, 2, 0, 0, 0].getD k 0 = 2 then -1 else 0 := by
  funext k
  unfold hD
  rw [s2_27]
  rfl
theorem hd_30 : hD 30 = fun k => if [2, 0, 2, 0, 0, 0].getD k 0 = 2 then -1 else 0 := by
  funext k
  unfold hD
  rw [s2_30]
  rfl
theorem hd_33 : hD 33 = fun k => if [2, 2, 2, 2, 2, 0, 0, 0, 0, 2].getD k 0 = 2 then -1 else 0 := by
  funext k
  unfold hD
  rw [s2_33]
  rfl
theorem hd_34 : hD 34 = fun k => if [2, 0, 0, 0, 0, 0, 1, 0, 0].getD k 0 = 2 then -1 else 0 := by
  funext k
  unfold hD
  rw [s2_34]
  rfl
theorem hd_36 : hD 36 = fun k => if [2, 0, 0, 0, 0, 0, 0, 0, 2, 2, 2, 2, 2, 2].getD k 0 = 2 then -1 else 0 := by
  funext k
  unfold hD
  rw [s2_36]
  rfl
theorem hd_43 : hD 43 = fun k => if [2, 2, 2, 0, 0].getD k 0 = 2 then -1 else 0 := by
  funext k
  unfold hD
  rw [s2_43]
  rfl
theorem hd_48 : hD 48 = fun k => if [2, 0, 0, 0].getD k 0 = 2 then -1 else 0 := by
  funext k
  unfold hD
  rw [s2_48]
  rfl
theorem hd_50 : hD 50 = fun k => if [2, 0, 2, 0, 0, 0].getD k 0 = 2 then -1 else 0 := by
  funext k
  unfold hD
  rw [s2_50]
  rfl
theorem hd_53 : hD 53 = fun k => if [2, 0, 2, 0, 0, 0].getD k 0 = 2 then -1 else 0 := by
  funext k
  unfold hD
  rw [s2_53]
  rfl
theorem hd_56 : hD 56 = fun k => if [2, 0, 2, 0, 0, 0].getD k 0 = 2 then -1 else 0 := by
  funext k
  unfold hD
  rw [s2_56]
  rfl
theorem hd_59 : hD 59 = fun k => if [2, 0, 2, 0, 0, 0].getD k 0 = 2 then -1 else 0 := by
  funext k
  unfold hD
  rw [s2_59]
  rfl
theorem hd_62 : hD 62 = fun k => if [2, 0, 2, 0, 0, 0].getD k 0 = 2 then -1 else 0 := by
  funext k
  unfold hD
  rw [s2_62]
  rfl
theorem hd_65 : hD 65 = fun k => if [2, 0, 2, 0, 0, 0].getD k 0 = 2 then -1 else 0 := by
  funext k
  unfold hD
  rw [s2_65]
  rfl
theorem hd_68 : hD 68 = fun k => if [2, 0, 2, 0, 0, 0].getD k 0 = 2 then -1 else 0 := by
  funext k
  unfold hD
  rw [s2_68]
  rfl
theorem hd_71 : hD 71 = fun k => if [2, 0, 2, 0, 0, 0].getD k 0 = 2 then -1 else 0 := by
  funext k
  unfold hD
  rw [s2_71]
  rfl
theorem hd_74 : hD 74 = fun k => if [2, 0, 2, 0, 0, 0].getD k 0 = 2 then -1 else 0 := by
  funext k
  unfold hD
  rw [s2_74]
  rfl
theorem hd_77 : hD 77 = fun k => if [2, 0, 2, 0, 0, 0].getD k 0 = 2 then -1 else 0 := by
  funext k
  unfold hD
  rw [s2_77]
  rfl
theorem hd_80 : hD 80 = fun k => if [2, 0, 2, 0, 0, 0].getD k 0 = 2 then -1 else 0 := by
  funext k
  unfold hD
  rw [s2_80]
  rfl
theorem hd_83 : hD 83 = fun k => if [2, 0, 2, 0, 0, 0].getD k 0 = 2 then -1 else 0 := by
  funext k
  unfold hD
  rw [s2_83]
  rfl
theorem hd_86 : hD 86 = fun k => if [2, 0, 2, 0, 0, 0].getD k 0 = 2 then -1 else 0 := by
  funext k
  unfold hD
  rw [s2_86]
  rfl
theorem hd_89 : hD 89 = fun k => if [2, 0, 2, 0, 0, 0].getD k 0 = 2 then -1 else 0 := by
  funext k
  unfold hD
  rw [s2_89]
  rfl
theorem hd_92 : hD 92 = fun k => if [2, 0, 2, 0, 0, 0].getD k 0 = 2 then -1 else 0 := by
  funext k
  unfold hD
  rw [s2_92]
  rfl
theorem hd_95 : hD 95 = fun k => if [2, 0, 2, 0, 0, 0].getD k 0 = 2 then -1 else 0 := by
  funext k
  unfold hD
  rw [s2_95]
  rfl
theorem hd_98 : hD 98 = fun k => if [2, 0, 2, 0, 0, 0].getD k 0 = 2 then -1 else 0 := by
  funext k
  unfold hD
  rw [s2_98]
  rfl
theorem hd_101 : hD 101 = fun k => if [2, 0, 2, 0, 0, 0].getD k 0 = 2 then -1 else 0 := by
  funext k
  unfold hD
  rw [s2_101]
  rfl
theorem hd_104 : hD 104 = fun k => if [2, 0, 2, 0, 0, 0].getD k 0 = 2 then -1 else 0 := by
  funext k
  unfold hD
  rw [s2_104]
  rfl
theorem hd_107 : hD 107 = fun k => if [2, 0, 2, 0, 0, 0].getD k 0 = 2 then -1 else 0 := by
  funext k
  unfold hD
  rw [s2_107]
  rfl
theorem hd_110 : hD 110 = fun k => if [2, 0, 2, 0, 0, 0].getD k 0 = 2 then -1 else 0 := by
  funext k
  unfold hD
  rw [s2_110]
  rfl
theorem hd_113 : hD 113 = fun k => if [2, 0, 2, 0, 0, 0].getD k 0 = 2 then -1 else 0 := by
  funext k
  unfold hD
  rw [s2_113]
  rfl
theorem hd_116 : hD 116 = fun k => if [2, 0, 2, 0, 0, 0].getD k 0 = 2 then -1 else 0 := by
  funext k
  unfold hD
  rw [s2_116]
  rfl
theorem hd_119 : hD 119 = fun k => if [2, 0, 2, 0, 0, 0].getD k 0 = 2 then -1 else 0 := by
  funext k
  unfold hD
  rw [s2_119]
  rfl
theorem hd_122 : hD 122 = fun k => if [2, 0, 2, 0, 0, 0].getD k 0 = 2 then -1 else 0 := by
  funext k
  unfold hD
  rw [s2_122]
  rfl
theorem hd_125 : hD 125 = fun k => if [2, 0, 2, 0, 0, 0].getD k 0 = 2 then -1 else 0 := by
  funext k
  unfold hD
  rw [s2_125]
  rfl
theorem hd_128 : hD 128 = fun k => if [2, 0, 2, 0, 0, 0].getD k 0 = 2 then -1 else 0 := by
  funext k
  unfold hD
  rw [s2_128]
  rfl
theorem hd_131 : hD 131 = fun k => if [2, 0, 2, 0, 0, 0].getD k 0 = 2 then -1 else 0 := by
  funext k
  unfold hD
  rw [s2_131]
  rfl
theorem hd_134 : hD 134 = fun k => if [2, 0, 2, 0, 0, 0].getD k 0 = 2 then -1 else 0 := by
  funext k
  unfold hD
  rw [s2_134]
  rfl
theorem hd_137 : hD 137 = fun k => if [2, 0, 2, 0, 0, 0].getD k 0 = 2 then -1 else 0 := by
  funext k
  unfold hD
  rw [s2_137]
  rfl
theorem hd_140 : hD 140 = fun k => if [2, 0, 2, 0, 0, 0].getD k 0 = 2 then -1 else 0 := by
  funext k
  unfold hD
  rw [s2_140]
  rfl
theorem hd_143 : hD 143 = fun k => if [2, 0, 2, 0, 0, 0].getD k 0 = 2 then -1 else 0 := by
  funext k
  unfold hD
  rw [s2_143]
  rfl
theorem hd_146 : hD 146 = fun k => if [2, 0, 2, 0, 0, 0].getD k 0 = 2 then -1 else 0 := by
  funext k
  unfold hD
  rw [s2_146]
  rfl
theorem hd_149 : hD 149 = fun k => if [2, 0, 2, 0, 0, 0].getD k 0 = 2 then -1 else 0 := by
  funext k
  unfold hD
  rw [s2_149]
  rfl
theorem hd_152 : hD 152 = fun k => if [2, 0, 2, 0, 0, 0].getD k 0 = 2 then -1 else 0 := by
  funext k
  unfold hD
  rw [s2_152]
  rfl
theorem hd_155 : hD 155 = fun k => if [2, 0, 2, 0, 0, 0].getD k 0 = 2 then -1 else 0 := by
  funext k
  unfold hD
  rw [s2_155]
  rfl
theorem hd_158 : hD 158 = fun k => if [2, 0, 2, 0, 0, 0].getD k 0 = 2 then -1 else 0 := by
  funext k
  unfold hD
  rw [s2_158]
  rfl
theorem hd_161 : hD 161 = fun k => if [2, 0, 2, 0, 0, 0].getD k 0 = 2 then -1 else 0 := by
  funext k
  unfold hD
  rw [s2_161]
  rfl
theorem hd_164 : hD 164 = fun k => if [2, 0, 2, 0, 0, 0].getD k 0 = 2 then -1 else 0 := by
  funext k
  unfold hD
  rw [s2_164]
  rfl
theorem hd_167 : hD 167 = fun k => if [2, 0, 2, 0, 0, 0].getD k 0 = 2 then -1 else 0 := by
  funext k
  unfold hD
  rw [s2_167]
  rfl
theorem hd_170 : hD 170 = fun k => if [2, 0, 2, 0, 0, 0].getD k 0 = 2 then -1 else 0 := by
  funext k
  unfold hD
  rw [s2_170]
  rfl
theorem hd_174 : hD 174 = fun k => if [2, 0, 2, 0, 0, 0].getD k 0 = 2 then -1 else 0 := by
  funext k
  unfold hD
  rw [s2_174]
  rfl
theorem hd_177 : hD 177 = fun k => if [2, 2, 2, 2].getD k 0 = 2 then -1 else 0 := by
  funext k
  unfold hD
  rw [s2_177]
  rfl
theorem hd_182 : hD 182 = fun k => if [2, 0, 2, 2, 2, 2, 2, 0, 0].getD k 0 = 2 then -1 else 0 := by
  funext k
  unfold hD
  rw [s2_182]
  rfl
theorem hd_189 : hD 189 = fun k => if [2, 2, 2, 2, 2, 2, 2, 2, 0, 2, 0, 2].getD k 0 = 2 then -1 else 0 := by
  funext k
  unfold hD
  rw [s2_189]
  rfl
theorem hd_190 : hD 190 = fun k => if [2, 0, 0, 0, 0, 0, 0, 0, 2, 2, 2, 2, 2, 2].getD k 0 = 2 then -1 else 0 := by
  funext k
  unfold hD
  rw [s2_190]
  rfl
theorem hd_197 : hD 197 = fun k => if [2, 2, 0, 2, 2, 2].getD k 0 = 2 then -1 else 0 := by
  funext k
  unfold hD
  rw [s2_197]
  rfl
theorem hd_199 : hD 199 = fun k => if [2, 0, 2, 0, 0, 0].getD k 0 = 2 then -1 else 0 := by
  funext k
  unfold hD
  rw [s2_199]
  rfl
theorem hd_202 : hD 202 = fun k => if [2, 0, 2, 0, 0, 0].getD k 0 = 2 then -1 else 0 := by
  funext k
  unfold hD
  rw [s2_202]
  rfl
theorem hd_205 : hD 205 = fun k => if [2, 0, 2, 0, 0, 0].getD k 0 = 2 then -1 else 0 := by
  funext k
  unfold hD
  rw [s2_205]
  rfl
theorem hd_215 : hD 215 = fun k => if [2, 0, 2, 0, 0, 0].getD k 0 = 2 then -1 else 0 := by
  funext k
  unfold hD
  rw [s2_215]
  rfl
theorem hd_218 : hD 218 = fun k => if [2, 0, 2, 0, 0, 0].getD k 0 = 2 then -1 else 0 := by
  funext k
  unfold hD
  rw [s2_218]
  rfl
theorem hd_221 : hD 221 = fun k => if [2, 0, 2, 0, 0, 0].getD k 0 = 2 then -1 else 0 := by
  funext k
  unfold hD
  rw [s2_221]
  rfl
theorem hd_224 : hD 224 = fun k => if [2, 2, 0, 0, 0, 0, 0, 0, 0, 0, 1, 2, 2, 2, 2, 2, 2, 2, 2, 2, 2, 2, 2, 2, 2, 2, 2, 2, 2, 2, 2, 2, 2, 2, 2, 2, 0, 0, 0, 0, 0, 0, 2, 2, 2, 2, 2, 2, 2, 2, 2, 0, 0, 0, 0, 0, 0, 0, 0, 0, 0, 2, 2, 2, 2, 2, 2, 0, 0, 0, 0, 0, 2, 0, 0, 2, 2, 2, 2, 0, 2, 2, 2, 0, 0, 0, 2, 2, 2, 2, 2, 2, 2, 2, 2, 2, 2, 2, 2, 0, 0, 2, 2].getD k 0 = 2 then -1 else 0 := by
  funext k
  unfold hD
  rw [s2_224]
  rfl
theorem dv_0 : ∀ (G : sw_G) (j : Nat), j < 15 → defaultValue (tyX11 j) = vp_V (sw_fs G (hD 0) 0 [0, 2, 2, 2, 2, 2, 2, 0, 2, 2, 2, 2, 0, 0, 0]) j
  | G, 0, _ => (by rw [hd_0]; rfl)
  | G, 1, _ => (by rw [hd_0]; rfl)
  | G, 2, _ => (by rw [hd_0]; rfl)
  | G, 3, _ => (by rw [hd_0]; rfl)
  | G, 4, _ => (by rw [hd_0]; rfl)
  | G, 5, _ => (by rw [hd_0]; rfl)
  | G, 6, _ => (by rw [hd_0]; rfl)
  | G, 7, _ => (by rw [hd_0]; rfl)
  | G, 8, _ => (by rw [hd_0]; rfl)
  | G, 9, _ => (by rw [hd_0]; rfl)
  | G, 10, _ => (by rw [hd_0]; rfl)
  | G, 11, _ => (by rw [hd_0]; rfl)
  | G, 12, _ => (by rw [hd_0]; rfl)
  | G, 13, _ => (by rw [hd_0]; rfl)
  | G, 14, _ => (by rw [hd_0]; rfl)
  | _, n + 15, q => absurd q (by omega)
theorem dv_1 : ∀ (G : sw_G) (j : Nat), j < 16 → defaultValue (tyX0 j) = vp_V (sw_fs G (hD 1) 0 [0, 0, 0, 0, 0, 2, 2, 2, 2, 2, 2, 2, 2, 2, 2, 2]) j
  | G, 0, _ => (by rw [hd_1]; rfl)
  | G, 1, _ => (by rw [hd_1]; rfl)
  | G, 2, _ => (by rw [hd_1]; rfl)
  | G, 3, _ => (by rw [hd_1]; rfl)
  | G, 4, _ => (by rw [hd_1]; rfl)
  | G, 5, _ => (by rw [hd_1]; rfl)
  | G, 6, _ => (by rw [hd_1]; rfl)
  | G, 7, _ => (by rw [hd_1]; rfl)
  | G, 8, _ => (by rw [hd_1]; rfl)
  | G, 9, _ => (by rw [hd_1]; rfl)
  | G, 10, _ => (by rw [hd_1]; rfl)
  | G, 11, _ => (by rw [hd_1]; rfl)
  | G, 12, _ => (by rw [hd_1]; rfl)
  | G, 13, _ => (by rw [hd_1]; rfl)
  | G, 14, _ => (by rw [hd_1]; rfl)
  | G, 15, _ => (by rw [hd_1]; rfl)
  | _, n + 16, q => absurd q (by omega)
theorem dv_13 : ∀ (G : sw_G) (j : Nat), j < 16 → defaultValue (tyX0 j) = vp_V (sw_fs G (hD 13) 0 [0, 0, 0, 0, 0, 2, 2, 2, 2, 2, 2, 2, 2, 2, 2, 2]) j
  | G, 0, _ => (by rw [hd_13]; rfl)
  | G, 1, _ => (by rw [hd_13]; rfl)
  | G, 2, _ => (by rw [hd_13]; rfl)
  | G, 3, _ => (by rw [hd_13]; rfl)
  | G, 4, _ => (by rw [hd_13]; rfl)
  | G, 5, _ => (by rw [hd_13]; rfl)
  | G, 6, _ => (by rw [hd_13]; rfl)
  | G, 7, _ => (by rw [hd_13]; rfl)
  | G, 8, _ => (by rw [hd_13]; rfl)
  | G, 9, _ => (by rw [hd_13]; rfl)
  | G, 10, _ => (by rw [hd_13]; rfl)
  | G, 11, _ => (by rw [hd_13]; rfl)
  | G, 12, _ => (by rw [hd_13]; rfl)
  | G, 13, _ => (by rw [hd_13]; rfl)
  | G, 14, _ => (by rw [hd_13]; rfl)
  | G, 15, _ => (by rw [hd_13]; rfl)
  | _, n + 16, q => absurd q (by omega)
theorem dv_25 : ∀ (G : sw_G) (j : Nat), j < 6 → defaultValue (tyX4 j) = vp_V (sw_fs G (hD 25) 0 [2, 2, 0, 2, 2, 2]) j
  | G, 0, _ => (by rw [hd_25]; rfl)
  | G, 1, _ => (by rw [hd_25]; rfl)
  | G, 2, _ => (by rw [hd_25]; rfl)
  | G, 3, _ => (by rw [hd_25]; rfl)
  | G, 4, _ => (by rw [hd_25]; rfl)
  | G, 5, _ => (by rw [hd_25]; rfl)
  | _, n + 6, q => absurd q (by omega)
theorem dv_27 : ∀ (G : sw_G) (j : Nat), j < 6 → defaultValue (tyX8 j) = vp_V (sw_fs G (hD 27) 0 [2, 0, 2, 0, 0, 0]) j
  | G, 0, _ => (by rw [hd_27]; rfl)
  | G, 1, _ => (by rw [hd_27]; rfl)
  | G, 2, _ => (by rw [hd_27]; rfl)
  | G, 3, _ => (by rw [hd_27]; rfl)
  | G, 4, _ => (by rw [hd_27]; rfl)
  | G, 5, _ => (by rw [hd_27]; rfl)
  | _, n + 6, q => absurd q (by omega)
theorem dv_30 : ∀ (G : sw_G) (j : Nat), j < 6 → defaultValue (tyX8 j) = vp_V (sw_fs G (hD 30) 0 [2, 0, 2, 0, 0, 0]) j
  | G, 0, _ => (by rw [hd_30]; rfl)
  | G, 1, _ => (by rw [hd_30]; rfl)
  | G, 2, _ => (by rw [hd_30]; rfl)
  | G, 3, _ => (by rw [hd_30]; rfl)
  | G, 4, _ => (by rw [hd_30]; rfl)
  | G, 5, _ => (by rw [hd_30]; rfl)
  | _, n + 6, q => absurd q (by omega)
theorem dv_33 : ∀ (G : sw_G) (j : Nat), j < 10 → defaultValue (tyX3 j) = vp_V (sw_fs G (hD 33) 0 [2, 2, 2, 2, 2, 0, 0, 0, 0, 2]) j
  | G, 0, _ => (by rw [hd_33]; rfl)
  | G, 1, _ => (by rw [hd_33]; rfl)
  | G, 2, _ => (by rw [hd_33]; rfl)
  | G, 3, _ => (by rw [hd_33]; rfl)
  | G, 4, _ => (by rw [hd_33]; rfl)
  | G, 5, _ => (by rw [hd_33]; rfl)
  | G, 6, _ => (by rw [hd_33]; rfl)
  | G, 7, _ => (by rw [hd_33]; rfl)
  | G, 8, _ => (by rw [hd_33]; rfl)
  | G, 9, _ => (by rw [hd_33]; rfl)
  | _, n + 10, q => absurd q (by omega)
theorem dv_34 : ∀ (G : sw_G) (j : Nat), j < 9 → defaultValue (tyX5 j) = vp_V (sw_fs G (hD 34) 0 [2, 0, 0, 0, 0, 0, 1, 0, 0]) j
  | G, 0, _ => (by rw [hd_34]; rfl)
  | G, 1, _ => (by rw [hd_34]; rfl)
  | G, 2, _ => (by rw [hd_34]; rfl)
  | G, 3, _ => (by rw [hd_34]; rfl)
  | G, 4, _ => (by rw [hd_34]; rfl)
  | G, 5, _ => (by rw [hd_34]; rfl)
  | G, 6, _ => (by rw [hd_34]; rfl)
  | G, 7, _ => (by rw [hd_34]; rfl)
  | G, 8, _ => (by rw [hd_34]; rfl)
  | _, n + 9, q => absurd q (by omega)
theorem dv_36 : ∀ (G : sw_G) (j : Nat), j < 14 → defaultValue (tyX10 j) = vp_V (sw_fs G (hD 36) 0 [2, 0, 0, 0, 0, 0, 0, 0, 2, 2, 2, 2, 2, 2]) j
  | G, 0, _ => (by rw [hd_36]; rfl)
  | G, 1, _ => (by rw [hd_36]; rfl)
  | G, 2, _ => (by rw [hd_36]; rfl)
  | G, 3, _ => (by rw [hd_36]; rfl)
  | G, 4, _ => (by rw [hd_36]; rfl)
  | G, 5, _ => (by rw [hd_36]; rfl)
  | G, 6, _ => (by rw [hd_36]; rfl)
  | G, 7, _ => (by rw [hd_36]; rfl)
  | G, 8, _ => (by rw [hd_36]; rfl)
  | G, 9, _ => (by rw [hd_36]; rfl)
  | G, 10, _ => (by rw [hd_36]; rfl)
  | G, 11, _ => (by rw [hd_36]; rfl)
  | G, 12, _ => (by rw [hd_36]; rfl)
  | G, 13, _ => (by rw [hd_36]; rfl)
  | _, n + 14, q => absurd q (by omega)
theorem dv_43 : ∀ (G : sw_G) (j : Nat), j < 5 → defaultValue (tyX2 j) = vp_V (sw_fs G (hD 43) 0 [2, 2, 2, 0, 0]) j
  | G, 0, _ => (by rw [hd_43]; rfl)
  | G, 1, _ => (by rw [hd_43]; rfl)
  | G, 2, _ => (by rw [hd_43]; rfl)
  | G, 3, _ => (by rw [hd_43]; rfl)
  | G, 4, _ => (by rw [hd_43]; rfl)
  | _, n + 5, q => absurd q (by omega)
theorem dv_48 : ∀ (G : sw_G) (j : Nat), j < 4 → defaultValue (tyX9 j) = vp_V (sw_fs G (hD 48) 0 [2, 0, 0, 0]) j
  | G, 0, _ => (by rw [hd_48]; rfl)
  | G, 1, _ => (by rw [hd_48]; rfl)
  | G, 2, _ => (by rw [hd_48]; rfl)
  | G, 3, _ => (by rw [hd_48]; rfl)
  | _, n + 4, q => absurd q (by omega)
theorem dv_50 : ∀ (G : sw_G) (j : Nat), j < 6 → defaultValue (tyX8 j) = vp_V (sw_fs G (hD 50) 0 [2, 0, 2, 0, 0, 0]) j
  | G, 0, _ => (by rw [hd_50]; rfl)
  | G, 1, _ => (by rw [hd_50]; rfl)
  | G, 2, _ => (by rw [hd_50]; rfl)
  | G, 3, _ => (by rw [hd_50]; rfl)
  | G, 4, _ => (by rw [hd_50]; rfl)
  | G, 5, _ => (by rw [hd_50]; rfl)
  | _, n + 6, q => absurd q (by omega)
theorem dv_53 : ∀ (G : sw_G) (j : Nat), j < 6 → defaultValue (tyX8 j) = vp_V (sw_fs G (hD 53) 0 [2, 0, 2, 0, 0, 0]) j
  | G, 0, _ => (by rw [hd_53]; rfl)
  | G, 1, _ => (by rw [hd_53]; rfl)
  | G, 2, _ => (by rw [hd_53]; rfl)
  | G, 3, _ => (by rw [hd_53]; rfl)
  | G, 4, _ => (by rw [hd_53]; rfl)
  | G, 5, _ => (by rw [hd_53]; rfl)
  | _, n + 6, q => absurd q (by omega)
theorem dv_56 : ∀ (G : sw_G) (j : Nat), j < 6 → defaultValue (tyX8 j) = vp_V (sw_fs G (hD 56) 0 [2, 0, 2, 0, 0, 0]) j
  | G, 0, _ => (by rw [hd_56]; rfl)
  | G, 1, _ => (by rw [hd_56]; rfl)
  | G, 2, _ => (by rw [hd_56]; rfl)
  | G, 3, _ => (by rw [hd_56]; rfl)
  | G, 4, _ => (by rw [hd_56]; rfl)
  | G, 5, _ => (by rw [hd_56]; rfl)
  | _, n + 6, q => absurd q (by omega)
theorem dv_59 : ∀ (G : sw_G) (j : Nat), j < 6 → defaultValue (tyX8 j) = vp_V (sw_fs G (hD 59) 0 [2, 0, 2, 0, 0, 0]) j
  | G, 0, _ => (by rw [hd_59]; rfl)
  | G, 1, _ => (by rw [hd_59]; rfl)
  | G, 2, _ => (by rw [hd_59]; rfl)
  | G, 3, _ => (by rw [hd_59]; rfl)
  | G, 4, _ => (by rw [hd_59]; rfl)
  | G, 5, _ => (by rw [hd_59]; rfl)
  | _, n + 6, q => absurd q (by omega)
theorem dv_62 : ∀ (G : sw_G) (j : Nat), j < 6 → defaultValue (tyX8 j) = vp_V (sw_fs G (hD 62) 0 [2, 0, 2, 0, 0, 0]) j
  | G, 0, _ => (by rw [hd_62]; rfl)
  | G, 1, _ => (by rw [hd_62]; rfl)
  | G, 2, _ => (by rw [hd_62]; rfl)
  | G, 3, _ => (by rw [hd_62]; rfl)
  | G, 4, _ => (by rw [hd_62]; rfl)
  | G, 5, _ => (by rw [hd_62]; rfl)
  | _, n + 6, q => absurd q (by omega)
theorem dv_65 : ∀ (G : sw_G) (j : Nat), j < 6 → defaultValue (tyX8 j) = vp_V (sw_fs G (hD 65) 0 [2, 0, 2, 0, 0, 0]) j
  | G, 0, _ => (by rw [hd_65]; rfl)
  | G, 1, _ => (by rw [hd_65]; rfl)
  | G, 2, _ => (by rw [hd_65]; rfl)
  | G, 3, _ => (by rw [hd_65]; rfl)
  | G, 4, _ => (by rw [hd_65]; rfl)
  | G, 5, _ => (by rw [hd_65]; rfl)
  | _, n + 6, q => absurd q (by omega)
theorem dv_68 : ∀ (G : sw_G) (j : Nat), j < 6 → defaultValue (tyX8 j) = vp_V (sw_fs G (hD 68) 0 [2, 0, 2, 0, 0, 0]) j
  | G, 0, _ => (by rw [hd_68]; rfl)
  | G, 1, _ => (by rw [hd_68]; rfl)
  | G, 2, _ => (by rw [hd_68]; rfl)
  | G, 3, _ => (by rw [hd_68]; rfl)
  | G, 4, _ => (by rw [hd_68]; rfl)
  | G, 5, _ => (by rw [hd_68]; rfl)
  | _, n + 6, q => absurd q (by omega)
theorem dv_71 : ∀ (G : sw_G) (j : Nat), j < 6 → defaultValue (tyX8 j) = vp_V (sw_fs G (hD 71) 0 [2, 0, 2, 0, 0, 0]) j
  | G, 0, _ => (by rw [hd_71]; rfl)
  | G, 1, _ => (by rw [hd_71]; rfl)
  | G, 2, _ => (by rw [hd_71]; rfl)
  | G, 3, _ => (by rw [hd_71]; rfl)
  | G, 4, _ => (by rw [hd_71]; rfl)
  | G, 5, _ => (by rw [hd_71]; rfl)
  | _, n + 6, q => absurd q (by omega)
theorem dv_74 : ∀ (G : sw_G) (j : Nat), j < 6 → defaultValue (tyX8 j) = vp_V (sw_fs G (hD 74) 0 [2, 0, 2, 0, 0, 0]) j
  | G, 0, _ => (by rw [hd_74]; rfl)
  | G, 1, _ => (by rw [hd_74]; rfl)
  | G, 2, _ => (by rw [hd_74]; rfl)
  | G, 3, _ => (by rw [hd_74]; rfl)
  | G, 4, _ => (by rw [hd_74]; rfl)
  | G, 5, _ => (by rw [hd_74]; rfl)
  | _, n + 6, q => absurd q (by omega)
theorem dv_77 : ∀ (G : sw_G) (j : Nat), j < 6 → defaultValue (tyX8 j) = vp_V (sw_fs G (hD 77) 0 [2, 0, 2, 0, 0, 0]) j
  | G, 0, _ => (by rw [hd_77]; rfl)
  | G, 1, _ => (by rw [hd_77]; rfl)
  | G, 2, _ => (by rw [hd_77]; rfl)
  | G, 3, _ => (by rw [hd_77]; rfl)
  | G, 4, _ => (by rw [hd_77]; rfl)
  | G, 5, _ => (by rw [hd_77]; rfl)
  | _, n + 6, q => absurd q (by omega)
theorem dv_80 : ∀ (G : sw_G) (j : Nat), j < 6 → defaultValue (tyX8 j) = vp_V (sw_fs G (hD 80) 0 [2, 0, 2, 0, 0, 0]) j
  | G, 0, _ => (by rw [hd_80]; rfl)
  | G, 1, _ => (by rw [hd_80]; rfl)
  | G, 2, _ => (by rw [hd_80]; rfl)
  | G, 3, _ => (by rw [hd_80]; rfl)
  | G, 4, _ => (by rw [hd_80]; rfl)
  | G, 5, _ => (by rw [hd_80]; rfl)
  | _, n + 6, q => absurd q (by omega)
theorem dv_83 : ∀ (G : sw_G) (j : Nat), j < 6 → defaultValue (tyX8 j) = vp_V (sw_fs G (hD 83) 0 [2, 0, 2, 0, 0, 0]) j
  | G, 0, _ => (by rw [hd_83]; rfl)
  | G, 1, _ => (by rw [hd_83]; rfl)
  | G, 2, _ => (by rw [hd_83]; rfl)
  | G, 3, _ => (by rw [hd_83]; rfl)
  | G, 4, _ => (by rw [hd_83]; rfl)
  | G, 5, _ => (by rw [hd_83]; rfl)
  | _, n + 6, q => absurd q (by omega)
theorem dv_86 : ∀ (G : sw_G) (j : Nat), j < 6 → defaultValue (tyX8 j) = vp_V (sw_fs G (hD 86) 0 [2, 0, 2, 0, 0, 0]) j
  | G, 0, _ => (by rw [hd_86]; rfl)
  | G, 1, _ => (by rw [hd_86]; rfl)
  | G, 2, _ => (by rw [hd_86]; rfl)
  | G, 3, _ => (by rw [hd_86]; rfl)
  | G, 4, _ => (by rw [hd_86]; rfl)
  | G, 5, _ => (by rw [hd_86]; rfl)
  | _, n + 6, q => absurd q (by omega)
theorem dv_89 : ∀ (G : sw_G) (j : Nat), j < 6 → defaultValue (tyX8 j) = vp_V (sw_fs G (hD 89) 0 [2, 0, 2, 0, 0, 0]) j
  | G, 0, _ => (by rw [hd_89]; rfl)
  | G, 1, _ => (by rw [hd_89]; rfl)
  | G, 2, _ => (by rw [hd_89]; rfl)
  | G, 3, _ => (by rw [hd_89]; rfl)
  | G, 4, _ => (by rw [hd_89]; rfl)
  | G, 5, _ => (by rw [hd_89]; rfl)
  | _, n + 6, q => absurd q (by omega)
theorem dv_92 : ∀ (G : sw_G) (j : Nat), j < 6 → defaultValue (tyX8 j) = vp_V (sw_fs G (hD 92) 0 [2, 0, 2, 0, 0, 0]) j
  | G, 0, _ => (by rw [hd_92]; rfl)
  | G, 1, _ => (by rw [hd_92]; rfl)
  | G, 2, _ => (by rw [hd_92]; rfl)
  | G, 3, _ => (by rw [hd_92]; rfl)
  | G, 4, _ => (by rw [hd_92]; rfl)
  | G, 5, _ => (by rw [hd_92]; rfl)
  | _, n + 6, q => absurd q (by omega)
theorem dv_95 : ∀ (G : sw_G) (j : Nat), j < 6 → defaultValue (tyX8 j) = vp_V (sw_fs G (hD 95) 0 [2, 0, 2, 0, 0, 0]) j
  | G, 0, _ => (by rw [hd_95]; rfl)
  | G, 1, _ => (by rw [hd_95]; rfl)
  | G, 2, _ => (by rw [hd_95]; rfl)
  | G, 3, _ => (by rw [hd_95]; rfl)
  | G, 4, _ => (by rw [hd_95]; rfl)
  | G, 5, _ => (by rw [hd_95]; rfl)
  | _, n + 6, q => absurd q (by omega)
theorem dv_98 : ∀ (G : sw_G) (j : Nat), j < 6 → defaultValue (tyX8 j) = vp_V (sw_fs G (hD 98) 0 [2, 0, 2, 0, 0, 0]) j
  | G, 0, _ => (by rw [hd_98]; rfl)
  | G, 1, _ => (by rw [hd_98]; rfl)
  | G, 2, _ => (by rw [hd_98]; rfl)
  | G, 3, _ => (by rw [hd_98]; rfl)
  | G, 4, _ => (by rw [hd_98]; rfl)
  | G, 5, _ => (by rw [hd_98]; rfl)
  | _, n + 6, q => absurd q (by omega)
theorem dv_101 : ∀ (G : sw_G) (j : Nat), j < 6 → defaultValue (tyX8 j) = vp_V (sw_fs G (hD 101) 0 [2, 0, 2, 0, 0, 0]) j
  | G, 0, _ => (by rw [hd_101]; rfl)
  | G, 1, _ => (by rw [hd_101]; rfl)
  | G, 2, _ => (by rw [hd_101]; rfl)
  | G, 3, _ => (by rw [hd_101]; rfl)
  | G, 4, _ => (by rw [hd_101]; rfl)
  | G, 5, _ => (by rw [hd_101]; rfl)
  | _, n + 6, q => absurd q (by omega)
theorem dv_104 : ∀ (G : sw_G) (j : Nat), j < 6 → defaultValue (tyX8 j) = vp_V (sw_fs G (hD 104) 0 [2, 0, 2, 0, 0, 0]) j
  | G, 0, _ => (by rw [hd_104]; rfl)
  | G, 1, _ => (by rw [hd_104]; rfl)
  | G, 2, _ => (by rw [hd_104]; rfl)
  | G, 3, _ => (by rw [hd_104]; rfl)
  | G, 4, _ => (by rw [hd_104]; rfl)
  | G, 5, _ => (by rw [hd_104]; rfl)
  | _, n + 6, q => absurd q (by omega)
theorem dv_107 : ∀ (G : sw_G) (j : Nat), j < 6 → defaultValue (tyX8 j) = vp_V (sw_fs G (hD 107) 0 [2, 0, 2, 0, 0, 0]) j
  | G, 0, _ => (by rw [hd_107]; rfl)
  | G, 1, _ => (by rw [hd_107]; rfl)
  | G, 2, _ => (by rw [hd_107]; rfl)
  | G, 3, _ => (by rw [hd_107]; rfl)
  | G, 4, _ => (by rw [hd_107]; rfl)
  | G, 5, _ => (by rw [hd_107]; rfl)
  | _, n + 6, q => absurd q (by omega)
theorem dv_110 : ∀ (G : sw_G) (j : Nat), j < 6 → defaultValue (tyX8 j) = vp_V (sw_fs G (hD 110) 0 [2, 0, 2, 0, 0, 0]) j
  | G, 0, _ => (by rw [hd_110]; rfl)
  | G, 1, _ => (by rw [hd_110]; rfl)
  | G, 2, _ => (by rw [hd_110]; rfl)
  | G, 3, _ => (by rw [hd_110]; rfl)
  | G, 4, _ => (by rw [hd_110]; rfl)
  | G, 5, _ => (by rw [hd_110]; rfl)
  | _, n + 6, q => absurd q (by omega)
theorem dv_113 : ∀ (G : sw_G) (j : Nat), j < 6 → defaultValue (tyX8 j) = vp_V (sw_fs G (hD 113) 0 [2, 0, 2, 0, 0, 0]) j
  | G, 0, _ => (by rw [hd_113]; rfl)
  | G, 1, _ => (by rw [hd_113]; rfl)
  | G, 2, _ => (by rw [hd_113]; rfl)
  | G, 3, _ => (by rw [hd_113]; rfl)
  | G, 4, _ => (by rw [hd_113]; rfl)
  | G, 5, _ => (by rw [hd_113]; rfl)
  | _, n + 6, q => absurd q (by omega)
theorem dv_116 : ∀ (G : sw_G) (j : Nat), j < 6 → defaultValue (tyX8 j) = vp_V (sw_fs G (hD 116) 0 [2, 0, 2, 0, 0, 0]) j
  | G, 0, _ => (by rw [hd_116]; rfl)
  | G, 1, _ => (by rw [hd_116]; rfl)
  | G, 2, _ => (by rw [hd_116]; rfl)
  | G, 3, _ => (by rw [hd_116]; rfl)
  | G, 4, _ => (by rw [hd_116]; rfl)
  | G, 5, _ => (by rw [hd_116]; rfl)
  | _, n + 6, q => absurd q (by omega)
theorem dv_119 : ∀ (G : sw_G) (j : Nat), j < 6 → defaultValue (tyX8 j) = vp_V (sw_fs G (hD 119) 0 [2, 0, 2, 0, 0, 0]) j
  | G, 0, _ => (by rw [hd_119]; rfl)
  | G, 1, _ => (by rw [hd_119]; rfl)
  | G, 2, _ => (by rw [hd_119]; rfl)
  | G, 3, _ => (by rw [hd_119]; rfl)
  | G, 4, _ => (by rw [hd_119]; rfl)
  | G, 5, _ => (by rw [hd_119]; rfl)
  | _, n + 6, q => absurd q (by omega)
theorem dv_122 : ∀ (G : sw_G) (j : Nat), j < 6 → defaultValue (tyX8 j) = vp_V (sw_fs G (hD 122) 0 [2, 0, 2, 0, 0, 0]) j
  | G, 0, _ => (by rw [hd_122]; rfl)
  | G, 1, _ => (by rw [hd_122]; rfl)
  | G, 2, _ => (by rw [hd_122]; rfl)
  | G, 3, _ => (by rw [hd_122]; rfl)
  | G, 4, _ => (by rw [hd_122]; rfl)
  | G, 5, _ => (by rw [hd_122]; rfl)
  | _, n + 6, q => absurd q (by omega)
theorem dv_125 : ∀ (G : sw_G) (j : Nat), j < 6 → defaultValue (tyX8 j) = vp_V (sw_fs G (hD 125) 0 [2, 0, 2, 0, 0, 0]) j
  | G, 0, _ => (by rw [hd_125]; rfl)
  | G, 1, _ => (by rw [hd_125]; rfl)
  | G, 2, _ => (by rw [hd_125]; rfl)
  | G, 3, _ => (by rw [hd_125]; rfl)
  | G, 4, _ => (by rw [hd_125]; rfl)
  | G, 5, _ => (by rw [hd_125]; rfl)
  | _, n + 6, q => absurd q (by omega)
theorem dv_128 : ∀ (G : sw_G) (j : Nat), j < 6 → defaultValue (tyX8 j) = vp_V (sw_fs G (hD 128) 0 [2, 0, 2, 0, 0, 0]) j
  | G, 0, _ => (by rw [hd_128]; rfl)
  | G, 1, _ => (by rw [hd_128]; rfl)
  | G, 2, _ => (by rw [hd_128]; rfl)
  | G, 3, _ => (by rw [hd_128]; rfl)
  | G, 4, _ => (by rw [hd_128]; rfl)
  | G, 5, _ => (by rw [hd_128]; rfl)
  | _, n + 6, q => absurd q (by omega)
theorem dv_131 : ∀ (G : sw_G) (j : Nat), j < 6 → defaultValue (tyX8 j) = vp_V (sw_fs G (hD 131) 0 [2, 0, 2, 0, 0, 0]) j
  | G, 0, _ => (by rw [hd_131]; rfl)
  | G, 1, _ => (by rw [hd_131]; rfl)
  | G, 2, _ => (by rw [hd_131]; rfl)
  | G, 3, _ => (by rw [hd_131]; rfl)
  | G, 4, _ => (by rw [hd_131]; rfl)
  | G, 5, _ => (by rw [hd_131]; rfl)
  | _, n + 6, q => absurd q (by omega)
theorem dv_134 : ∀ (G : sw_G) (j : Nat), j < 6 → defaultValue (tyX8 j) = vp_V (sw_fs G (hD 134) 0 [2, 0, 2, 0, 0, 0]) j
  | G, 0, _ => (by rw [hd_134]; rfl)
  | G, 1, _ => (by rw [hd_134]; rfl)
  | G, 2, _ => (by rw [hd_134]; rfl)
  | G, 3, _ => (by rw [hd_134]; rfl)
  | G, 4, _ => (by rw [hd_134]; rfl)
  | G, 5, _ => (by rw [hd_134]; rfl)
  | _, n + 6, q => absurd q (by omega)
theorem dv_137 : ∀ (G : sw_G) (j : Nat), j < 6 → defaultValue (tyX8 j) = vp_V (sw_fs G (hD 137) 0 [2, 0, 2, 0, 0, 0]) j
  | G, 0, _ => (by rw [hd_137]; rfl)
  | G, 1, _ => (by rw [hd_137]; rfl)
  | G, 2, _ => (by rw [hd_137]; rfl)
  | G, 3, _ => (by rw [hd_137]; rfl)
  | G, 4, _ => (by rw [hd_137]; rfl)
  | G, 5, _ => (by rw [hd_137]; rfl)
  | _, n + 6, q => absurd q (by omega)
theorem dv_140 : ∀ (G : sw_G) (j : Nat), j < 6 → defaultValue (tyX8 j) = vp_V (sw_fs G (hD 140) 0 [2, 0, 2, 0, 0, 0]) j
  | G, 0, _ => (by rw [hd_140]; rfl)
  | G, 1, _ => (by rw [hd_140]; rfl)
  | G, 2, _ => (by rw [hd_140]; rfl)
  | G, 3, _ => (by rw [hd_140]; rfl)
  | G, 4, _ => (by rw [hd_140]; rfl)
  | G, 5, _ => (by rw [hd_140]; rfl)
  | _, n + 6, q => absurd q (by omega)
theorem dv_143 : ∀ (G : sw_G) (j : Nat), j < 6 → defaultValue (tyX8 j) = vp_V (sw_fs G (hD 143) 0 [2, 0, 2, 0, 0, 0]) j
  | G, 0, _ => (by rw [hd_143]; rfl)
  | G, 1, _ => (by rw [hd_143]; rfl)
  | G, 2, _ => (by rw [hd_143]; rfl)
  | G, 3, _ => (by rw [hd_143]; rfl)
  | G, 4, _ => (by rw [hd_143]; rfl)
  | G, 5, _ => (by rw [hd_143]; rfl)
  | _, n + 6, q => absurd q (by omega)
theorem dv_146 : ∀ (G : sw_G) (j : Nat), j < 6 → defaultValue (tyX8 j) = vp_V (sw_fs G (hD 146) 0 [2, 0, 2, 0, 0, 0]) j
  | G, 0, _ => (by rw [hd_146]; rfl)
  | G, 1, _ => (by rw [hd_146]; rfl)
  | G, 2, _ => (by rw [hd_146]; rfl)
  | G, 3, _ => (by rw [hd_146]; rfl)
  | G, 4, _ => (by rw [hd_146]; rfl)
  | G, 5, _ => (by rw [hd_146]; rfl)
  | _, n + 6, q => absurd q (by omega)
theorem dv_149 : ∀ (G : sw_G) (j : Nat), j < 6 → defaultValue (tyX8 j) = vp_V (sw_fs G (hD 149) 0 [2, 0, 2, 0, 0, 0]) j
  | G, 0, _ => (by rw [hd_149]; rfl)
  | G, 1, _ => (by rw [hd_149]; rfl)
  | G, 2, _ => (by rw [hd_149]; rfl)
  | G, 3, _ => (by rw [hd_149]; rfl)
  | G, 4, _ => (by rw [hd_149]; rfl)
  | G, 5, _ => (by rw [hd_149]; rfl)
  | _, n + 6, q => absurd q (by omega)
theorem dv_152 : ∀ (G : sw_G) (j : Nat), j < 6 → defaultValue (tyX8 j) = vp_V (sw_fs G (hD 152) 0 [2, 0, 2, 0, 0, 0]) j
  | G, 0, _ => (by rw [hd_152]; rfl)
  | G, 1, _ => (by rw [hd_152]; rfl)
  | G, 2, _ => (by rw [hd_152]; rfl)
  | G, 3, _ => (by rw [hd_152]; rfl)
  | G, 4, _ => (by rw [hd_152]; rfl)
  | G, 5, _ => (by rw [hd_152]; rfl)
  | _, n + 6, q => absurd q (by omega)
theorem dv_155 : ∀ (G : sw_G) (j : Nat), j < 6 → defaultValue (tyX8 j) = vp_V (sw_fs G (hD 155) 0 [2, 0, 2, 0, 0, 0]) j
  | G, 0, _ => (by rw [hd_155]; rfl)
  | G, 1, _ => (by rw [hd_155]; rfl)
  | G, 2, _ => (by rw [hd_155]; rfl)
  | G, 3, _ => (by rw [hd_155]; rfl)
  | G, 4, _ => (by rw [hd_155]; rfl)
  | G, 5, _ => (by rw [hd_155]; rfl)
  | _, n + 6, q => absurd q (by omega)
theorem dv_158 : ∀ (G : sw_G) (j : Nat), j < 6 → defaultValue (tyX8 j) = vp_V (sw_fs G (hD 158) 0 [2, 0, 2, 0, 0, 0]) j
  | G, 0, _ => (by rw [hd_158]; rfl)
  | G, 1, _ => (by rw [hd_158]; rfl)
  | G, 2, _ => (by rw [hd_158]; rfl)
  | G, 3, _ => (by rw [hd_158]; rfl)
  | G, 4, _ => (by rw [hd_158]; rfl)
  | G, 5, _ => (by rw [hd_158]; rfl)
  | _, n + 6, q => absurd q (by omega)
theorem dv_161 : ∀ (G : sw_G) (j : Nat), j < 6 → defaultValue (tyX8 j) = vp_V (sw_fs G (hD 161) 0 [2, 0, 2, 0, 0, 0]) j
  | G, 0, _ => (by rw [hd_161]; rfl)
  | G, 1, _ => (by rw [hd_161]; rfl)
  | G, 2, _ => (by rw [hd_161]; rfl)
  | G, 3, _ => (by rw [hd_161]; rfl)
  | G, 4, _ => (by rw [hd_161]; rfl)
  | G, 5, _ => (by rw [hd_161]; rfl)
  | _, n + 6, q => absurd q (by omega)
theorem dv_164 : ∀ (G : sw_G) (j : Nat), j < 6 → defaultValue (tyX8 j) = vp_V (sw_fs G (hD 164) 0 [2, 0, 2, 0, 0, 0]) j
  | G, 0, _ => (by rw [hd_164]; rfl)
  | G, 1, _ => (by rw [hd_164]; rfl)
  | G, 2, _ => (by rw [hd_164]; rfl)
  | G, 3, _ => (by rw [hd_164]; rfl)
  | G, 4, _ => (by rw [hd_164]; rfl)
  | G, 5, _ => (by rw [hd_164]; rfl)
  | _, n + 6, q => absurd q (by omega)
theorem dv_167 : ∀ (G : sw_G) (j : Nat), j < 6 → defaultValue (tyX8 j) = vp_V (sw_fs G (hD 167) 0 [2, 0, 2, 0, 0, 0]) j
  | G, 0, _ => (by rw [hd_167]; rfl)
  | G, 1, _ => (by rw [hd_167]; rfl)
  | G, 2, _ => (by rw [hd_167]; rfl)
  | G, 3, _ => (by rw [hd_167]; rfl)
  | G, 4, _ => (by rw [hd_167]; rfl)
  | G, 5, _ => (by rw [hd_167]; rfl)
  | _, n + 6, q => absurd q (by omega)
theorem dv_170 : ∀ (G : sw_G) (j : Nat), j < 6 → defaultValue (tyX8 j) = vp_V (sw_fs G (hD 170) 0 [2, 0, 2, 0, 0, 0]) j
  | G, 0, _ => (by rw [hd_170]; rfl)
  | G, 1, _ => (by rw [hd_170]; rfl)
  | G, 2, _ => (by rw [hd_170]; rfl)
  | G, 3, _ => (by rw [hd_170]; rfl)
  | G, 4, _ => (by rw [hd_170]; rfl)
  | G, 5, _ => (by rw [hd_170]; rfl)
  | _, n + 6, q => absurd q (by omega)
theorem dv_174 : ∀ (G : sw_G) (j : Nat), j < 6 → defaultValue (tyX8 j) = vp_V (sw_fs G (hD 174) 0 [2, 0, 2, 0, 0, 0]) j
  | G, 0, _ => (by rw [hd_174]; rfl)
  | G, 1, _ => (by rw [hd_174]; rfl)
  | G, 2, _ => (by rw [hd_174]; rfl)
  | G, 3, _ => (by rw [hd_174]; rfl)
  | G, 4, _ => (by rw [hd_174]; rfl)
  | G, 5, _ => (by rw [hd_174]; rfl)
  | _, n + 6, q => absurd q (by omega)
theorem dv_177 : ∀ (G : sw_G) (j : Nat), j < 4 → defaultValue (tyX1 j) = vp_V (sw_fs G (hD 177) 0 [2, 2, 2, 2]) j
  | G, 0, _ => (by rw [hd_177]; rfl)
  | G, 1, _ => (by rw [hd_177]; rfl)
  | G, 2, _ => (by rw [hd_177]; rfl)
  | G, 3, _ => (by rw [hd_177]; rfl)
  | _, n + 4, q => absurd q (by omega)
theorem dv_182 : ∀ (G : sw_G) (j : Nat), j < 9 → defaultValue (tyX6 j) = vp_V (sw_fs G (hD 182) 0 [2, 0, 2, 2, 2, 2, 2, 0, 0]) j
  | G, 0, _ => (by rw [hd_182]; rfl)
  | G, 1, _ => (by rw [hd_182]; rfl)
  | G, 2, _ => (by rw [hd_182]; rfl)
  | G, 3, _ => (by rw [hd_182]; rfl)
  | G, 4, _ => (by rw [hd_182]; rfl)
  | G, 5, _ => (by rw [hd_182]; rfl)
  | G, 6, _ => (by rw [hd_182]; rfl)
  | G, 7, _ => (by rw [hd_182]; rfl)
  | G, 8, _ => (by rw [hd_182]; rfl)
  | _, n + 9, q => absurd q (by omega)
theorem dv_189 : ∀ (G : sw_G) (j : Nat), j < 12 → defaultValue (tyX7 j) = vp_V (sw_fs G (hD 189) 0 [2, 2, 2, 2, 2, 2, 2, 2, 0, 2, 0, 2]) j
  | G, 0, _ => (by rw [hd_189]; rfl)
  | G, 1, _ => (by rw [hd_189]; rfl)
  | G, 2, _ => (by rw [hd_189]; rfl)
  | G, 3, _ => (by rw [hd_189]; rfl)
  | G, 4, _ => (by rw [hd_189]; rfl)
  | G, 5, _ => (by rw [hd_189]; rfl)
  | G, 6, _ => (by rw [hd_189]; rfl)
  | G, 7, _ => (by rw [hd_189]; rfl)
  | G, 8, _ => (by rw [hd_189]; rfl)
  | G, 9, _ => (by rw [hd_189]; rfl)
  | G, 10, _ => (by rw [hd_189]; rfl)
  | G, 11, _ => (by rw [hd_189]; rfl)
  | _, n + 12, q => absurd q (by omega)
theorem dv_190 : ∀ (G : sw_G) (j : Nat), j < 14 → defaultValue (tyX10 j) = vp_V (sw_fs G (hD 190) 0 [2, 0, 0, 0, 0, 0, 0, 0, 2, 2, 2, 2, 2, 2]) j
  | G, 0, _ => (by rw [hd_190]; rfl)
  | G, 1, _ => (by rw [hd_190]; rfl)
  | G, 2, _ => (by rw [hd_190]; rfl)
  | G, 3, _ => (by rw [hd_190]; rfl)
  | G, 4, _ => (by rw [hd_190]; rfl)
  | G, 5, _ => (by rw [hd_190]; rfl)
  | G, 6, _ => (by rw [hd_190]; rfl)
  | G, 7, _ => (by rw [hd_190]; rfl)
  | G, 8, _ => (by rw [hd_190]; rfl)
  | G, 9, _ => (by rw [hd_190]; rfl)
  | G, 10, _ => (by rw [hd_190]; rfl)
  | G, 11, _ => (by rw [hd_190]; rfl)
  | G, 12, _ => (by rw [hd_190]; rfl)
  | G, 13, _ => (by rw [hd_190]; rfl)
  | _, n + 14, q => absurd q (by omega)
theorem dv_197 : ∀ (G : sw_G) (j : Nat), j < 6 → defaultValue (tyX4 j) = vp_V (sw_fs G (hD 197) 0 [2, 2, 0, 2, 2, 2]) j
  | G, 0, _ => (by rw [hd_197]; rfl)
  | G, 1, _ => (by rw [hd_197]; rfl)
  | G, 2, _ => (by rw [hd_197]; rfl)
  | G, 3, _ => (by rw [hd_197]; rfl)
  | G, 4, _ => (by rw [hd_197]; rfl)
  | G, 5, _ => (by rw [hd_197]; rfl)
  | _, n + 6, q => absurd q (by omega)
theorem dv_199 : ∀ (G : sw_G) (j : Nat), j < 6 → defaultValue (tyX8 j) = vp_V (sw_fs G (hD 199) 0 [2, 0, 2, 0, 0, 0]) j
  | G, 0, _ => (by rw [hd_199]; rfl)
  | G, 1, _ => (by rw [hd_199]; rfl)
  | G, 2, _ => (by rw [hd_199]; rfl)
  | G, 3, _ => (by rw [hd_199]; rfl)
  | G, 4, _ => (by rw [hd_199]; rfl)
  | G, 5, _ => (by rw [hd_199]; rfl)
  | _, n + 6, q => absurd q (by omega)
theorem dv_202 : ∀ (G : sw_G) (j : Nat), j < 6 → defaultValue (tyX8 j) = vp_V (sw_fs G (hD 202) 0 [2, 0, 2, 0, 0, 0]) j
  | G, 0, _ => (by rw [hd_202]; rfl)
  | G, 1, _ => (by rw [hd_202]; rfl)
  | G, 2, _ => (by rw [hd_202]; rfl)
  | G, 3, _ => (by rw [hd_202]; rfl)
  | G, 4, _ => (by rw [hd_202]; rfl)
  | G, 5, _ => (by rw [hd_202]; rfl)
  | _, n + 6, q => absurd q (by omega)
theorem dv_205 : ∀ (G : sw_G) (j : Nat), j < 6 → defaultValue (tyX8 j) = vp_V (sw_fs G (hD 205) 0 [2, 0, 2, 0, 0, 0]) j
  | G, 0, _ => (by rw [hd_205]; rfl)
  | G, 1, _ => (by rw [hd_205]; rfl)
  | G, 2, _ => (by rw [hd_205]; rfl)
  | G, 3, _ => (by rw [hd_205]; rfl)
  | G, 4, _ => (by rw [hd_205]; rfl)
  | G, 5, _ => (by rw [hd_205]; rfl)
  | _, n + 6, q => absurd q (by omega)
theorem dv_215 : ∀ (G : sw_G) (j : Nat), j < 6 → defaultValue (tyX8 j) = vp_V (sw_fs G (hD 215) 0 [2, 0, 2, 0, 0, 0]) j
  | G, 0, _ => (by rw [hd_215]; rfl)
  | G, 1, _ => (by rw [hd_215]; rfl)
  | G, 2, _ => (by rw [hd_215]; rfl)
  | G, 3, _ => (by rw [hd_215]; rfl)
  | G, 4, _ => (by rw [hd_215]; rfl)
  | G, 5, _ => (by rw [hd_215]; rfl)
  | _, n + 6, q => absurd q (by omega)
theorem dv_218 : ∀ (G : sw_G) (j : Nat), j < 6 → defaultValue (tyX8 j) = vp_V (sw_fs G (hD 218) 0 [2, 0, 2, 0, 0, 0]) j
  | G, 0, _ => (by rw [hd_218]; rfl)
  | G, 1, _ => (by rw [hd_218]; rfl)
  | G, 2, _ => (by rw [hd_218]; rfl)
  | G, 3, _ => (by rw [hd_218]; rfl)
  | G, 4, _ => (by rw [hd_218]; rfl)
  | G, 5, _ => (by rw [hd_218]; rfl)
  | _, n + 6, q => absurd q (by omega)
theorem dv_221 : ∀ (G : sw_G) (j : Nat), j < 6 → defaultValue (tyX8 j) = vp_V (sw_fs G (hD 221) 0 [2, 0, 2, 0, 0, 0]) j
  | G, 0, _ => (by rw [hd_221]; rfl)
  | G, 1, _ => (by rw [hd_221]; rfl)
  | G, 2, _ => (by rw [hd_221]; rfl)
  | G, 3, _ => (by rw [hd_221]; rfl)
  | G, 4, _ => (by rw [hd_221]; rfl)
  | G, 5, _ => (by rw [hd_221]; rfl)
  | _, n + 6, q => absurd q (by omega)
theorem dv_224 : ∀ (G : sw_G) (j : Nat), j < 103 → defaultValue (tyX12 j) = vp_V (sw_fs G (hD 224) 0 [2, 2, 0, 0, 0, 0, 0, 0, 0, 0, 1, 2, 2, 2, 2, 2, 2, 2, 2, 2, 2, 2, 2, 2, 2, 2, 2, 2, 2, 2, 2, 2, 2, 2, 2, 2, 0, 0, 0, 0, 0, 0, 2, 2, 2, 2, 2, 2, 2, 2, 2, 0, 0, 0, 0, 0, 0, 0, 0, 0, 0, 2, 2, 2, 2, 2, 2, 0, 0, 0, 0, 0, 2, 0, 0, 2, 2, 2, 2, 0, 2, 2, 2, 0, 0, 0, 2, 2, 2, 2, 2, 2, 2, 2, 2, 2, 2, 2, 2, 0, 0, 2, 2]) j
  | G, 0, _ => (by rw [hd_224]; rfl)
  | G, 1, _ => (by rw [hd_224]; rfl)
  | G, 2, _ => (by rw [hd_224]; rfl)
  | G, 3, _ => (by rw [hd_224]; rfl)
  | G, 4, _ => (by rw [hd_224]; rfl)
  | G, 5, _ => (by rw [hd_224]; rfl)
  | G, 6, _ => (by rw [hd_224]; rfl)
  | G, 7, _ => (by rw [hd_224]; rfl)
  | G, 8, _ => (by rw [hd_224]; rfl)
  | G, 9, _ => (by rw [hd_224]; rfl)
  | G, 10, _ => (by rw [hd_224]; rfl)
  | G, 11, _ => (by rw [hd_224]; rfl)
  | G, 12, _ => (by rw [hd_224]; rfl)
  | G, 13, _ => (by rw [hd_224]; rfl)
  | G, 14, _ => (by rw [hd_224]; rfl)
  | G, 15, _ => (by rw [hd_224]; rfl)
  | G, 16, _ => (by rw [hd_224]; rfl)
  | G, 17, _ => (by rw [hd_224]; rfl)
  | G, 18, _ => (by rw [hd_224]; rfl)
  | G, 19, _ => (by rw [hd_224]; rfl)
  | G, 20, _ => (by rw [hd_224]; rfl)
  | G, 21, _ => (by rw [hd_224]; rfl)
  | G, 22, _ => (by rw [hd_224]; rfl)
  | G, 23, _ => (by rw [hd_224]; rfl)
  | G, 24, _ => (by rw [hd_224]; rfl)
  | G, 25, _ => (by rw [hd_224]; rfl)
  | G, 26, _ => (by rw [hd_224]; rfl)
  | G, 27, _ => (by rw [hd_224]; rfl)
  | G, 28, _ => (by rw [hd_224]; rfl)
  | G, 29, _ => (by rw [hd_224]; rfl)
  | G, 30, _ => (by rw [hd_224]; rfl)
  | G, 31, _ => (by rw [hd_224]; rfl)
  | G, 32, _ => (by rw [hd_224]; rfl)
  | G, 33, _ => (by rw [hd_224]; rfl)
  | G, 34, _ => (by rw [hd_224]; rfl)
  | G, 35, _ => (by rw [hd_224]; rfl)
  | G, 36, _ => (by rw [hd_224]; rfl)
  | G, 37, _ => (by rw [hd_224]; rfl)
  | G, 38, _ => (by rw [hd_224]; rfl)
  | G, 39, _ => (by rw [hd_224]; rfl)
  | G, 40, _ => (by rw [hd_224]; rfl)
  | G, 41, _ => (by rw [hd_224]; rfl)
  | G, 42, _ => (by rw [hd_224]; rfl)
  | G, 43, _ => (by rw [hd_224]; rfl)
  | G, 44, _ => (by rw [hd_224]; rfl)
  | G, 45, _ => (by rw [hd_224]; rfl)
  | G, 46, _ => (by rw [hd_224]; rfl)
  | G, 47, _ => (by rw [hd_224]; rfl)
  | G, 48, _ => (by rw [hd_224]; rfl)
  | G, 49, _ => (by rw [hd_224]; rfl)
  | G, 50, _ => (by rw [hd_224]; rfl)
  | G, 51, _ => (by rw [hd_224]; rfl)
  | G, 52, _ => (by rw [hd_224]; rfl)
  | G, 53, _ => (by rw [hd_224]; rfl)
  | G, 54, _ => (by rw [hd_224]; rfl)
  | G, 55, _ => (by rw [hd_224]; rfl)
  | G, 56, _ => (by rw [hd_224]; rfl)
  | G, 57, _ => (by rw [hd_224]; rfl)
  | G, 58, _ => (by rw [hd_224]; rfl)
  | G, 59, _ => (by rw [hd_224]; rfl)
  | G, 60, _ => (by rw [hd_224]; rfl)
  | G, 61, _ => (by rw [hd_224]; rfl)
  | G, 62, _ => (by rw [hd_224]; rfl)
  | G, 63, _ => (by rw [hd_224]; rfl)
  | G, 64, _ => (by rw [hd_224]; rfl)
  | G, 65, _ => (by rw [hd_224]; rfl)
  | G, 66, _ => (by rw [hd_224]; rfl)
  | G, 67, _ => (by rw [hd_224]; rfl)
  | G, 68, _ => (by rw [hd_224]; rfl)
  | G, 69, _ => (by rw [hd_224]; rfl)
  | G, 70, _ => (by rw [hd_224]; rfl)
  | G, 71, _ => (by rw [hd_224]; rfl)
  | G, 72, _ => (by rw [hd_224]; rfl)
  | G, 73, _ => (by rw [hd_224]; rfl)
  | G, 74, _ => (by rw [hd_224]; rfl)
  | G, 75, _ => (by rw [hd_224]; rfl)
  | G, 76, _ => (by rw [hd_224]; rfl)
  | G, 77, _ => (by rw [hd_224]; rfl)
  | G, 78, _ => (by rw [hd_224]; rfl)
  | G, 79, _ => (by rw [hd_224]; rfl)
  | G, 80, _ => (by rw [hd_224]; rfl)
  | G, 81, _ => (by rw [hd_224]; rfl)
  | G, 82, _ => (by rw [hd_224]; rfl)
  | G, 83, _ => (by rw [hd_224]; rfl)
  | G, 84, _ => (by rw [hd_224]; rfl)
  | G, 85, _ => (by rw [hd_224]; rfl)
  | G, 86, _ => (by rw [hd_224]; rfl)
  | G, 87, _ => (by rw [hd_224]; rfl)
  | G, 88, _ => (by rw [hd_224]; rfl)
  | G, 89, _ => (by rw [hd_224]; rfl)
  | G, 90, _ => (by rw [hd_224]; rfl)
  | G, 91, _ => (by rw [hd_224]; rfl)
  | G, 92, _ => (by rw [hd_224]; rfl)
  | G, 93, _ => (by rw [hd_224]; rfl)
  | G, 94, _ => (by rw [hd_224]; rfl)
  | G, 95, _ => (by rw [hd_224]; rfl)
  | G, 96, _ => (by rw [hd_224]; rfl)
  | G, 97, _ => (by rw [hd_224]; rfl)
  | G, 98, _ => (by rw [hd_224]; rfl)
  | G, 99, _ => (by rw [hd_224]; rfl)
  | G, 100, _ => (by rw [hd_224]; rfl)
  | G, 101, _ => (by rw [hd_224]; rfl)
  | G, 102, _ => (by rw [hd_224]; rfl)
  | _, n + 103, q => absurd q (by omega)
def U_1 (h : sw_H) : sw_H := UT 12 57 (sw_up (sw_up (sw_up (sw_up (sw_up (sw_up (sw_up (sw_up (sw_up (sw_up (sw_up (h) 1 5 2) 1 6 3) 1 7 4) 1 8 5) 1 9 6) 1 10 7) 1 11 8) 1 12 9) 1 13 10) 1 14 11) 1 15 12)
set_option maxRecDepth 20000 in
set_option maxHeartbeats 4000000 in
theorem k_1 {G : sw_G} (d : Nat) {h : sw_H} : sw_N true G 2 (d + 1) mX0_init 0 [some (sw_r 1)] [] h 11 334 (sw_Fx G 13 (U_1 h)) := by
  refine sn_aload_n dX0_init_0 rfl ?_
  refine sn_obj wc_6 wc_1 wc_2 dX0_init_1 (Nat.le_of_ble_eq_true rfl) ?_
  refine sn_aload_n dX0_init_4 rfl ?_
  refine sn_bipush dX0_init_5 ⟨by decide, by decide, by decide⟩ ?_
  refine sm_newa (N := 2) (N2 := 3) (kc := 10) (ks := 274) (t := 0) (atype := .int) rfl rfl rfl rfl s2_2 (by decide) (fun _ => rfl) rfl (fun _ _ h => h) wc_7 dX0_init_7 (by decide) (by decide) (by decide) ?_
  refine sn_putR (k := 5) (t := 2) cl_0 fl_X0_9 dX0_init_9 s2_1 (by decide) rfl (by decide) (Or.inr ⟨rfl, rfl, rfl⟩) (Or.inr ⟨_, rfl⟩) (by decide) ?_
  refine sn_aload_n dX0_init_12 rfl ?_
  refine sn_bipush dX0_init_13 ⟨by decide, by decide, by decide⟩ ?_
  refine sm_newa (N := 3) (N2 := 4) (kc := 9) (ks := 214) (t := 0) (atype := .int) rfl rfl rfl rfl s2_3 (by decide) (fun _ => rfl) rfl (fun _ _ h => h) wc_7 dX0_init_15 (by decide) (by decide) (by decide) ?_
  refine sn_putR (k := 6) (t := 3) cl_0 fl_X0_15 dX0_init_17 s2_1 (by decide) rfl (by decide) (Or.inr ⟨rfl, rfl, rfl⟩) (Or.inr ⟨_, rfl⟩) (by decide) ?_
  refine sn_aload_n dX0_init_20 rfl ?_
  refine sn_bipush dX0_init_21 ⟨by decide, by decide, by decide⟩ ?_
  refine sm_newa (N := 4) (N2 := 5) (kc := 8) (ks := 154) (t := 0) (atype := .int) rfl rfl rfl rfl s2_4 (by decide) (fun _ => rfl) rfl (fun _ _ h => h) wc_7 dX0_init_23 (by decide) (by decide) (by decide) ?_
  refine sn_putR (k := 7) (t := 4) cl_0 fl_X0_18 dX0_init_25 s2_1 (by decide) rfl (by decide) (Or.inr ⟨rfl, rfl, rfl⟩) (Or.inr ⟨_, rfl⟩) (by decide) ?_
  refine sn_aload_n dX0_init_28 rfl ?_
  refine sn_bipush dX0_init_29 ⟨by decide, by decide, by decide⟩ ?_
  refine sm_newa (N := 5) (N2 := 6) (kc := 7) (ks := 94) (t := 0) (atype := .int) rfl rfl rfl rfl s2_5 (by decide) (fun _ => rfl) rfl (fun _ _ h => h) wc_7 dX0_init_31 (by decide) (by decide) (by decide) ?_
  refine sn_putR (k := 8) (t := 5) cl_0 fl_X0_21 dX0_init_33 s2_1 (by decide) rfl (by decide) (Or.inr ⟨rfl, rfl, rfl⟩) (Or.inr ⟨_, rfl⟩) (by decide) ?_
  refine sn_aload_n dX0_init_36 rfl ?_
  refine sn_bipush dX0_init_37 ⟨by decide, by decide, by decide⟩ ?_
  refine sm_newa (N := 6) (N2 := 7) (kc := 6) (ks := 87) (t := 0) (atype := .int) rfl rfl rfl rfl s2_6 (by decide) (fun _ => rfl) rfl (fun _ _ h => h) wc_7 dX0_init_39 (by decide) (by decide) (by decide) ?_
  refine sn_putR (k := 9) (t := 6) cl_0 fl_X0_24 dX0_init_41 s2_1 (by decide) rfl (by decide) (Or.inr ⟨rfl, rfl, rfl⟩) (Or.inr ⟨_, rfl⟩) (by decide) ?_
  refine sn_aload_n dX0_init_44 rfl ?_
  refine sn_bipush dX0_init_45 ⟨by decide, by decide, by decide⟩ ?_
  refine sm_newa (N := 7) (N2 := 8) (kc := 5) (ks := 81) (t := 0) (atype := .int) rfl rfl rfl rfl s2_7 (by decide) (fun _ => rfl) rfl (fun _ _ h => h) wc_7 dX0_init_47 (by decide) (by decide) (by decide) ?_
  refine sn_putR (k := 10) (t := 7) cl_0 fl_X0_27 dX0_init_49 s2_1 (by decide) rfl (by decide) (Or.inr ⟨rfl, rfl, rfl⟩) (Or.inr ⟨_, rfl⟩) (by decide) ?_
  refine sn_aload_n dX0_init_52 rfl ?_
  refine sn_bipush dX0_init_53 ⟨by decide, by decide, by decide⟩ ?_
  refine sm_newa (N := 8) (N2 := 9) (kc := 4) (ks := 75) (t := 0) (atype := .int) rfl rfl rfl rfl s2_8 (by decide) (fun _ => rfl) rfl (fun _ _ h => h) wc_7 dX0_init_55 (by decide) (by decide) (by decide) ?_
  refine sn_putR (k := 11) (t := 8) cl_0 fl_X0_30 dX0_init_57 s2_1 (by decide) rfl (by decide) (Or.inr ⟨rfl, rfl, rfl⟩) (Or.inr ⟨_, rfl⟩) (by decide) ?_
  refine sn_aload_n dX0_init_60 rfl ?_
  refine sn_bipush dX0_init_61 ⟨by decide, by decide, by decide⟩ ?_
  refine sm_newa (N := 9) (N2 := 10) (kc := 3) (ks := 69) (t := 0) (atype := .int) rfl rfl rfl rfl s2_9 (by decide) (fun _ => rfl) rfl (fun _ _ h => h) wc_7 dX0_init_63 (by decide) (by decide) (by decide) ?_
  refine sn_putR (k := 12) (t := 9) cl_0 fl_X0_33 dX0_init_65 s2_1 (by decide) rfl (by decide) (Or.inr ⟨rfl, rfl, rfl⟩) (Or.inr ⟨_, rfl⟩) (by decide) ?_
  refine sn_aload_n dX0_init_68 rfl ?_
  refine sn_bipush dX0_init_69 ⟨by decide, by decide, by decide⟩ ?_
  refine sm_newa (N := 10) (N2 := 11) (kc := 2) (ks := 63) (t := 0) (atype := .int) rfl rfl rfl rfl s2_10 (by decide) (fun _ => rfl) rfl (fun _ _ h => h) wc_7 dX0_init_71 (by decide) (by decide) (by decide) ?_
  refine sn_putR (k := 13) (t := 10) cl_0 fl_X0_36 dX0_init_73 s2_1 (by decide) rfl (by decide) (Or.inr ⟨rfl, rfl, rfl⟩) (Or.inr ⟨_, rfl⟩) (by decide) ?_
  refine sn_aload_n dX0_init_76 rfl ?_
  refine sn_bipush dX0_init_77 ⟨by decide, by decide, by decide⟩ ?_
  refine sm_newa (N := 11) (N2 := 12) (kc := 1) (ks := 57) (t := 0) (atype := .int) rfl rfl rfl rfl s2_11 (by decide) (fun _ => rfl) rfl (fun _ _ h => h) wc_7 dX0_init_79 (by decide) (by decide) (by decide) ?_
  refine sn_putR (k := 14) (t := 11) cl_0 fl_X0_39 dX0_init_81 s2_1 (by decide) rfl (by decide) (Or.inr ⟨rfl, rfl, rfl⟩) (Or.inr ⟨_, rfl⟩) (by decide) ?_
  refine sn_aload_n dX0_init_84 rfl ?_
  refine sn_bipush dX0_init_85 ⟨by decide, by decide, by decide⟩ ?_
  refine sm_newa (N := 12) (N2 := 13) (kc := 0) (ks := 0) (t := 0) (atype := .int) rfl rfl rfl rfl s2_12 (by decide) (fun _ => rfl) rfl (fun _ _ h => h) wc_7 dX0_init_87 (by decide) (by decide) (by decide) ?_
  refine sn_putR (k := 15) (t := 12) cl_0 fl_X0_42 dX0_init_89 s2_1 (by decide) rfl (by decide) (Or.inr ⟨rfl, rfl, rfl⟩) (Or.inr ⟨_, rfl⟩) (by decide) ?_
  refine sn_aload_n dX0_init_92 rfl ?_
  refine sn_callE (h2 := UT 12 57 (sw_up (sw_up (sw_up (sw_up (sw_up (sw_up (sw_up (sw_up (sw_up (sw_up (sw_up (h) 1 5 2) 1 6 3) 1 7 4) 1 8 5) 1 9 6) 1 10 7) 1 11 8) 1 12 9) 1 13 10) 1 14 11) 1 15 12)) lk_X0_45 cl_0 s2_1 (by decide) dX0_init_93 (Nat.le_of_ble_eq_true rfl) (by decide) rfl (fun q a k hk => by unfold UT; rw [if_neg (by omega)]; exact q a k hk) (e_takePlainly d (a := 12) s2_1 rfl (by decide) s2_12 (by decide) (rfl) (by decide)) ?_
  exact sn_ret dX0_init_96 rfl (fun hH hdf => ⟨rfl, hH, hdf⟩)
def U_13 (h : sw_H) : sw_H := UT 24 57 (sw_up (sw_up (sw_up (sw_up (sw_up (sw_up (sw_up (sw_up (sw_up (sw_up (sw_up (h) 13 5 14) 13 6 15) 13 7 16) 13 8 17) 13 9 18) 13 10 19) 13 11 20) 13 12 21) 13 13 22) 13 14 23) 13 15 24)
set_option maxRecDepth 20000 in
set_option maxHeartbeats 4000000 in
theorem k_13 {G : sw_G} (d : Nat) {h : sw_H} : sw_N true G 14 (d + 1) mX0_init 0 [some (sw_r 13)] [] h 11 334 (sw_Fx G 25 (U_13 h)) := by
  refine sn_aload_n dX0_init_0 rfl ?_
  refine sn_obj wc_6 wc_1 wc_2 dX0_init_1 (Nat.le_of_ble_eq_true rfl) ?_
  refine sn_aload_n dX0_init_4 rfl ?_
  refine sn_bipush dX0_init_5 ⟨by decide, by decide, by decide⟩ ?_
  refine sm_newa (N := 14) (N2 := 15) (kc := 10) (ks := 274) (t := 0) (atype := .int) rfl rfl rfl rfl s2_14 (by decide) (fun _ => rfl) rfl (fun _ _ h => h) wc_7 dX0_init_7 (by decide) (by decide) (by decide) ?_
  refine sn_putR (k := 5) (t := 14) cl_0 fl_X0_9 dX0_init_9 s2_13 (by decide) rfl (by decide) (Or.inr ⟨rfl, rfl, rfl⟩) (Or.inr ⟨_, rfl⟩) (by decide) ?_
  refine sn_aload_n dX0_init_12 rfl ?_
  refine sn_bipush dX0_init_13 ⟨by decide, by decide, by decide⟩ ?_
  refine sm_newa (N := 15) (N2 := 16) (kc := 9) (ks := 214) (t := 0) (atype := .int) rfl rfl rfl rfl s2_15 (by decide) (fun _ => rfl) rfl (fun _ _ h => h) wc_7 dX0_init_15 (by decide) (by decide) (by decide) ?_
  refine sn_putR (k := 6) (t := 15) cl_0 fl_X0_15 dX0_init_17 s2_13 (by decide) rfl (by decide) (Or.inr ⟨rfl, rfl, rfl⟩) (Or.inr ⟨_, rfl⟩) (by decide) ?_
  refine sn_aload_n dX0_init_20 rfl ?_
  refine sn_bipush dX0_init_21 ⟨by decide, by decide, by decide⟩ ?_
  refine sm_newa (N := 16) (N2 := 17) (kc := 8) (ks := 154) (t := 0) (atype := .int) rfl rfl rfl rfl s2_16 (by decide) (fun _ => rfl) rfl (fun _ _ h => h) wc_7 dX0_init_23 (by decide) (by decide) (by decide) ?_
  refine sn_putR (k := 7) (t := 16) cl_0 fl_X0_18 dX0_init_25 s2_13 (by decide) rfl (by decide) (Or.inr ⟨rfl, rfl, rfl⟩) (Or.inr ⟨_, rfl⟩) (by decide) ?_
  refine sn_aload_n dX0_init_28 rfl ?_
  refine sn_bipush dX0_init_29 ⟨by decide, by decide, by decide⟩ ?_
  refine sm_newa (N := 17) (N2 := 18) (kc := 7) (ks := 94) (t := 0) (atype := .int) rfl rfl rfl rfl s2_17 (by decide) (fun _ => rfl) rfl (fun _ _ h => h) wc_7 dX0_init_31 (by decide) (by decide) (by decide) ?_
  refine sn_putR (k := 8) (t := 17) cl_0 fl_X0_21 dX0_init_33 s2_13 (by decide) rfl (by decide) (Or.inr ⟨rfl, rfl, rfl⟩) (Or.inr ⟨_, rfl⟩) (by decide) ?_
  refine sn_aload_n dX0_init_36 rfl ?_
  refine sn_bipush dX0_init_37 ⟨by decide, by decide, by decide⟩ ?_
  refine sm_newa (N := 18) (N2 := 19) (kc := 6) (ks := 87) (t := 0) (atype := .int) rfl rfl rfl rfl s2_18 (by decide) (fun _ => rfl) rfl (fun _ _ h => h) wc_7 dX0_init_39 (by decide) (by decide) (by decide) ?_
  refine sn_putR (k := 9) (t := 18) cl_0 fl_X0_24 dX0_init_41 s2_13 (by decide) rfl (by decide) (Or.inr ⟨rfl, rfl, rfl⟩) (Or.inr ⟨_, rfl⟩) (by decide) ?_
  refine sn_aload_n dX0_init_44 rfl ?_
  refine sn_bipush dX0_init_45 ⟨by decide, by decide, by decide⟩ ?_
  refine sm_newa (N := 19) (N2 := 20) (kc := 5) (ks := 81) (t := 0) (atype := .int) rfl rfl rfl rfl s2_19 (by decide) (fun _ => rfl) rfl (fun _ _ h => h) wc_7 dX0_init_47 (by decide) (by decide) (by decide) ?_
  refine sn_putR (k := 10) (t := 19) cl_0 fl_X0_27 dX0_init_49 s2_13 (by decide) rfl (by decide) (Or.inr ⟨rfl, rfl, rfl⟩) (Or.inr ⟨_, rfl⟩) (by decide) ?_
  refine sn_aload_n dX0_init_52 rfl ?_
  refine sn_bipush dX0_init_53 ⟨by decide, by decide, by decide⟩ ?_
  refine sm_newa (N := 20) (N2 := 21) (kc := 4) (ks := 75) (t := 0) (atype := .int) rfl rfl rfl rfl s2_20 (by decide) (fun _ => rfl) rfl (fun _ _ h => h) wc_7 dX0_init_55 (by decide) (by decide) (by decide) ?_
  refine sn_putR (k := 11) (t := 20) cl_0 fl_X0_30 dX0_init_57 s2_13 (by decide) rfl (by decide) (Or.inr ⟨rfl, rfl, rfl⟩) (Or.inr ⟨_, rfl⟩) (by decide) ?_
  refine sn_aload_n dX0_init_60 rfl ?_
  refine sn_bipush dX0_init_61 ⟨by decide, by decide, by decide⟩ ?_
  refine sm_newa (N := 21) (N2 := 22) (kc := 3) (ks := 69) (t := 0) (atype := .int) rfl rfl rfl rfl s2_21 (by decide) (fun _ => rfl) rfl (fun _ _ h => h) wc_7 dX0_init_63 (by decide) (by decide) (by decide) ?_
  refine sn_putR (k := 12) (t := 21) cl_0 fl_X0_33 dX0_init_65 s2_13 (by decide) rfl (by decide) (Or.inr ⟨rfl, rfl, rfl⟩) (Or.inr ⟨_, rfl⟩) (by decide) ?_
  refine sn_aload_n dX0_init_68 rfl ?_
  refine sn_bipush dX0_init_69 ⟨by decide, by decide, by decide⟩ ?_
  refine sm_newa (N := 22) (N2 := 23) (kc := 2) (ks := 63) (t := 0) (atype := .int) rfl rfl rfl rfl s2_22 (by decide) (fun _ => rfl) rfl (fun _ _ h => h) wc_7 dX0_init_71 (by decide) (by decide) (by decide) ?_
  refine sn_putR (k := 13) (t := 22) cl_0 fl_X0_36 dX0_init_73 s2_13 (by decide) rfl (by decide) (Or.inr ⟨rfl, rfl, rfl⟩) (Or.inr ⟨_, rfl⟩) (by decide) ?_
  refine sn_aload_n dX0_init_76 rfl ?_
  refine sn_bipush dX0_init_77 ⟨by decide, by decide, by decide⟩ ?_
  refine sm_newa (N := 23) (N2 := 24) (kc := 1) (ks := 57) (t := 0) (atype := .int) rfl rfl rfl rfl s2_23 (by decide) (fun _ => rfl) rfl (fun _ _ h => h) wc_7 dX0_init_79 (by decide) (by decide) (by decide) ?_
  refine sn_putR (k := 14) (t := 23) cl_0 fl_X0_39 dX0_init_81 s2_13 (by decide) rfl (by decide) (Or.inr ⟨rfl, rfl, rfl⟩) (Or.inr ⟨_, rfl⟩) (by decide) ?_
  refine sn_aload_n dX0_init_84 rfl ?_
  refine sn_bipush dX0_init_85 ⟨by decide, by decide, by decide⟩ ?_
  refine sm_newa (N := 24) (N2 := 25) (kc := 0) (ks := 0) (t := 0) (atype := .int) rfl rfl rfl rfl s2_24 (by decide) (fun _ => rfl) rfl (fun _ _ h => h) wc_7 dX0_init_87 (by decide) (by decide) (by decide) ?_
  refine sn_putR (k := 15) (t := 24) cl_0 fl_X0_42 dX0_init_89 s2_13 (by decide) rfl (by decide) (Or.inr ⟨rfl, rfl, rfl⟩) (Or.inr ⟨_, rfl⟩) (by decide) ?_
  refine sn_aload_n dX0_init_92 rfl ?_
  refine sn_callE (h2 := UT 24 57 (sw_up (sw_up (sw_up (sw_up (sw_up (sw_up (sw_up (sw_up (sw_up (sw_up (sw_up (h) 13 5 14) 13 6 15) 13 7 16) 13 8 17) 13 9 18) 13 10 19) 13 11 20) 13 12 21) 13 13 22) 13 14 23) 13 15 24)) lk_X0_45 cl_0 s2_13 (by decide) dX0_init_93 (Nat.le_of_ble_eq_true rfl) (by decide) rfl (fun q a k hk => by unfold UT; rw [if_neg (by omega)]; exact q a k hk) (e_takePlainly d (a := 24) s2_13 rfl (by decide) s2_24 (by decide) (rfl) (by decide)) ?_
  exact sn_ret dX0_init_96 rfl (fun hH hdf => ⟨rfl, hH, hdf⟩)
def U_27 (h : sw_H) : sw_H := sw_up (sw_up (h) 27 0 28) 27 2 29
set_option maxRecDepth 20000 in
set_option maxHeartbeats 4000000 in
theorem k_27 {G : sw_G} (d : Nat) {h : sw_H} : sw_N true G 28 (d + 1) mX8_init 0 [some (sw_r 27)] [] h 2 66 (sw_Fx G 30 (U_27 h)) := by
  refine sn_aload_n dX8_init_0 rfl ?_
  refine sn_obj wc_18 wc_1 wc_2 dX8_init_1 (Nat.le_of_ble_eq_true rfl) ?_
  refine sn_aload_n dX8_init_4 rfl ?_
  refine sn_bipush dX8_init_5 ⟨by decide, by decide, by decide⟩ ?_
  refine sm_newa (N := 28) (N2 := 29) (kc := 1) (ks := 42) (t := 0) (atype := .int) rfl rfl rfl rfl s2_28 (by decide) (fun _ => rfl) rfl (fun _ _ h => h) wc_7 dX8_init_7 (by decide) (by decide) (by decide) ?_
  refine sn_putR (k := 0) (t := 28) cl_8 fl_X8_9 dX8_init_9 s2_27 (by decide) rfl (by decide) (Or.inr ⟨rfl, rfl, rfl⟩) (Or.inr ⟨_, rfl⟩) (by decide) ?_
  refine sn_aload_n dX8_init_12 rfl ?_
  refine sn_bipush dX8_init_13 ⟨by decide, by decide, by decide⟩ ?_
  refine sm_newa (N := 29) (N2 := 30) (kc := 0) (ks := 0) (t := 0) (atype := .int) rfl rfl rfl rfl s2_29 (by decide) (fun _ => rfl) rfl (fun _ _ h => h) wc_7 dX8_init_15 (by decide) (by decide) (by decide) ?_
  refine sn_putR (k := 2) (t := 29) cl_8 fl_X8_15 dX8_init_17 s2_27 (by decide) rfl (by decide) (Or.inr ⟨rfl, rfl, rfl⟩) (Or.inr ⟨_, rfl⟩) (by decide) ?_
  exact sn_ret dX8_init_20 rfl (fun hH hdf => ⟨rfl, hH, hdf⟩)
def U_30 (h : sw_H) : sw_H := sw_up (sw_up (h) 30 0 31) 30 2 32
set_option maxRecDepth 20000 in
set_option maxHeartbeats 4000000 in
theorem k_30 {G : sw_G} (d : Nat) {h : sw_H} : sw_N true G 31 (d + 1) mX8_init 0 [some (sw_r 30)] [] h 2 66 (sw_Fx G 33 (U_30 h)) := by
  refine sn_aload_n dX8_init_0 rfl ?_
  refine sn_obj wc_18 wc_1 wc_2 dX8_init_1 (Nat.le_of_ble_eq_true rfl) ?_
  refine sn_aload_n dX8_init_4 rfl ?_
  refine sn_bipush dX8_init_5 ⟨by decide, by decide, by decide⟩ ?_
  refine sm_newa (N := 31) (N2 := 32) (kc := 1) (ks := 42) (t := 0) (atype := .int) rfl rfl rfl rfl s2_31 (by decide) (fun _ => rfl) rfl (fun _ _ h => h) wc_7 dX8_init_7 (by decide) (by decide) (by decide) ?_
  refine sn_putR (k := 0) (t := 31) cl_8 fl_X8_9 dX8_init_9 s2_30 (by decide) rfl (by decide) (Or.inr ⟨rfl, rfl, rfl⟩) (Or.inr ⟨_, rfl⟩) (by decide) ?_
  refine sn_aload_n dX8_init_12 rfl ?_
  refine sn_bipush dX8_init_13 ⟨by decide, by decide, by decide⟩ ?_
  refine sm_newa (N := 32) (N2 := 33) (kc := 0) (ks := 0) (t := 0) (atype := .int) rfl rfl rfl rfl s2_32 (by decide) (fun _ => rfl) rfl (fun _ _ h => h) wc_7 dX8_init_15 (by decide) (by decide) (by decide) ?_
  refine sn_putR (k := 2) (t := 32) cl_8 fl_X8_15 dX8_init_17 s2_30 (by decide) rfl (by decide) (Or.inr ⟨rfl, rfl, rfl⟩) (Or.inr ⟨_, rfl⟩) (by decide) ?_
  exact sn_ret dX8_init_20 rfl (fun hH hdf => ⟨rfl, hH, hdf⟩)
def U_25 (h : sw_H) : sw_H := sw_up (U_30 (sw_up (U_27 (sw_up (h) 25 3 26)) 25 4 27)) 25 5 30
set_option maxRecDepth 20000 in
set_option maxHeartbeats 4000000 in
theorem k_25 {G : sw_G} (d : Nat) {h : sw_H} : sw_N true G 26 (d + 2) mX4_init 0 [some (sw_r 25)] [] h 7 204 (sw_Fx G 33 (U_25 h)) := by
  refine sn_aload_n dX4_init_0 rfl ?_
  refine sn_obj wc_14 wc_1 wc_2 dX4_init_1 (Nat.le_of_ble_eq_true rfl) ?_
  refine sn_aload_n dX4_init_4 rfl ?_
  refine sn_bipush dX4_init_5 ⟨by decide, by decide, by decide⟩ ?_
  refine sm_newa (N := 26) (N2 := 27) (kc := 6) (ks := 144) (t := 0) (atype := .int) rfl rfl rfl rfl s2_26 (by decide) (fun _ => rfl) rfl (fun _ _ h => h) wc_7 dX4_init_7 (by decide) (by decide) (by decide) ?_
  refine sn_putR (k := 3) (t := 26) cl_4 fl_X4_9 dX4_init_9 s2_25 (by decide) rfl (by decide) (Or.inr ⟨rfl, rfl, rfl⟩) (Or.inr ⟨_, rfl⟩) (by decide) ?_
  refine sn_aload_n dX4_init_12 rfl ?_
  refine sm_new (N := 27) (N2 := 28) (kc := 5) (ks := 138) rfl rfl rfl cl_8 wc_15 wc_16 wc_17 dX4_init_13 s2_27 (dv_27) (by decide) ?_
  refine sn_dupr dX4_init_16 ?_
  refine sm_callI (N := 28) (N2 := 30) (kc2 := 2) (ks2 := 66) (kc := 3) (ks := 72) rfl rfl rfl li_1 dX4_init_17 (Nat.le_of_ble_eq_true rfl) (by decide) (by decide) (k_27 d) ?_
  refine sn_putR (k := 4) (t := 27) cl_4 fl_X4_18 dX4_init_20 s2_25 (by decide) rfl (by decide) (Or.inr ⟨rfl, rfl, rfl⟩) (Or.inl ⟨_, rfl⟩) (by decide) ?_
  refine sn_aload_n dX4_init_23 rfl ?_
  refine sm_new (N := 30) (N2 := 31) (kc := 2) (ks := 66) rfl rfl rfl cl_8 wc_15 wc_16 wc_17 dX4_init_24 s2_30 (dv_30) (by decide) ?_
  refine sn_dupr dX4_init_27 ?_
  refine sm_callI (N := 31) (N2 := 33) (kc2 := 2) (ks2 := 66) (kc := 0) (ks := 0) rfl rfl rfl li_1 dX4_init_28 (Nat.le_of_ble_eq_true rfl) (by decide) (by decide) (k_30 d) ?_
  refine sn_putR (k := 5) (t := 30) cl_4 fl_X4_22 dX4_init_31 s2_25 (by decide) rfl (by decide) (Or.inr ⟨rfl, rfl, rfl⟩) (Or.inl ⟨_, rfl⟩) (by decide) ?_
  exact sn_ret dX4_init_34 rfl (fun hH hdf => ⟨rfl, hH, hdf⟩)
def U_34 (h : sw_H) : sw_H := sw_up (sw_up (h) 34 0 35) 34 8 (-1)
set_option maxRecDepth 20000 in
set_option maxHeartbeats 4000000 in
theorem k_34 {G : sw_G} (d : Nat) {h : sw_H} : sw_N true G 35 (d + 1) mX5_init 0 [some (sw_r 34)] [] h 1 1600 (sw_Fx G 36 (U_34 h)) := by
  refine sn_aload_n dX5_init_0 rfl ?_
  refine sn_obj wc_32 wc_1 wc_2 dX5_init_1 (Nat.le_of_ble_eq_true rfl) ?_
  refine sn_aload_n dX5_init_4 rfl ?_
  refine sn_sipush dX5_init_5 ⟨by decide, by decide, by decide⟩ ?_
  refine sm_newa (N := 35) (N2 := 36) (kc := 0) (ks := 0) (t := 1) (atype := .byte) rfl rfl rfl rfl s2_35 (by decide) (fun _ => rfl) rfl (fun _ _ h => h) wc_33 dX5_init_8 (by decide) (by decide) (by decide) ?_
  refine sn_putR (k := 0) (t := 35) cl_5 fl_X5_9 dX5_init_10 s2_34 (by decide) rfl (by decide) (Or.inr ⟨rfl, rfl, rfl⟩) (Or.inr ⟨_, rfl⟩) (by decide) ?_
  refine sn_aload_n dX5_init_13 rfl ?_
  refine sn_iconst dX5_init_14 ⟨by decide, by decide⟩ ?_
  refine sn_putI (k := 8) (z := -1) cl_5 fl_X5_15 dX5_init_15 s2_34 (by decide) rfl (by decide) (Or.inl rfl) rfl ?_
  exact sn_ret dX5_init_18 rfl (fun hH hdf => ⟨rfl, hH, hdf⟩)
def U_36 (h : sw_H) : sw_H := sw_up (sw_up (sw_up (sw_up (sw_up (sw_up (h) 36 8 37) 36 9 38) 36 10 39) 36 11 40) 36 12 41) 36 13 42
set_option maxRecDepth 20000 in
set_option maxHeartbeats 4000000 in
theorem k_36 {G : sw_G} (d : Nat) {h : sw_H} : sw_N true G 37 (d + 1) mX10_init 0 [some (sw_r 36)] [] h 6 24 (sw_Fx G 43 (U_36 h)) := by
  refine sn_aload_n dX10_init_0 rfl ?_
  refine sn_obj wc_40 wc_1 wc_2 dX10_init_1 (Nat.le_of_ble_eq_true rfl) ?_
  refine sn_aload_n dX10_init_4 rfl ?_
  refine sn_iconst dX10_init_5 ⟨by decide, by decide⟩ ?_
  refine sm_newa (N := 37) (N2 := 38) (kc := 5) (ks := 20) (t := 0) (atype := .int) rfl rfl rfl rfl s2_37 (by decide) (fun _ => rfl) rfl (fun _ _ h => h) wc_7 dX10_init_6 (by decide) (by decide) (by decide) ?_
  refine sn_putR (k := 8) (t := 37) cl_10 fl_X10_9 dX10_init_8 s2_36 (by decide) rfl (by decide) (Or.inr ⟨rfl, rfl, rfl⟩) (Or.inr ⟨_, rfl⟩) (by decide) ?_
  refine sn_aload_n dX10_init_11 rfl ?_
  refine sn_iconst dX10_init_12 ⟨by decide, by decide⟩ ?_
  refine sm_newa (N := 38) (N2 := 39) (kc := 4) (ks := 16) (t := 0) (atype := .int) rfl rfl rfl rfl s2_38 (by decide) (fun _ => rfl) rfl (fun _ _ h => h) wc_7 dX10_init_13 (by decide) (by decide) (by decide) ?_
  refine sn_putR (k := 9) (t := 38) cl_10 fl_X10_15 dX10_init_15 s2_36 (by decide) rfl (by decide) (Or.inr ⟨rfl, rfl, rfl⟩) (Or.inr ⟨_, rfl⟩) (by decide) ?_
  refine sn_aload_n dX10_init_18 rfl ?_
  refine sn_iconst dX10_init_19 ⟨by decide, by decide⟩ ?_
  refine sm_newa (N := 39) (N2 := 40) (kc := 3) (ks := 12) (t := 0) (atype := .int) rfl rfl rfl rfl s2_39 (by decide) (fun _ => rfl) rfl (fun _ _ h => h) wc_7 dX10_init_20 (by decide) (by decide) (by decide) ?_
  refine sn_putR (k := 10) (t := 39) cl_10 fl_X10_18 dX10_init_22 s2_36 (by decide) rfl (by decide) (Or.inr ⟨rfl, rfl, rfl⟩) (Or.inr ⟨_, rfl⟩) (by decide) ?_
  refine sn_aload_n dX10_init_25 rfl ?_
  refine sn_iconst dX10_init_26 ⟨by decide, by decide⟩ ?_
  refine sm_newa (N := 40) (N2 := 41) (kc := 2) (ks := 8) (t := 0) (atype := .int) rfl rfl rfl rfl s2_40 (by decide) (fun _ => rfl) rfl (fun _ _ h => h) wc_7 dX10_init_27 (by decide) (by decide) (by decide) ?_
  refine sn_putR (k := 11) (t := 40) cl_10 fl_X10_21 dX10_init_29 s2_36 (by decide) rfl (by decide) (Or.inr ⟨rfl, rfl, rfl⟩) (Or.inr ⟨_, rfl⟩) (by decide) ?_
  refine sn_aload_n dX10_init_32 rfl ?_
  refine sn_iconst dX10_init_33 ⟨by decide, by decide⟩ ?_
  refine sm_newa (N := 41) (N2 := 42) (kc := 1) (ks := 4) (t := 0) (atype := .int) rfl rfl rfl rfl s2_41 (by decide) (fun _ => rfl) rfl (fun _ _ h => h) wc_7 dX10_init_34 (by decide) (by decide) (by decide) ?_
  refine sn_putR (k := 12) (t := 41) cl_10 fl_X10_24 dX10_init_36 s2_36 (by decide) rfl (by decide) (Or.inr ⟨rfl, rfl, rfl⟩) (Or.inr ⟨_, rfl⟩) (by decide) ?_
  refine sn_aload_n dX10_init_39 rfl ?_
  refine sn_iconst dX10_init_40 ⟨by decide, by decide⟩ ?_
  refine sm_newa (N := 42) (N2 := 43) (kc := 0) (ks := 0) (t := 0) (atype := .int) rfl rfl rfl rfl s2_42 (by decide) (fun _ => rfl) rfl (fun _ _ h => h) wc_7 dX10_init_41 (by decide) (by decide) (by decide) ?_
  refine sn_putR (k := 13) (t := 42) cl_10 fl_X10_27 dX10_init_43 s2_36 (by decide) rfl (by decide) (Or.inr ⟨rfl, rfl, rfl⟩) (Or.inr ⟨_, rfl⟩) (by decide) ?_
  exact sn_ret dX10_init_46 rfl (fun hH hdf => ⟨rfl, hH, hdf⟩)
def U_43 (h : sw_H) : sw_H := sw_up (sw_up (h) 43 1 44) 43 2 45
set_option maxRecDepth 20000 in
set_option maxHeartbeats 4000000 in
theorem k_43 {G : sw_G} (d : Nat) {h : sw_H} : sw_N true G 44 (d + 1) mX2_init 0 [some (sw_r 43)] [] h 2 301 (sw_Fx G 46 (U_43 h)) := by
  refine sn_aload_n dX2_init_0 rfl ?_
  refine sn_obj wc_47 wc_1 wc_2 dX2_init_1 (Nat.le_of_ble_eq_true rfl) ?_
  refine sn_aload_n dX2_init_4 rfl ?_
  refine sn_sipush dX2_init_5 ⟨by decide, by decide, by decide⟩ ?_
  refine sm_newa (N := 44) (N2 := 45) (kc := 1) (ks := 31) (t := 0) (atype := .int) rfl rfl rfl rfl s2_44 (by decide) (fun _ => rfl) rfl (fun _ _ h => h) wc_7 dX2_init_8 (by decide) (by decide) (by decide) ?_
  refine sn_putR (k := 1) (t := 44) cl_2 fl_X2_9 dX2_init_10 s2_43 (by decide) rfl (by decide) (Or.inr ⟨rfl, rfl, rfl⟩) (Or.inr ⟨_, rfl⟩) (by decide) ?_
  refine sn_aload_n dX2_init_13 rfl ?_
  refine sn_bipush dX2_init_14 ⟨by decide, by decide, by decide⟩ ?_
  refine sm_newa (N := 45) (N2 := 46) (kc := 0) (ks := 0) (t := 0) (atype := .int) rfl rfl rfl rfl s2_45 (by decide) (fun _ => rfl) rfl (fun _ _ h => h) wc_7 dX2_init_16 (by decide) (by decide) (by decide) ?_
  refine sn_putR (k := 2) (t := 45) cl_2 fl_X2_15 dX2_init_18 s2_43 (by decide) rfl (by decide) (Or.inr ⟨rfl, rfl, rfl⟩) (Or.inr ⟨_, rfl⟩) (by decide) ?_
  exact sn_ret dX2_init_21 rfl (fun hH hdf => ⟨rfl, hH, hdf⟩)
def U_33 (h : sw_H) : sw_H := sw_up (sw_up (sw_up (U_43 (sw_up (U_36 (sw_up (U_34 (h)) 33 0 34)) 33 1 36)) 33 2 43) 33 3 46) 33 4 47
set_option maxRecDepth 20000 in
set_option maxHeartbeats 4000000 in
theorem k_33 {G : sw_G} (d : Nat) {h : sw_H} : sw_N true G 34 (d + 2) mX3_init 0 [some (sw_r 33)] [] h 14 1963 (sw_Fx G 48 (U_33 h)) := by
  refine sn_aload_n dX3_init_0 rfl ?_
  refine sn_obj wc_28 wc_1 wc_2 dX3_init_1 (Nat.le_of_ble_eq_true rfl) ?_
  refine sn_aload_n dX3_init_4 rfl ?_
  refine sm_new (N := 34) (N2 := 35) (kc := 13) (ks := 1954) rfl rfl rfl cl_5 wc_29 wc_30 wc_31 dX3_init_5 s2_34 (dv_34) (by decide) ?_
  refine sn_dupr dX3_init_8 ?_
  refine sm_callI (N := 35) (N2 := 36) (kc2 := 1) (ks2 := 1600) (kc := 12) (ks := 354) rfl rfl rfl li_3 dX3_init_9 (Nat.le_of_ble_eq_true rfl) (by decide) (by decide) (k_34 d) ?_
  refine sn_putR (k := 0) (t := 34) cl_3 fl_X3_12 dX3_init_12 s2_33 (by decide) rfl (by decide) (Or.inr ⟨rfl, rfl, rfl⟩) (Or.inl ⟨_, rfl⟩) (by decide) ?_
  refine sn_aload_n dX3_init_15 rfl ?_
  refine sm_new (N := 36) (N2 := 37) (kc := 11) (ks := 340) rfl rfl rfl cl_10 wc_37 wc_38 wc_39 dX3_init_16 s2_36 (dv_36) (by decide) ?_
  refine sn_dupr dX3_init_19 ?_
  refine sm_callI (N := 37) (N2 := 43) (kc2 := 6) (ks2 := 24) (kc := 5) (ks := 316) rfl rfl rfl li_4 dX3_init_20 (Nat.le_of_ble_eq_true rfl) (by decide) (by decide) (k_36 d) ?_
  refine sn_putR (k := 1) (t := 36) cl_3 fl_X3_21 dX3_init_23 s2_33 (by decide) rfl (by decide) (Or.inr ⟨rfl, rfl, rfl⟩) (Or.inl ⟨_, rfl⟩) (by decide) ?_
  refine sn_aload_n dX3_init_26 rfl ?_
  refine sm_new (N := 43) (N2 := 44) (kc := 4) (ks := 311) rfl rfl rfl cl_2 wc_44 wc_45 wc_46 dX3_init_27 s2_43 (dv_43) (by decide) ?_
  refine sn_dupr dX3_init_30 ?_
  refine sm_callI (N := 44) (N2 := 46) (kc2 := 2) (ks2 := 301) (kc := 2) (ks := 10) rfl rfl rfl li_5 dX3_init_31 (Nat.le_of_ble_eq_true rfl) (by decide) (by decide) (k_43 d) ?_
  refine sn_putR (k := 2) (t := 43) cl_3 fl_X3_28 dX3_init_34 s2_33 (by decide) rfl (by decide) (Or.inr ⟨rfl, rfl, rfl⟩) (Or.inl ⟨_, rfl⟩) (by decide) ?_
  refine sn_aload_n dX3_init_37 rfl ?_
  refine sn_bipush dX3_init_38 ⟨by decide, by decide, by decide⟩ ?_
  refine sm_newl (N := 46) (N2 := 47) (kc := 1) (ks := 4) rfl rfl rfl rfl s2_46 wc_51 dX3_init_40 (by decide) (by decide) ?_
  refine sn_putR (k := 3) (t := 46) cl_3 fl_X3_32 dX3_init_42 s2_33 (by decide) rfl (by decide) (Or.inr ⟨rfl, rfl, rfl⟩) (Or.inr ⟨_, rfl⟩) (by decide) ?_
  refine sn_aload_n dX3_init_45 rfl ?_
  refine sn_iconst dX3_init_46 ⟨by decide, by decide⟩ ?_
  refine sm_newa (N := 47) (N2 := 48) (kc := 0) (ks := 0) (t := 0) (atype := .int) rfl rfl rfl rfl s2_47 (by decide) (fun _ => rfl) rfl (fun _ _ h => h) wc_7 dX3_init_47 (by decide) (by decide) (by decide) ?_
  refine sn_putR (k := 4) (t := 47) cl_3 fl_X3_36 dX3_init_49 s2_33 (by decide) rfl (by decide) (Or.inr ⟨rfl, rfl, rfl⟩) (Or.inr ⟨_, rfl⟩) (by decide) ?_
  exact sn_ret dX3_init_52 rfl (fun hH hdf => ⟨rfl, hH, hdf⟩)
def U_50 (h : sw_H) : sw_H := sw_up (sw_up (h) 50 0 51) 50 2 52
set_option maxRecDepth 20000 in
set_option maxHeartbeats 4000000 in
theorem k_50 {G : sw_G} (d : Nat) {h : sw_H} : sw_N true G 51 (d + 1) mX8_init 0 [some (sw_r 50)] [] h 2 66 (sw_Fx G 53 (U_50 h)) := by
  refine sn_aload_n dX8_init_0 rfl ?_
  refine sn_obj wc_18 wc_1 wc_2 dX8_init_1 (Nat.le_of_ble_eq_true rfl) ?_
  refine sn_aload_n dX8_init_4 rfl ?_
  refine sn_bipush dX8_init_5 ⟨by decide, by decide, by decide⟩ ?_
  refine sm_newa (N := 51) (N2 := 52) (kc := 1) (ks := 42) (t := 0) (atype := .int) rfl rfl rfl rfl s2_51 (by decide) (fun _ => rfl) rfl (fun _ _ h => h) wc_7 dX8_init_7 (by decide) (by decide) (by decide) ?_
  refine sn_putR (k := 0) (t := 51) cl_8 fl_X8_9 dX8_init_9 s2_50 (by decide) rfl (by decide) (Or.inr ⟨rfl, rfl, rfl⟩) (Or.inr ⟨_, rfl⟩) (by decide) ?_
  refine sn_aload_n dX8_init_12 rfl ?_
  refine sn_bipush dX8_init_13 ⟨by decide, by decide, by decide⟩ ?_
  refine sm_newa (N := 52) (N2 := 53) (kc := 0) (ks := 0) (t := 0) (atype := .int) rfl rfl rfl rfl s2_52 (by decide) (fun _ => rfl) rfl (fun _ _ h => h) wc_7 dX8_init_15 (by decide) (by decide) (by decide) ?_
  refine sn_putR (k := 2) (t := 52) cl_8 fl_X8_15 dX8_init_17 s2_50 (by decide) rfl (by decide) (Or.inr ⟨rfl, rfl, rfl⟩) (Or.inr ⟨_, rfl⟩) (by decide) ?_
  exact sn_ret dX8_init_20 rfl (fun hH hdf => ⟨rfl, hH, hdf⟩)
def U_53 (h : sw_H) : sw_H := sw_up (sw_up (h) 53 0 54) 53 2 55
set_option maxRecDepth 20000 in
set_option maxHeartbeats 4000000 in
theorem k_53 {G : sw_G} (d : Nat) {h : sw_H} : sw_N true G 54 (d + 1) mX8_init 0 [some (sw_r 53)] [] h 2 66 (sw_Fx G 56 (U_53 h)) := by
  refine sn_aload_n dX8_init_0 rfl ?_
  refine sn_obj wc_18 wc_1 wc_2 dX8_init_1 (Nat.le_of_ble_eq_true rfl) ?_
  refine sn_aload_n dX8_init_4 rfl ?_
  refine sn_bipush dX8_init_5 ⟨by decide, by decide, by decide⟩ ?_
  refine sm_newa (N := 54) (N2 := 55) (kc := 1) (ks := 42) (t := 0) (atype := .int) rfl rfl rfl rfl s2_54 (by decide) (fun _ => rfl) rfl (fun _ _ h => h) wc_7 dX8_init_7 (by decide) (by decide) (by decide) ?_
  refine sn_putR (k := 0) (t := 54) cl_8 fl_X8_9 dX8_init_9 s2_53 (by decide) rfl (by decide) (Or.inr ⟨rfl, rfl, rfl⟩) (Or.inr ⟨_, rfl⟩) (by decide) ?_
  refine sn_aload_n dX8_init_12 rfl ?_
  refine sn_bipush dX8_init_13 ⟨by decide, by decide, by decide⟩ ?_
  refine sm_newa (N := 55) (N2 := 56) (kc := 0) (ks := 0) (t := 0) (atype := .int) rfl rfl rfl rfl s2_55 (by decide) (fun _ => rfl) rfl (fun _ _ h => h) wc_7 dX8_init_15 (by decide) (by decide) (by decide) ?_
  refine sn_putR (k := 2) (t := 55) cl_8 fl_X8_15 dX8_init_17 s2_53 (by decide) rfl (by decide) (Or.inr ⟨rfl, rfl, rfl⟩) (Or.inr ⟨_, rfl⟩) (by decide) ?_
  exact sn_ret dX8_init_20 rfl (fun hH hdf => ⟨rfl, hH, hdf⟩)
def U_56 (h : sw_H) : sw_H := sw_up (sw_up (h) 56 0 57) 56 2 58
set_option maxRecDepth 20000 in
set_option maxHeartbeats 4000000 in
theorem k_56 {G : sw_G} (d : Nat) {h : sw_H} : sw_N true G 57 (d + 1) mX8_init 0 [some (sw_r 56)] [] h 2 66 (sw_Fx G 59 (U_56 h)) := by
  refine sn_aload_n dX8_init_0 rfl ?_
  refine sn_obj wc_18 wc_1 wc_2 dX8_init_1 (Nat.le_of_ble_eq_true rfl) ?_
  refine sn_aload_n dX8_init_4 rfl ?_
  refine sn_bipush dX8_init_5 ⟨by decide, by decide, by decide⟩ ?_
  refine sm_newa (N := 57) (N2 := 58) (kc := 1) (ks := 42) (t := 0) (atype := .int) rfl rfl rfl rfl s2_57 (by decide) (fun _ => rfl) rfl (fun _ _ h => h) wc_7 dX8_init_7 (by decide) (by decide) (by decide) ?_
  refine sn_putR (k := 0) (t := 57) cl_8 fl_X8_9 dX8_init_9 s2_56 (by decide) rfl (by decide) (Or.inr ⟨rfl, rfl, rfl⟩) (Or.inr ⟨_, rfl⟩) (by decide) ?_
  refine sn_aload_n dX8_init_12 rfl ?_
  refine sn_bipush dX8_init_13 ⟨by decide, by decide, by decide⟩ ?_
  refine sm_newa (N := 58) (N2 := 59) (kc := 0) (ks := 0) (t := 0) (atype := .int) rfl rfl rfl rfl s2_58 (by decide) (fun _ => rfl) rfl (fun _ _ h => h) wc_7 dX8_init_15 (by decide) (by decide) (by decide) ?_
  refine sn_putR (k := 2) (t := 58) cl_8 fl_X8_15 dX8_init_17 s2_56 (by decide) rfl (by decide) (Or.inr ⟨rfl, rfl, rfl⟩) (Or.inr ⟨_, rfl⟩) (by decide) ?_
  exact sn_ret dX8_init_20 rfl (fun hH hdf => ⟨rfl, hH, hdf⟩)
def U_59 (h : sw_H) : sw_H := sw_up (sw_up (h) 59 0 60) 59 2 61
set_option maxRecDepth 20000 in
set_option maxHeartbeats 4000000 in
theorem k_59 {G : sw_G} (d : Nat) {h : sw_H} : sw_N true G 60 (d + 1) mX8_init 0 [some (sw_r 59)] [] h 2 66 (sw_Fx G 62 (U_59 h)) := by
  refine sn_aload_n dX8_init_0 rfl ?_
  refine sn_obj wc_18 wc_1 wc_2 dX8_init_1 (Nat.le_of_ble_eq_true rfl) ?_
  refine sn_aload_n dX8_init_4 rfl ?_
  refine sn_bipush dX8_init_5 ⟨by decide, by decide, by decide⟩ ?_
  refine sm_newa (N := 60) (N2 := 61) (kc := 1) (ks := 42) (t := 0) (atype := .int) rfl rfl rfl rfl s2_60 (by decide) (fun _ => rfl) rfl (fun _ _ h => h) wc_7 dX8_init_7 (by decide) (by decide) (by decide) ?_
  refine sn_putR (k := 0) (t := 60) cl_8 fl_X8_9 dX8_init_9 s2_59 (by decide) rfl (by decide) (Or.inr ⟨rfl, rfl, rfl⟩) (Or.inr ⟨_, rfl⟩) (by decide) ?_
  refine sn_aload_n dX8_init_12 rfl ?_
  refine sn_bipush dX8_init_13 ⟨by decide, by decide, by decide⟩ ?_
  refine sm_newa (N := 61) (N2 := 62) (kc := 0) (ks := 0) (t := 0) (atype := .int) rfl rfl rfl rfl s2_61 (by decide) (fun _ => rfl) rfl (fun _ _ h => h) wc_7 dX8_init_15 (by decide) (by decide) (by decide) ?_
  refine sn_putR (k := 2) (t := 61) cl_8 fl_X8_15 dX8_init_17 s2_59 (by decide) rfl (by decide) (Or.inr ⟨rfl, rfl, rfl⟩) (Or.inr ⟨_, rfl⟩) (by decide) ?_
  exact sn_ret dX8_init_20 rfl (fun hH hdf => ⟨rfl, hH, hdf⟩)
def U_62 (h : sw_H) : sw_H := sw_up (sw_up (h) 62 0 63) 62 2 64
set_option maxRecDepth 20000 in
set_option maxHeartbeats 4000000 in
theorem k_62 {G : sw_G} (d : Nat) {h : sw_H} : sw_N true G 63 (d + 1) mX8_init 0 [some (sw_r 62)] [] h 2 66 (sw_Fx G 65 (U_62 h)) := by
  refine sn_aload_n dX8_init_0 rfl ?_
  refine sn_obj wc_18 wc_1 wc_2 dX8_init_1 (Nat.le_of_ble_eq_true rfl) ?_
  refine sn_aload_n dX8_init_4 rfl ?_
  refine sn_bipush dX8_init_5 ⟨by decide, by decide, by decide⟩ ?_
  refine sm_newa (N := 63) (N2 := 64) (kc := 1) (ks := 42) (t := 0) (atype := .int) rfl rfl rfl rfl s2_63 (by decide) (fun _ => rfl) rfl (fun _ _ h => h) wc_7 dX8_init_7 (by decide) (by decide) (by decide) ?_
  refine sn_putR (k := 0) (t := 63) cl_8 fl_X8_9 dX8_init_9 s2_62 (by decide) rfl (by decide) (Or.inr ⟨rfl, rfl, rfl⟩) (Or.inr ⟨_, rfl⟩) (by decide) ?_
  refine sn_aload_n dX8_init_12 rfl ?_
  refine sn_bipush dX8_init_13 ⟨by decide, by decide, by decide⟩ ?_
  refine sm_newa (N := 64) (N2 := 65) (kc := 0) (ks := 0) (t := 0) (atype := .int) rfl rfl rfl rfl s2_64 (by decide) (fun _ => rfl) rfl (fun _ _ h => h) wc_7 dX8_init_15 (by decide) (by decide) (by decide) ?_
  refine sn_putR (k := 2) (t := 64) cl_8 fl_X8_15 dX8_init_17 s2_62 (by decide) rfl (by decide) (Or.inr ⟨rfl, rfl, rfl⟩) (Or.inr ⟨_, rfl⟩) (by decide) ?_
  exact sn_ret dX8_init_20 rfl (fun hH hdf => ⟨rfl, hH, hdf⟩)
def U_65 (h : sw_H) : sw_H := sw_up (sw_up (h) 65 0 66) 65 2 67
set_option maxRecDepth 20000 in
set_option maxHeartbeats 4000000 in
theorem k_65 {G : sw_G} (d : Nat) {h : sw_H} : sw_N true G 66 (d + 1) mX8_init 0 [some (sw_r 65)] [] h 2 66 (sw_Fx G 68 (U_65 h)) := by
  refine sn_aload_n dX8_init_0 rfl ?_
  refine sn_obj wc_18 wc_1 wc_2 dX8_init_1 (Nat.le_of_ble_eq_true rfl) ?_
  refine sn_aload_n dX8_init_4 rfl ?_
  refine sn_bipush dX8_init_5 ⟨by decide, by decide, by decide⟩ ?_
  refine sm_newa (N := 66) (N2 := 67) (kc := 1) (ks := 42) (t := 0) (atype := .int) rfl rfl rfl rfl s2_66 (by decide) (fun _ => rfl) rfl (fun _ _ h => h) wc_7 dX8_init_7 (by decide) (by decide) (by decide) ?_
  refine sn_putR (k := 0) (t := 66) cl_8 fl_X8_9 dX8_init_9 s2_65 (by decide) rfl (by decide) (Or.inr ⟨rfl, rfl, rfl⟩) (Or.inr ⟨_, rfl⟩) (by decide) ?_
  refine sn_aload_n dX8_init_12 rfl ?_
  refine sn_bipush dX8_init_13 ⟨by decide, by decide, by decide⟩ ?_
  refine sm_newa (N := 67) (N2 := 68) (kc := 0) (ks := 0) (t := 0) (atype := .int) rfl rfl rfl rfl s2_67 (by decide) (fun _ => rfl) rfl (fun _ _ h => h) wc_7 dX8_init_15 (by decide) (by decide) (by decide) ?_
  refine sn_putR (k := 2) (t := 67) cl_8 fl_X8_15 dX8_init_17 s2_65 (by decide) rfl (by decide) (Or.inr ⟨rfl, rfl, rfl⟩) (Or.inr ⟨_, rfl⟩) (by decide) ?_
  exact sn_ret dX8_init_20 rfl (fun hH hdf => ⟨rfl, hH, hdf⟩)
def U_68 (h : sw_H) : sw_H := sw_up (sw_up (h) 68 0 69) 68 2 70
set_option maxRecDepth 20000 in
set_option maxHeartbeats 4000000 in
theorem k_68 {G : sw_G} (d : Nat) {h : sw_H} : sw_N true G 69 (d + 1) mX8_init 0 [some (sw_r 68)] [] h 2 66 (sw_Fx G 71 (U_68 h)) := by
  refine sn_aload_n dX8_init_0 rfl ?_
  refine sn_obj wc_18 wc_1 wc_2 dX8_init_1 (Nat.le_of_ble_eq_true rfl) ?_
  refine sn_aload_n dX8_init_4 rfl ?_
  refine sn_bipush dX8_init_5 ⟨by decide, by decide, by decide⟩ ?_
  refine sm_newa (N := 69) (N2 := 70) (kc := 1) (ks := 42) (t := 0) (atype := .int) rfl rfl rfl rfl s2_69 (by decide) (fun _ => rfl) rfl (fun _ _ h => h) wc_7 dX8_init_7 (by decide) (by decide) (by decide) ?_
  refine sn_putR (k := 0) (t := 69) cl_8 fl_X8_9 dX8_init_9 s2_68 (by decide) rfl (by decide) (Or.inr ⟨rfl, rfl, rfl⟩) (Or.inr ⟨_, rfl⟩) (by decide) ?_
  refine sn_aload_n dX8_init_12 rfl ?_
  refine sn_bipush dX8_init_13 ⟨by decide, by decide, by decide⟩ ?_
  refine sm_newa (N := 70) (N2 := 71) (kc := 0) (ks := 0) (t := 0) (atype := .int) rfl rfl rfl rfl s2_70 (by decide) (fun _ => rfl) rfl (fun _ _ h => h) wc_7 dX8_init_15 (by decide) (by decide) (by decide) ?_
  refine sn_putR (k := 2) (t := 70) cl_8 fl_X8_15 dX8_init_17 s2_68 (by decide) rfl (by decide) (Or.inr ⟨rfl, rfl, rfl⟩) (Or.inr ⟨_, rfl⟩) (by decide) ?_
  exact sn_ret dX8_init_20 rfl (fun hH hdf => ⟨rfl, hH, hdf⟩)
def U_71 (h : sw_H) : sw_H := sw_up (sw_up (h) 71 0 72) 71 2 73
set_option maxRecDepth 20000 in
set_option maxHeartbeats 4000000 in
theorem k_71 {G : sw_G} (d : Nat) {h : sw_H} : sw_N true G 72 (d + 1) mX8_init 0 [some (sw_r 71)] [] h 2 66 (sw_Fx G 74 (U_71 h)) := by
  refine sn_aload_n dX8_init_0 rfl ?_
  refine sn_obj wc_18 wc_1 wc_2 dX8_init_1 (Nat.le_of_ble_eq_true rfl) ?_
  refine sn_aload_n dX8_init_4 rfl ?_
  refine sn_bipush dX8_init_5 ⟨by decide, by decide, by decide⟩ ?_
  refine sm_newa (N := 72) (N2 := 73) (kc := 1) (ks := 42) (t := 0) (atype := .int) rfl rfl rfl rfl s2_72 (by decide) (fun _ => rfl) rfl (fun _ _ h => h) wc_7 dX8_init_7 (by decide) (by decide) (by decide) ?_
  refine sn_putR (k := 0) (t := 72) cl_8 fl_X8_9 dX8_init_9 s2_71 (by decide) rfl (by decide) (Or.inr ⟨rfl, rfl, rfl⟩) (Or.inr ⟨_, rfl⟩) (by decide) ?_
  refine sn_aload_n dX8_init_12 rfl ?_
  refine sn_bipush dX8_init_13 ⟨by decide, by decide, by decide⟩ ?_
  refine sm_newa (N := 73) (N2 := 74) (kc := 0) (ks := 0) (t := 0) (atype := .int) rfl rfl rfl rfl s2_73 (by decide) (fun _ => rfl) rfl (fun _ _ h => h) wc_7 dX8_init_15 (by decide) (by decide) (by decide) ?_
  refine sn_putR (k := 2) (t := 73) cl_8 fl_X8_15 dX8_init_17 s2_71 (by decide) rfl (by decide) (Or.inr ⟨rfl, rfl, rfl⟩) (Or.inr ⟨_, rfl⟩) (by decide) ?_
  exact sn_ret dX8_init_20 rfl (fun hH hdf => ⟨rfl, hH, hdf⟩)
def U_74 (h : sw_H) : sw_H := sw_up (sw_up (h) 74 0 75) 74 2 76
set_option maxRecDepth 20000 in
set_option maxHeartbeats 4000000 in
theorem k_74 {G : sw_G} (d : Nat) {h : sw_H} : sw_N true G 75 (d + 1) mX8_init 0 [some (sw_r 74)] [] h 2 66 (sw_Fx G 77 (U_74 h)) := by
  refine sn_aload_n dX8_init_0 rfl ?_
  refine sn_obj wc_18 wc_1 wc_2 dX8_init_1 (Nat.le_of_ble_eq_true rfl) ?_
  refine sn_aload_n dX8_init_4 rfl ?_
  refine sn_bipush dX8_init_5 ⟨by decide, by decide, by decide⟩ ?_
  refine sm_newa (N := 75) (N2 := 76) (kc := 1) (ks := 42) (t := 0) (atype := .int) rfl rfl rfl rfl s2_75 (by decide) (fun _ => rfl) rfl (fun _ _ h => h) wc_7 dX8_init_7 (by decide) (by decide) (by decide) ?_
  refine sn_putR (k := 0) (t := 75) cl_8 fl_X8_9 dX8_init_9 s2_74 (by decide) rfl (by decide) (Or.inr ⟨rfl, rfl, rfl⟩) (Or.inr ⟨_, rfl⟩) (by decide) ?_
  refine sn_aload_n dX8_init_12 rfl ?_
  refine sn_bipush dX8_init_13 ⟨by decide, by decide, by decide⟩ ?_
  refine sm_newa (N := 76) (N2 := 77) (kc := 0) (ks := 0) (t := 0) (atype := .int) rfl rfl rfl rfl s2_76 (by decide) (fun _ => rfl) rfl (fun _ _ h => h) wc_7 dX8_init_15 (by decide) (by decide) (by decide) ?_
  refine sn_putR (k := 2) (t := 76) cl_8 fl_X8_15 dX8_init_17 s2_74 (by decide) rfl (by decide) (Or.inr ⟨rfl, rfl, rfl⟩) (Or.inr ⟨_, rfl⟩) (by decide) ?_
  exact sn_ret dX8_init_20 rfl (fun hH hdf => ⟨rfl, hH, hdf⟩)
def U_77 (h : sw_H) : sw_H := sw_up (sw_up (h) 77 0 78) 77 2 79
set_option maxRecDepth 20000 in
set_option maxHeartbeats 4000000 in
theorem k_77 {G : sw_G} (d : Nat) {h : sw_H} : sw_N true G 78 (d + 1) mX8_init 0 [some (sw_r 77)] [] h 2 66 (sw_Fx G 80 (U_77 h)) := by
  refine sn_aload_n dX8_init_0 rfl ?_
  refine sn_obj wc_18 wc_1 wc_2 dX8_init_1 (Nat.le_of_ble_eq_true rfl) ?_
  refine sn_aload_n dX8_init_4 rfl ?_
  refine sn_bipush dX8_init_5 ⟨by decide, by decide, by decide⟩ ?_
  refine sm_newa (N := 78) (N2 := 79) (kc := 1) (ks := 42) (t := 0) (atype := .int) rfl rfl rfl rfl s2_78 (by decide) (fun _ => rfl) rfl (fun _ _ h => h) wc_7 dX8_init_7 (by decide) (by decide) (by decide) ?_
  refine sn_putR (k := 0) (t := 78) cl_8 fl_X8_9 dX8_init_9 s2_77 (by decide) rfl (by decide) (Or.inr ⟨rfl, rfl, rfl⟩) (Or.inr ⟨_, rfl⟩) (by decide) ?_
  refine sn_aload_n dX8_init_12 rfl ?_
  refine sn_bipush dX8_init_13 ⟨by decide, by decide, by decide⟩ ?_
  refine sm_newa (N := 79) (N2 := 80) (kc := 0) (ks := 0) (t := 0) (atype := .int) rfl rfl rfl rfl s2_79 (by decide) (fun _ => rfl) rfl (fun _ _ h => h) wc_7 dX8_init_15 (by decide) (by decide) (by decide) ?_
  refine sn_putR (k := 2) (t := 79) cl_8 fl_X8_15 dX8_init_17 s2_77 (by decide) rfl (by decide) (Or.inr ⟨rfl, rfl, rfl⟩) (Or.inr ⟨_, rfl⟩) (by decide) ?_
  exact sn_ret dX8_init_20 rfl (fun hH hdf => ⟨rfl, hH, hdf⟩)
def U_80 (h : sw_H) : sw_H := sw_up (sw_up (h) 80 0 81) 80 2 82
set_option maxRecDepth 20000 in
set_option maxHeartbeats 4000000 in
theorem k_80 {G : sw_G} (d : Nat) {h : sw_H} : sw_N true G 81 (d + 1) mX8_init 0 [some (sw_r 80)] [] h 2 66 (sw_Fx G 83 (U_80 h)) := by
  refine sn_aload_n dX8_init_0 rfl ?_
  refine sn_obj wc_18 wc_1 wc_2 dX8_init_1 (Nat.le_of_ble_eq_true rfl) ?_
  refine sn_aload_n dX8_init_4 rfl ?_
  refine sn_bipush dX8_init_5 ⟨by decide, by decide, by decide⟩ ?_
  refine sm_newa (N := 81) (N2 := 82) (kc := 1) (ks := 42) (t := 0) (atype := .int) rfl rfl rfl rfl s2_81 (by decide) (fun _ => rfl) rfl (fun _ _ h => h) wc_7 dX8_init_7 (by decide) (by decide) (by decide) ?_
  refine sn_putR (k := 0) (t := 81) cl_8 fl_X8_9 dX8_init_9 s2_80 (by decide) rfl (by decide) (Or.inr ⟨rfl, rfl, rfl⟩) (Or.inr ⟨_, rfl⟩) (by decide) ?_
  refine sn_aload_n dX8_init_12 rfl ?_
  refine sn_bipush dX8_init_13 ⟨by decide, by decide, by decide⟩ ?_
  refine sm_newa (N := 82) (N2 := 83) (kc := 0) (ks := 0) (t := 0) (atype := .int) rfl rfl rfl rfl s2_82 (by decide) (fun _ => rfl) rfl (fun _ _ h => h) wc_7 dX8_init_15 (by decide) (by decide) (by decide) ?_
  refine sn_putR (k := 2) (t := 82) cl_8 fl_X8_15 dX8_init_17 s2_80 (by decide) rfl (by decide) (Or.inr ⟨rfl, rfl, rfl⟩) (Or.inr ⟨_, rfl⟩) (by decide) ?_
  exact sn_ret dX8_init_20 rfl (fun hH hdf => ⟨rfl, hH, hdf⟩)
def U_83 (h : sw_H) : sw_H := sw_up (sw_up (h) 83 0 84) 83 2 85
set_option maxRecDepth 20000 in
set_option maxHeartbeats 4000000 in
theorem k_83 {G : sw_G} (d : Nat) {h : sw_H} : sw_N true G 84 (d + 1) mX8_init 0 [some (sw_r 83)] [] h 2 66 (sw_Fx G 86 (U_83 h)) := by
  refine sn_aload_n dX8_init_0 rfl ?_
  refine sn_obj wc_18 wc_1 wc_2 dX8_init_1 (Nat.le_of_ble_eq_true rfl) ?_
  refine sn_aload_n dX8_init_4 rfl ?_
  refine sn_bipush dX8_init_5 ⟨by decide, by decide, by decide⟩ ?_
  refine sm_newa (N := 84) (N2 := 85) (kc := 1) (ks := 42) (t := 0) (atype := .int) rfl rfl rfl rfl s2_84 (by decide) (fun _ => rfl) rfl (fun _ _ h => h) wc_7 dX8_init_7 (by decide) (by decide) (by decide) ?_
  refine sn_putR (k := 0) (t := 84) cl_8 fl_X8_9 dX8_init_9 s2_83 (by decide) rfl (by decide) (Or.inr ⟨rfl, rfl, rfl⟩) (Or.inr ⟨_, rfl⟩) (by decide) ?_
  refine sn_aload_n dX8_init_12 rfl ?_
  refine sn_bipush dX8_init_13 ⟨by decide, by decide, by decide⟩ ?_
  refine sm_newa (N := 85) (N2 := 86) (kc := 0) (ks := 0) (t := 0) (atype := .int) rfl rfl rfl rfl s2_85 (by decide) (fun _ => rfl) rfl (fun _ _ h => h) wc_7 dX8_init_15 (by decide) (by decide) (by decide) ?_
  refine sn_putR (k := 2) (t := 85) cl_8 fl_X8_15 dX8_init_17 s2_83 (by decide) rfl (by decide) (Or.inr ⟨rfl, rfl, rfl⟩) (Or.inr ⟨_, rfl⟩) (by decide) ?_
  exact sn_ret dX8_init_20 rfl (fun hH hdf => ⟨rfl, hH, hdf⟩)
def U_86 (h : sw_H) : sw_H := sw_up (sw_up (h) 86 0 87) 86 2 88
set_option maxRecDepth 20000 in
set_option maxHeartbeats 4000000 in
theorem k_86 {G : sw_G} (d : Nat) {h : sw_H} : sw_N true G 87 (d + 1) mX8_init 0 [some (sw_r 86)] [] h 2 66 (sw_Fx G 89 (U_86 h)) := by
  refine sn_aload_n dX8_init_0 rfl ?_
  refine sn_obj wc_18 wc_1 wc_2 dX8_init_1 (Nat.le_of_ble_eq_true rfl) ?_
  refine sn_aload_n dX8_init_4 rfl ?_
  refine sn_bipush dX8_init_5 ⟨by decide, by decide, by decide⟩ ?_
  refine sm_newa (N := 87) (N2 := 88) (kc := 1) (ks := 42) (t := 0) (atype := .int) rfl rfl rfl rfl s2_87 (by decide) (fun _ => rfl) rfl (fun _ _ h => h) wc_7 dX8_init_7 (by decide) (by decide) (by decide) ?_
  refine sn_putR (k := 0) (t := 87) cl_8 fl_X8_9 dX8_init_9 s2_86 (by decide) rfl (by decide) (Or.inr ⟨rfl, rfl, rfl⟩) (Or.inr ⟨_, rfl⟩) (by decide) ?_
  refine sn_aload_n dX8_init_12 rfl ?_
  refine sn_bipush dX8_init_13 ⟨by decide, by decide, by decide⟩ ?_
  refine sm_newa (N := 88) (N2 := 89) (kc := 0) (ks := 0) (t := 0) (atype := .int) rfl rfl rfl rfl s2_88 (by decide) (fun _ => rfl) rfl (fun _ _ h => h) wc_7 dX8_init_15 (by decide) (by decide) (by decide) ?_
  refine sn_putR (k := 2) (t := 88) cl_8 fl_X8_15 dX8_init_17 s2_86 (by decide) rfl (by decide) (Or.inr ⟨rfl, rfl, rfl⟩) (Or.inr ⟨_, rfl⟩) (by decide) ?_
  exact sn_ret dX8_init_20 rfl (fun hH hdf => ⟨rfl, hH, hdf⟩)
def U_89 (h : sw_H) : sw_H := sw_up (sw_up (h) 89 0 90) 89 2 91
set_option maxRecDepth 20000 in
set_option maxHeartbeats 4000000 in
theorem k_89 {G : sw_G} (d : Nat) {h : sw_H} : sw_N true G 90 (d + 1) mX8_init 0 [some (sw_r 89)] [] h 2 66 (sw_Fx G 92 (U_89 h)) := by
  refine sn_aload_n dX8_init_0 rfl ?_
  refine sn_obj wc_18 wc_1 wc_2 dX8_init_1 (Nat.le_of_ble_eq_true rfl) ?_
  refine sn_aload_n dX8_init_4 rfl ?_
  refine sn_bipush dX8_init_5 ⟨by decide, by decide, by decide⟩ ?_
  refine sm_newa (N := 90) (N2 := 91) (kc := 1) (ks := 42) (t := 0) (atype := .int) rfl rfl rfl rfl s2_90 (by decide) (fun _ => rfl) rfl (fun _ _ h => h) wc_7 dX8_init_7 (by decide) (by decide) (by decide) ?_
  refine sn_putR (k := 0) (t := 90) cl_8 fl_X8_9 dX8_init_9 s2_89 (by decide) rfl (by decide) (Or.inr ⟨rfl, rfl, rfl⟩) (Or.inr ⟨_, rfl⟩) (by decide) ?_
  refine sn_aload_n dX8_init_12 rfl ?_
  refine sn_bipush dX8_init_13 ⟨by decide, by decide, by decide⟩ ?_
  refine sm_newa (N := 91) (N2 := 92) (kc := 0) (ks := 0) (t := 0) (atype := .int) rfl rfl rfl rfl s2_91 (by decide) (fun _ => rfl) rfl (fun _ _ h => h) wc_7 dX8_init_15 (by decide) (by decide) (by decide) ?_
  refine sn_putR (k := 2) (t := 91) cl_8 fl_X8_15 dX8_init_17 s2_89 (by decide) rfl (by decide) (Or.inr ⟨rfl, rfl, rfl⟩) (Or.inr ⟨_, rfl⟩) (by decide) ?_
  exact sn_ret dX8_init_20 rfl (fun hH hdf => ⟨rfl, hH, hdf⟩)
def U_92 (h : sw_H) : sw_H := sw_up (sw_up (h) 92 0 93) 92 2 94
set_option maxRecDepth 20000 in
set_option maxHeartbeats 4000000 in
theorem k_92 {G : sw_G} (d : Nat) {h : sw_H} : sw_N true G 93 (d + 1) mX8_init 0 [some (sw_r 92)] [] h 2 66 (sw_Fx G 95 (U_92 h)) := by
  refine sn_aload_n dX8_init_0 rfl ?_
  refine sn_obj wc_18 wc_1 wc_2 dX8_init_1 (Nat.le_of_ble_eq_true rfl) ?_
  refine sn_aload_n dX8_init_4 rfl ?_
  refine sn_bipush dX8_init_5 ⟨by decide, by decide, by decide⟩ ?_
  refine sm_newa (N := 93) (N2 := 94) (kc := 1) (ks := 42) (t := 0) (atype := .int) rfl rfl rfl rfl s2_93 (by decide) (fun _ => rfl) rfl (fun _ _ h => h) wc_7 dX8_init_7 (by decide) (by decide) (by decide) ?_
  refine sn_putR (k := 0) (t := 93) cl_8 fl_X8_9 dX8_init_9 s2_92 (by decide) rfl (by decide) (Or.inr ⟨rfl, rfl, rfl⟩) (Or.inr ⟨_, rfl⟩) (by decide) ?_
  refine sn_aload_n dX8_init_12 rfl ?_
  refine sn_bipush dX8_init_13 ⟨by decide, by decide, by decide⟩ ?_
  refine sm_newa (N := 94) (N2 := 95) (kc := 0) (ks := 0) (t := 0) (atype := .int) rfl rfl rfl rfl s2_94 (by decide) (fun _ => rfl) rfl (fun _ _ h => h) wc_7 dX8_init_15 (by decide) (by decide) (by decide) ?_
  refine sn_putR (k := 2) (t := 94) cl_8 fl_X8_15 dX8_init_17 s2_92 (by decide) rfl (by decide) (Or.inr ⟨rfl, rfl, rfl⟩) (Or.inr ⟨_, rfl⟩) (by decide) ?_
  exact sn_ret dX8_init_20 rfl (fun hH hdf => ⟨rfl, hH, hdf⟩)
def U_95 (h : sw_H) : sw_H := sw_up (sw_up (h) 95 0 96) 95 2 97
set_option maxRecDepth 20000 in
set_option maxHeartbeats 4000000 in
theorem k_95 {G : sw_G} (d : Nat) {h : sw_H} : sw_N true G 96 (d + 1) mX8_init 0 [some (sw_r 95)] [] h 2 66 (sw_Fx G 98 (U_95 h)) := by
  refine sn_aload_n dX8_init_0 rfl ?_
  refine sn_obj wc_18 wc_1 wc_2 dX8_init_1 (Nat.le_of_ble_eq_true rfl) ?_
  refine sn_aload_n dX8_init_4 rfl ?_
  refine sn_bipush dX8_init_5 ⟨by decide, by decide, by decide⟩ ?_
  refine sm_newa (N := 96) (N2 := 97) (kc := 1) (ks := 42) (t := 0) (atype := .int) rfl rfl rfl rfl s2_96 (by decide) (fun _ => rfl) rfl (fun _ _ h => h) wc_7 dX8_init_7 (by decide) (by decide) (by decide) ?_
  refine sn_putR (k := 0) (t := 96) cl_8 fl_X8_9 dX8_init_9 s2_95 (by decide) rfl (by decide) (Or.inr ⟨rfl, rfl, rfl⟩) (Or.inr ⟨_, rfl⟩) (by decide) ?_
  refine sn_aload_n dX8_init_12 rfl ?_
  refine sn_bipush dX8_init_13 ⟨by decide, by decide, by decide⟩ ?_
  refine sm_newa (N := 97) (N2 := 98) (kc := 0) (ks := 0) (t := 0) (atype := .int) rfl rfl rfl rfl s2_97 (by decide) (fun _ => rfl) rfl (fun _ _ h => h) wc_7 dX8_init_15 (by decide) (by decide) (by decide) ?_
  refine sn_putR (k := 2) (t := 97) cl_8 fl_X8_15 dX8_init_17 s2_95 (by decide) rfl (by decide) (Or.inr ⟨rfl, rfl, rfl⟩) (Or.inr ⟨_, rfl⟩) (by decide) ?_
  exact sn_ret dX8_init_20 rfl (fun hH hdf => ⟨rfl, hH, hdf⟩)
def U_98 (h : sw_H) : sw_H := sw_up (sw_up (h) 98 0 99) 98 2 100
set_option maxRecDepth 20000 in
set_option maxHeartbeats 4000000 in
theorem k_98 {G : sw_G} (d : Nat) {h : sw_H} : sw_N true G 99 (d + 1) mX8_init 0 [some (sw_r 98)] [] h 2 66 (sw_Fx G 101 (U_98 h)) := by
  refine sn_aload_n dX8_init_0 rfl ?_
  refine sn_obj wc_18 wc_1 wc_2 dX8_init_1 (Nat.le_of_ble_eq_true rfl) ?_
  refine sn_aload_n dX8_init_4 rfl ?_
  refine sn_bipush dX8_init_5 ⟨by decide, by decide, by decide⟩ ?_
  refine sm_newa (N := 99) (N2 := 100) (kc := 1) (ks := 42) (t := 0) (atype := .int) rfl rfl rfl rfl s2_99 (by decide) (fun _ => rfl) rfl (fun _ _ h => h) wc_7 dX8_init_7 (by decide) (by decide) (by decide) ?_
  refine sn_putR (k := 0) (t := 99) cl_8 fl_X8_9 dX8_init_9 s2_98 (by decide) rfl (by decide) (Or.inr ⟨rfl, rfl, rfl⟩) (Or.inr ⟨_, rfl⟩) (by decide) ?_
  refine sn_aload_n dX8_init_12 rfl ?_
  refine sn_bipush dX8_init_13 ⟨by decide, by decide, by decide⟩ ?_
  refine sm_newa (N := 100) (N2 := 101) (kc := 0) (ks := 0) (t := 0) (atype := .int) rfl rfl rfl rfl s2_100 (by decide) (fun _ => rfl) rfl (fun _ _ h => h) wc_7 dX8_init_15 (by decide) (by decide) (by decide) ?_
  refine sn_putR (k := 2) (t := 100) cl_8 fl_X8_15 dX8_init_17 s2_98 (by decide) rfl (by decide) (Or.inr ⟨rfl, rfl, rfl⟩) (Or.inr ⟨_, rfl⟩) (by decide) ?_
  exact sn_ret dX8_init_20 rfl (fun hH hdf => ⟨rfl, hH, hdf⟩)
def U_101 (h : sw_H) : sw_H := sw_up (sw_up (h) 101 0 102) 101 2 103
set_option maxRecDepth 20000 in
set_option maxHeartbeats 4000000 in
theorem k_101 {G : sw_G} (d : Nat) {h : sw_H} : sw_N true G 102 (d + 1) mX8_init 0 [some (sw_r 101)] [] h 2 66 (sw_Fx G 104 (U_101 h)) := by
  refine sn_aload_n dX8_init_0 rfl ?_
  refine sn_obj wc_18 wc_1 wc_2 dX8_init_1 (Nat.le_of_ble_eq_true rfl) ?_
  refine sn_aload_n dX8_init_4 rfl ?_
  refine sn_bipush dX8_init_5 ⟨by decide, by decide, by decide⟩ ?_
  refine sm_newa (N := 102) (N2 := 103) (kc := 1) (ks := 42) (t := 0) (atype := .int) rfl rfl rfl rfl s2_102 (by decide) (fun _ => rfl) rfl (fun _ _ h => h) wc_7 dX8_init_7 (by decide) (by decide) (by decide) ?_
  refine sn_putR (k := 0) (t := 102) cl_8 fl_X8_9 dX8_init_9 s2_101 (by decide) rfl (by decide) (Or.inr ⟨rfl, rfl, rfl⟩) (Or.inr ⟨_, rfl⟩) (by decide) ?_
  refine sn_aload_n dX8_init_12 rfl ?_
  refine sn_bipush dX8_init_13 ⟨by decide, by decide, by decide⟩ ?_
  refine sm_newa (N := 103) (N2 := 104) (kc := 0) (ks := 0) (t := 0) (atype := .int) rfl rfl rfl rfl s2_103 (by decide) (fun _ => rfl) rfl (fun _ _ h => h) wc_7 dX8_init_15 (by decide) (by decide) (by decide) ?_
  refine sn_putR (k := 2) (t := 103) cl_8 fl_X8_15 dX8_init_17 s2_101 (by decide) rfl (by decide) (Or.inr ⟨rfl, rfl, rfl⟩) (Or.inr ⟨_, rfl⟩) (by decide) ?_
  exact sn_ret dX8_init_20 rfl (fun hH hdf => ⟨rfl, hH, hdf⟩)
def U_104 (h : sw_H) : sw_H := sw_up (sw_up (h) 104 0 105) 104 2 106
set_option maxRecDepth 20000 in
set_option maxHeartbeats 4000000 in
theorem k_104 {G : sw_G} (d : Nat) {h : sw_H} : sw_N true G 105 (d + 1) mX8_init 0 [some (sw_r 104)] [] h 2 66 (sw_Fx G 107 (U_104 h)) := by
  refine sn_aload_n dX8_init_0 rfl ?_
  refine sn_obj wc_18 wc_1 wc_2 dX8_init_1 (Nat.le_of_ble_eq_true rfl) ?_
  refine sn_aload_n dX8_init_4 rfl ?_
  refine sn_bipush dX8_init_5 ⟨by decide, by decide, by decide⟩ ?_
  refine sm_newa (N := 105) (N2 := 106) (kc := 1) (ks := 42) (t := 0) (atype := .int) rfl rfl rfl rfl s2_105 (by decide) (fun _ => rfl) rfl (fun _ _ h => h) wc_7 dX8_init_7 (by decide) (by decide) (by decide) ?_
  refine sn_putR (k := 0) (t := 105) cl_8 fl_X8_9 dX8_init_9 s2_104 (by decide) rfl (by decide) (Or.inr ⟨rfl, rfl, rfl⟩) (Or.inr ⟨_, rfl⟩) (by decide) ?_
  refine sn_aload_n dX8_init_12 rfl ?_
  refine sn_bipush dX8_init_13 ⟨by decide, by decide, by decide⟩ ?_
  refine sm_newa (N := 106) (N2 := 107) (kc := 0) (ks := 0) (t := 0) (atype := .int) rfl rfl rfl rfl s2_106 (by decide) (fun _ => rfl) rfl (fun _ _ h => h) wc_7 dX8_init_15 (by decide) (by decide) (by decide) ?_
  refine sn_putR (k := 2) (t := 106) cl_8 fl_X8_15 dX8_init_17 s2_104 (by decide) rfl (by decide) (Or.inr ⟨rfl, rfl, rfl⟩) (Or.inr ⟨_, rfl⟩) (by decide) ?_
  exact sn_ret dX8_init_20 rfl (fun hH hdf => ⟨rfl, hH, hdf⟩)
def U_107 (h : sw_H) : sw_H := sw_up (sw_up (h) 107 0 108) 107 2 109
set_option maxRecDepth 20000 in
set_option maxHeartbeats 4000000 in
theorem k_107 {G : sw_G} (d : Nat) {h : sw_H} : sw_N true G 108 (d + 1) mX8_init 0 [some (sw_r 107)] [] h 2 66 (sw_Fx G 110 (U_107 h)) := by
  refine sn_aload_n dX8_init_0 rfl ?_
  refine sn_obj wc_18 wc_1 wc_2 dX8_init_1 (Nat.le_of_ble_eq_true rfl) ?_
  refine sn_aload_n dX8_init_4 rfl ?_
  refine sn_bipush dX8_init_5 ⟨by decide, by decide, by decide⟩ ?_
  refine sm_newa (N := 108) (N2 := 109) (kc := 1) (ks := 42) (t := 0) (atype := .int) rfl rfl rfl rfl s2_108 (by decide) (fun _ => rfl) rfl (fun _ _ h => h) wc_7 dX8_init_7 (by decide) (by decide) (by decide) ?_
  refine sn_putR (k := 0) (t := 108) cl_8 fl_X8_9 dX8_init_9 s2_107 (by decide) rfl (by decide) (Or.inr ⟨rfl, rfl, rfl⟩) (Or.inr ⟨_, rfl⟩) (by decide) ?_
  refine sn_aload_n dX8_init_12 rfl ?_
  refine sn_bipush dX8_init_13 ⟨by decide, by decide, by decide⟩ ?_
  refine sm_newa (N := 109) (N2 := 110) (kc := 0) (ks := 0) (t := 0) (atype := .int) rfl rfl rfl rfl s2_109 (by decide) (fun _ => rfl) rfl (fun _ _ h => h) wc_7 dX8_init_15 (by decide) (by decide) (by decide) ?_
  refine sn_putR (k := 2) (t := 109) cl_8 fl_X8_15 dX8_init_17 s2_107 (by decide) rfl (by decide) (Or.inr ⟨rfl, rfl, rfl⟩) (Or.inr ⟨_, rfl⟩) (by decide) ?_
  exact sn_ret dX8_init_20 rfl (fun hH hdf => ⟨rfl, hH, hdf⟩)
def U_110 (h : sw_H) : sw_H := sw_up (sw_up (h) 110 0 111) 110 2 112
set_option maxRecDepth 20000 in
set_option maxHeartbeats 4000000 in
theorem k_110 {G : sw_G} (d : Nat) {h : sw_H} : sw_N true G 111 (d + 1) mX8_init 0 [some (sw_r 110)] [] h 2 66 (sw_Fx G 113 (U_110 h)) := by
  refine sn_aload_n dX8_init_0 rfl ?_
  refine sn_obj wc_18 wc_1 wc_2 dX8_init_1 (Nat.le_of_ble_eq_true rfl) ?_
  refine sn_aload_n dX8_init_4 rfl ?_
  refine sn_bipush dX8_init_5 ⟨by decide, by decide, by decide⟩ ?_
  refine sm_newa (N := 111) (N2 := 112) (kc := 1) (ks := 42) (t := 0) (atype := .int) rfl rfl rfl rfl s2_111 (by decide) (fun _ => rfl) rfl (fun _ _ h => h) wc_7 dX8_init_7 (by decide) (by decide) (by decide) ?_
  refine sn_putR (k := 0) (t := 111) cl_8 fl_X8_9 dX8_init_9 s2_110 (by decide) rfl (by decide) (Or.inr ⟨rfl, rfl, rfl⟩) (Or.inr ⟨_, rfl⟩) (by decide) ?_
  refine sn_aload_n dX8_init_12 rfl ?_
  refine sn_bipush dX8_init_13 ⟨by decide, by decide, by decide⟩ ?_
  refine sm_newa (N := 112) (N2 := 113) (kc := 0) (ks := 0) (t := 0) (atype := .int) rfl rfl rfl rfl s2_112 (by decide) (fun _ => rfl) rfl (fun _ _ h => h) wc_7 dX8_init_15 (by decide) (by decide) (by decide) ?_
  refine sn_putR (k := 2) (t := 112) cl_8 fl_X8_15 dX8_init_17 s2_110 (by decide) rfl (by decide) (Or.inr ⟨rfl, rfl, rfl⟩) (Or.inr ⟨_, rfl⟩) (by decide) ?_
  exact sn_ret dX8_init_20 rfl (fun hH hdf => ⟨rfl, hH, hdf⟩)
def U_113 (h : sw_H) : sw_H := sw_up (sw_up (h) 113 0 114) 113 2 115
set_option maxRecDepth 20000 in
set_option maxHeartbeats 4000000 in
theorem k_113 {G : sw_G} (d : Nat) {h : sw_H} : sw_N true G 114 (d + 1) mX8_init 0 [some (sw_r 113)] [] h 2 66 (sw_Fx G 116 (U_113 h)) := by
  refine sn_aload_n dX8_init_0 rfl ?_
  refine sn_obj wc_18 wc_1 wc_2 dX8_init_1 (Nat.le_of_ble_eq_true rfl) ?_
  refine sn_aload_n dX8_init_4 rfl ?_
  refine sn_bipush dX8_init_5 ⟨by decide, by decide, by decide⟩ ?_
  refine sm_newa (N := 114) (N2 := 115) (kc := 1) (ks := 42) (t := 0) (atype := .int) rfl rfl rfl rfl s2_114 (by decide) (fun _ => rfl) rfl (fun _ _ h => h) wc_7 dX8_init_7 (by decide) (by decide) (by decide) ?_
  refine sn_putR (k := 0) (t := 114) cl_8 fl_X8_9 dX8_init_9 s2_113 (by decide) rfl (by decide) (Or.inr ⟨rfl, rfl, rfl⟩) (Or.inr ⟨_, rfl⟩) (by decide) ?_
  refine sn_aload_n dX8_init_12 rfl ?_
  refine sn_bipush dX8_init_13 ⟨by decide, by decide, by decide⟩ ?_
  refine sm_newa (N := 115) (N2 := 116) (kc := 0) (ks := 0) (t := 0) (atype := .int) rfl rfl rfl rfl s2_115 (by decide) (fun _ => rfl) rfl (fun _ _ h => h) wc_7 dX8_init_15 (by decide) (by decide) (by decide) ?_
  refine sn_putR (k := 2) (t := 115) cl_8 fl_X8_15 dX8_init_17 s2_113 (by decide) rfl (by decide) (Or.inr ⟨rfl, rfl, rfl⟩) (Or.inr ⟨_, rfl⟩) (by decide) ?_
  exact sn_ret dX8_init_20 rfl (fun hH hdf => ⟨rfl, hH, hdf⟩)
def U_116 (h : sw_H) : sw_H := sw_up (sw_up (h) 116 0 117) 116 2 118
set_option maxRecDepth 20000 in
set_option maxHeartbeats 4000000 in
theorem k_116 {G : sw_G} (d : Nat) {h : sw_H} : sw_N true G 117 (d + 1) mX8_init 0 [some (sw_r 116)] [] h 2 66 (sw_Fx G 119 (U_116 h)) := by
  refine sn_aload_n dX8_init_0 rfl ?_
  refine sn_obj wc_18 wc_1 wc_2 dX8_init_1 (Nat.le_of_ble_eq_true rfl) ?_
  refine sn_aload_n dX8_init_4 rfl ?_
  refine sn_bipush dX8_init_5 ⟨by decide, by decide, by decide⟩ ?_
  refine sm_newa (N := 117) (N2 := 118) (kc := 1) (ks := 42) (t := 0) (atype := .int) rfl rfl rfl rfl s2_117 (by decide) (fun _ => rfl) rfl (fun _ _ h => h) wc_7 dX8_init_7 (by decide) (by decide) (by decide) ?_
  refine sn_putR (k := 0) (t := 117) cl_8 fl_X8_9 dX8_init_9 s2_116 (by decide) rfl (by decide) (Or.inr ⟨rfl, rfl, rfl⟩) (Or.inr ⟨_, rfl⟩) (by decide) ?_
  refine sn_aload_n dX8_init_12 rfl ?_
  refine sn_bipush dX8_init_13 ⟨by decide, by decide, by decide⟩ ?_
  refine sm_newa (N := 118) (N2 := 119) (kc := 0) (ks := 0) (t := 0) (atype := .int) rfl rfl rfl rfl s2_118 (by decide) (fun _ => rfl) rfl (fun _ _ h => h) wc_7 dX8_init_15 (by decide) (by decide) (by decide) ?_
  refine sn_putR (k := 2) (t := 118) cl_8 fl_X8_15 dX8_init_17 s2_116 (by decide) rfl (by decide) (Or.inr ⟨rfl, rfl, rfl⟩) (Or.inr ⟨_, rfl⟩) (by decide) ?_
  exact sn_ret dX8_init_20 rfl (fun hH hdf => ⟨rfl, hH, hdf⟩)
def U_119 (h : sw_H) : sw_H := sw_up (sw_up (h) 119 0 120) 119 2 121
set_option maxRecDepth 20000 in
set_option maxHeartbeats 4000000 in
theorem k_119 {G : sw_G} (d : Nat) {h : sw_H} : sw_N true G 120 (d + 1) mX8_init 0 [some (sw_r 119)] [] h 2 66 (sw_Fx G 122 (U_119 h)) := by
  refine sn_aload_n dX8_init_0 rfl ?_
  refine sn_obj wc_18 wc_1 wc_2 dX8_init_1 (Nat.le_of_ble_eq_true rfl) ?_
  refine sn_aload_n dX8_init_4 rfl ?_
  refine sn_bipush dX8_init_5 ⟨by decide, by decide, by decide⟩ ?_
  refine sm_newa (N := 120) (N2 := 121) (kc := 1) (ks := 42) (t := 0) (atype := .int) rfl rfl rfl rfl s2_120 (by decide) (fun _ => rfl) rfl (fun _ _ h => h) wc_7 dX8_init_7 (by decide) (by decide) (by decide) ?_
  refine sn_putR (k := 0) (t := 120) cl_8 fl_X8_9 dX8_init_9 s2_119 (by decide) rfl (by decide) (Or.inr ⟨rfl, rfl, rfl⟩) (Or.inr ⟨_, rfl⟩) (by decide) ?_
  refine sn_aload_n dX8_init_12 rfl ?_
  refine sn_bipush dX8_init_13 ⟨by decide, by decide, by decide⟩ ?_
  refine sm_newa (N := 121) (N2 := 122) (kc := 0) (ks := 0) (t := 0) (atype := .int) rfl rfl rfl rfl s2_121 (by decide) (fun _ => rfl) rfl (fun _ _ h => h) wc_7 dX8_init_15 (by decide) (by decide) (by decide) ?_
  refine sn_putR (k := 2) (t := 121) cl_8 fl_X8_15 dX8_init_17 s2_119 (by decide) rfl (by decide) (Or.inr ⟨rfl, rfl, rfl⟩) (Or.inr ⟨_, rfl⟩) (by decide) ?_
  exact sn_ret dX8_init_20 rfl (fun hH hdf => ⟨rfl, hH, hdf⟩)
def U_122 (h : sw_H) : sw_H := sw_up (sw_up (h) 122 0 123) 122 2 124
set_option maxRecDepth 20000 in
set_option maxHeartbeats 4000000 in
theorem k_122 {G : sw_G} (d : Nat) {h : sw_H} : sw_N true G 123 (d + 1) mX8_init 0 [some (sw_r 122)] [] h 2 66 (sw_Fx G 125 (U_122 h)) := by
  refine sn_aload_n dX8_init_0 rfl ?_
  refine sn_obj wc_18 wc_1 wc_2 dX8_init_1 (Nat.le_of_ble_eq_true rfl) ?_
  refine sn_aload_n dX8_init_4 rfl ?_
  refine sn_bipush dX8_init_5 ⟨by decide, by decide, by decide⟩ ?_
  refine sm_newa (N := 123) (N2 := 124) (kc := 1) (ks := 42) (t := 0) (atype := .int) rfl rfl rfl rfl s2_123 (by decide) (fun _ => rfl) rfl (fun _ _ h => h) wc_7 dX8_init_7 (by decide) (by decide) (by decide) ?_
  refine sn_putR (k := 0) (t := 123) cl_8 fl_X8_9 dX8_init_9 s2_122 (by decide) rfl (by decide) (Or.inr ⟨rfl, rfl, rfl⟩) (Or.inr ⟨_, rfl⟩) (by decide) ?_
  refine sn_aload_n dX8_init_12 rfl ?_
  refine sn_bipush dX8_init_13 ⟨by decide, by decide, by decide⟩ ?_
  refine sm_newa (N := 124) (N2 := 125) (kc := 0) (ks := 0) (t := 0) (atype := .int) rfl rfl rfl rfl s2_124 (by decide) (fun _ => rfl) rfl (fun _ _ h => h) wc_7 dX8_init_15 (by decide) (by decide) (by decide) ?_
  refine sn_putR (k := 2) (t := 124) cl_8 fl_X8_15 dX8_init_17 s2_122 (by decide) rfl (by decide) (Or.inr ⟨rfl, rfl, rfl⟩) (Or.inr ⟨_, rfl⟩) (by decide) ?_
  exact sn_ret dX8_init_20 rfl (fun hH hdf => ⟨rfl, hH, hdf⟩)
def U_125 (h : sw_H) : sw_H := sw_up (sw_up (h) 125 0 126) 125 2 127
set_option maxRecDepth 20000 in
set_option maxHeartbeats 4000000 in
theorem k_125 {G : sw_G} (d : Nat) {h : sw_H} : sw_N true G 126 (d + 1) mX8_init 0 [some (sw_r 125)] [] h 2 66 (sw_Fx G 128 (U_125 h)) := by
  refine sn_aload_n dX8_init_0 rfl ?_
  refine sn_obj wc_18 wc_1 wc_2 dX8_init_1 (Nat.le_of_ble_eq_true rfl) ?_
  refine sn_aload_n dX8_init_4 rfl ?_
  refine sn_bipush dX8_init_5 ⟨by decide, by decide, by decide⟩ ?_
  refine sm_newa (N := 126) (N2 := 127) (kc := 1) (ks := 42) (t := 0) (atype := .int) rfl rfl rfl rfl s2_126 (by decide) (fun _ => rfl) rfl (fun _ _ h => h) wc_7 dX8_init_7 (by decide) (by decide) (by decide) ?_
  refine sn_putR (k := 0) (t := 126) cl_8 fl_X8_9 dX8_init_9 s2_125 (by decide) rfl (by decide) (Or.inr ⟨rfl, rfl, rfl⟩) (Or.inr ⟨_, rfl⟩) (by decide) ?_
  refine sn_aload_n dX8_init_12 rfl ?_
  refine sn_bipush dX8_init_13 ⟨by decide, by decide, by decide⟩ ?_
  refine sm_newa (N := 127) (N2 := 128) (kc := 0) (ks := 0) (t := 0) (atype := .int) rfl rfl rfl rfl s2_127 (by decide) (fun _ => rfl) rfl (fun _ _ h => h) wc_7 dX8_init_15 (by decide) (by decide) (by decide) ?_
  refine sn_putR (k := 2) (t := 127) cl_8 fl_X8_15 dX8_init_17 s2_125 (by decide) rfl (by decide) (Or.inr ⟨rfl, rfl, rfl⟩) (Or.inr ⟨_, rfl⟩) (by decide) ?_
  exact sn_ret dX8_init_20 rfl (fun hH hdf => ⟨rfl, hH, hdf⟩)
def U_128 (h : sw_H) : sw_H := sw_up (sw_up (h) 128 0 129) 128 2 130
set_option maxRecDepth 20000 in
set_option maxHeartbeats 4000000 in
theorem k_128 {G : sw_G} (d : Nat) {h : sw_H} : sw_N true G 129 (d + 1) mX8_init 0 [some (sw_r 128)] [] h 2 66 (sw_Fx G 131 (U_128 h)) := by
  refine sn_aload_n dX8_init_0 rfl ?_
  refine sn_obj wc_18 wc_1 wc_2 dX8_init_1 (Nat.le_of_ble_eq_true rfl) ?_
  refine sn_aload_n dX8_init_4 rfl ?_
  refine sn_bipush dX8_init_5 ⟨by decide, by decide, by decide⟩ ?_
  refine sm_newa (N := 129) (N2 := 130) (kc := 1) (ks := 42) (t := 0) (atype := .int) rfl rfl rfl rfl s2_129 (by decide) (fun _ => rfl) rfl (fun _ _ h => h) wc_7 dX8_init_7 (by decide) (by decide) (by decide) ?_
  refine sn_putR (k := 0) (t := 129) cl_8 fl_X8_9 dX8_init_9 s2_128 (by decide) rfl (by decide) (Or.inr ⟨rfl, rfl, rfl⟩) (Or.inr ⟨_, rfl⟩) (by decide) ?_
  refine sn_aload_n dX8_init_12 rfl ?_
  refine sn_bipush dX8_init_13 ⟨by decide, by decide, by decide⟩ ?_
  refine sm_newa (N := 130) (N2 := 131) (kc := 0) (ks := 0) (t := 0) (atype := .int) rfl rfl rfl rfl s2_130 (by decide) (fun _ => rfl) rfl (fun _ _ h => h) wc_7 dX8_init_15 (by decide) (by decide) (by decide) ?_
  refine sn_putR (k := 2) (t := 130) cl_8 fl_X8_15 dX8_init_17 s2_128 (by decide) rfl (by decide) (Or.inr ⟨rfl, rfl, rfl⟩) (Or.inr ⟨_, rfl⟩) (by decide) ?_
  exact sn_ret dX8_init_20 rfl (fun hH hdf => ⟨rfl, hH, hdf⟩)
def U_131 (h : sw_H) : sw_H := sw_up (sw_up (h) 131 0 132) 131 2 133
set_option maxRecDepth 20000 in
set_option maxHeartbeats 4000000 in
theorem k_131 {G : sw_G} (d : Nat) {h : sw_H} : sw_N true G 132 (d + 1) mX8_init 0 [some (sw_r 131)] [] h 2 66 (sw_Fx G 134 (U_131 h)) := by
  refine sn_aload_n dX8_init_0 rfl ?_
  refine sn_obj wc_18 wc_1 wc_2 dX8_init_1 (Nat.le_of_ble_eq_true rfl) ?_
  refine sn_aload_n dX8_init_4 rfl ?_
  refine sn_bipush dX8_init_5 ⟨by decide, by decide, by decide⟩ ?_
  refine sm_newa (N := 132) (N2 := 133) (kc := 1) (ks := 42) (t := 0) (atype := .int) rfl rfl rfl rfl s2_132 (by decide) (fun _ => rfl) rfl (fun _ _ h => h) wc_7 dX8_init_7 (by decide) (by decide) (by decide) ?_
  refine sn_putR (k := 0) (t := 132) cl_8 fl_X8_9 dX8_init_9 s2_131 (by decide) rfl (by decide) (Or.inr ⟨rfl, rfl, rfl⟩) (Or.inr ⟨_, rfl⟩) (by decide) ?_
  refine sn_aload_n dX8_init_12 rfl ?_
  refine sn_bipush dX8_init_13 ⟨by decide, by decide, by decide⟩ ?_
  refine sm_newa (N := 133) (N2 := 134) (kc := 0) (ks := 0) (t := 0) (atype := .int) rfl rfl rfl rfl s2_133 (by decide) (fun _ => rfl) rfl (fun _ _ h => h) wc_7 dX8_init_15 (by decide) (by decide) (by decide) ?_
  refine sn_putR (k := 2) (t := 133) cl_8 fl_X8_15 dX8_init_17 s2_131 (by decide) rfl (by decide) (Or.inr ⟨rfl, rfl, rfl⟩) (Or.inr ⟨_, rfl⟩) (by decide) ?_
  exact sn_ret dX8_init_20 rfl (fun hH hdf => ⟨rfl, hH, hdf⟩)
def U_134 (h : sw_H) : sw_H := sw_up (sw_up (h) 134 0 135) 134 2 136
set_option maxRecDepth 20000 in
set_option maxHeartbeats 4000000 in
theorem k_134 {G : sw_G} (d : Nat) {h : sw_H} : sw_N true G 135 (d + 1) mX8_init 0 [some (sw_r 134)] [] h 2 66 (sw_Fx G 137 (U_134 h)) := by
  refine sn_aload_n dX8_init_0 rfl ?_
  refine sn_obj wc_18 wc_1 wc_2 dX8_init_1 (Nat.le_of_ble_eq_true rfl) ?_
  refine sn_aload_n dX8_init_4 rfl ?_
  refine sn_bipush dX8_init_5 ⟨by decide, by decide, by decide⟩ ?_
  refine sm_newa (N := 135) (N2 := 136) (kc := 1) (ks := 42) (t := 0) (atype := .int) rfl rfl rfl rfl s2_135 (by decide) (fun _ => rfl) rfl (fun _ _ h => h) wc_7 dX8_init_7 (by decide) (by decide) (by decide) ?_
  refine sn_putR (k := 0) (t := 135) cl_8 fl_X8_9 dX8_init_9 s2_134 (by decide) rfl (by decide) (Or.inr ⟨rfl, rfl, rfl⟩) (Or.inr ⟨_, rfl⟩) (by decide) ?_
  refine sn_aload_n dX8_init_12 rfl ?_
  refine sn_bipush dX8_init_13 ⟨by decide, by decide, by decide⟩ ?_
  refine sm_newa (N := 136) (N2 := 137) (kc := 0) (ks := 0) (t := 0) (atype := .int) rfl rfl rfl rfl s2_136 (by decide) (fun _ => rfl) rfl (fun _ _ h => h) wc_7 dX8_init_15 (by decide) (by decide) (by decide) ?_
  refine sn_putR (k := 2) (t := 136) cl_8 fl_X8_15 dX8_init_17 s2_134 (by decide) rfl (by decide) (Or.inr ⟨rfl, rfl, rfl⟩) (Or.inr ⟨_, rfl⟩) (by decide) ?_
  exact sn_ret dX8_init_20 rfl (fun hH hdf => ⟨rfl, hH, hdf⟩)
def U_137 (h : sw_H) : sw_H := sw_up (sw_up (h) 137 0 138) 137 2 139
set_option maxRecDepth 20000 in
set_option maxHeartbeats 4000000 in
theorem k_137 {G : sw_G} (d : Nat) {h : sw_H} : sw_N true G 138 (d + 1) mX8_init 0 [some (sw_r 137)] [] h 2 66 (sw_Fx G 140 (U_137 h)) := by
  refine sn_aload_n dX8_init_0 rfl ?_
  refine sn_obj wc_18 wc_1 wc_2 dX8_init_1 (Nat.le_of_ble_eq_true rfl) ?_
  refine sn_aload_n dX8_init_4 rfl ?_
  refine sn_bipush dX8_init_5 ⟨by decide, by decide, by decide⟩ ?_
  refine sm_newa (N := 138) (N2 := 139) (kc := 1) (ks := 42) (t := 0) (atype := .int) rfl rfl rfl rfl s2_138 (by decide) (fun _ => rfl) rfl (fun _ _ h => h) wc_7 dX8_init_7 (by decide) (by decide) (by decide) ?_
  refine sn_putR (k := 0) (t := 138) cl_8 fl_X8_9 dX8_init_9 s2_137 (by decide) rfl (by decide) (Or.inr ⟨rfl, rfl, rfl⟩) (Or.inr ⟨_, rfl⟩) (by decide) ?_
  refine sn_aload_n dX8_init_12 rfl ?_
  refine sn_bipush dX8_init_13 ⟨by decide, by decide, by decide⟩ ?_
  refine sm_newa (N := 139) (N2 := 140) (kc := 0) (ks := 0) (t := 0) (atype := .int) rfl rfl rfl rfl s2_139 (by decide) (fun _ => rfl) rfl (fun _ _ h => h) wc_7 dX8_init_15 (by decide) (by decide) (by decide) ?_
  refine sn_putR (k := 2) (t := 139) cl_8 fl_X8_15 dX8_init_17 s2_137 (by decide) rfl (by decide) (Or.inr ⟨rfl, rfl, rfl⟩) (Or.inr ⟨_, rfl⟩) (by decide) ?_
  exact sn_ret dX8_init_20 rfl (fun hH hdf => ⟨rfl, hH, hdf⟩)
def U_140 (h : sw_H) : sw_H := sw_up (sw_up (h) 140 0 141) 140 2 142
set_option maxRecDepth 20000 in
set_option maxHeartbeats 4000000 in
theorem k_140 {G : sw_G} (d : Nat) {h : sw_H} : sw_N true G 141 (d + 1) mX8_init 0 [some (sw_r 140)] [] h 2 66 (sw_Fx G 143 (U_140 h)) := by
  refine sn_aload_n dX8_init_0 rfl ?_
  refine sn_obj wc_18 wc_1 wc_2 dX8_init_1 (Nat.le_of_ble_eq_true rfl) ?_
  refine sn_aload_n dX8_init_4 rfl ?_
  refine sn_bipush dX8_init_5 ⟨by decide, by decide, by decide⟩ ?_
  refine sm_newa (N := 141) (N2 := 142) (kc := 1) (ks := 42) (t := 0) (atype := .int) rfl rfl rfl rfl s2_141 (by decide) (fun _ => rfl) rfl (fun _ _ h => h) wc_7 dX8_init_7 (by decide) (by decide) (by decide) ?_
  refine sn_putR (k := 0) (t := 141) cl_8 fl_X8_9 dX8_init_9 s2_140 (by decide) rfl (by decide) (Or.inr ⟨rfl, rfl, rfl⟩) (Or.inr ⟨_, rfl⟩) (by decide) ?_
  refine sn_aload_n dX8_init_12 rfl ?_
  refine sn_bipush dX8_init_13 ⟨by decide, by decide, by decide⟩ ?_
  refine sm_newa (N := 142) (N2 := 143) (kc := 0) (ks := 0) (t := 0) (atype := .int) rfl rfl rfl rfl s2_142 (by decide) (fun _ => rfl) rfl (fun _ _ h => h) wc_7 dX8_init_15 (by decide) (by decide) (by decide) ?_
  refine sn_putR (k := 2) (t := 142) cl_8 fl_X8_15 dX8_init_17 s2_140 (by decide) rfl (by decide) (Or.inr ⟨rfl, rfl, rfl⟩) (Or.inr ⟨_, rfl⟩) (by decide) ?_
  exact sn_ret dX8_init_20 rfl (fun hH hdf => ⟨rfl, hH, hdf⟩)
def U_143 (h : sw_H) : sw_H := sw_up (sw_up (h) 143 0 144) 143 2 145
set_option maxRecDepth 20000 in
set_option maxHeartbeats 4000000 in
theorem k_143 {G : sw_G} (d : Nat) {h : sw_H} : sw_N true G 144 (d + 1) mX8_init 0 [some (sw_r 143)] [] h 2 66 (sw_Fx G 146 (U_143 h)) := by
  refine sn_aload_n dX8_init_0 rfl ?_
  refine sn_obj wc_18 wc_1 wc_2 dX8_init_1 (Nat.le_of_ble_eq_true rfl) ?_
  refine sn_aload_n dX8_init_4 rfl ?_
  refine sn_bipush dX8_init_5 ⟨by decide, by decide, by decide⟩ ?_
  refine sm_newa (N := 144) (N2 := 145) (kc := 1) (ks := 42) (t := 0) (atype := .int) rfl rfl rfl rfl s2_144 (by decide) (fun _ => rfl) rfl (fun _ _ h => h) wc_7 dX8_init_7 (by decide) (by decide) (by decide) ?_
  refine sn_putR (k := 0) (t := 144) cl_8 fl_X8_9 dX8_init_9 s2_143 (by decide) rfl (by decide) (Or.inr ⟨rfl, rfl, rfl⟩) (Or.inr ⟨_, rfl⟩) (by decide) ?_
  refine sn_aload_n dX8_init_12 rfl ?_
  refine sn_bipush dX8_init_13 ⟨by decide, by decide, by decide⟩ ?_
  refine sm_newa (N := 145) (N2 := 146) (kc := 0) (ks := 0) (t := 0) (atype := .int) rfl rfl rfl rfl s2_145 (by decide) (fun _ => rfl) rfl (fun _ _ h => h) wc_7 dX8_init_15 (by decide) (by decide) (by decide) ?_
  refine sn_putR (k := 2) (t := 145) cl_8 fl_X8_15 dX8_init_17 s2_143 (by decide) rfl (by decide) (Or.inr ⟨rfl, rfl, rfl⟩) (Or.inr ⟨_, rfl⟩) (by decide) ?_
  exact sn_ret dX8_init_20 rfl (fun hH hdf => ⟨rfl, hH, hdf⟩)
def U_146 (h : sw_H) : sw_H := sw_up (sw_up (h) 146 0 147) 146 2 148
set_option maxRecDepth 20000 in
set_option maxHeartbeats 4000000 in
theorem k_146 {G : sw_G} (d : Nat) {h : sw_H} : sw_N true G 147 (d + 1) mX8_init 0 [some (sw_r 146)] [] h 2 66 (sw_Fx G 149 (U_146 h)) := by
  refine sn_aload_n dX8_init_0 rfl ?_
  refine sn_obj wc_18 wc_1 wc_2 dX8_init_1 (Nat.le_of_ble_eq_true rfl) ?_
  refine sn_aload_n dX8_init_4 rfl ?_
  refine sn_bipush dX8_init_5 ⟨by decide, by decide, by decide⟩ ?_
  refine sm_newa (N := 147) (N2 := 148) (kc := 1) (ks := 42) (t := 0) (atype := .int) rfl rfl rfl rfl s2_147 (by decide) (fun _ => rfl) rfl (fun _ _ h => h) wc_7 dX8_init_7 (by decide) (by decide) (by decide) ?_
  refine sn_putR (k := 0) (t := 147) cl_8 fl_X8_9 dX8_init_9 s2_146 (by decide) rfl (by decide) (Or.inr ⟨rfl, rfl, rfl⟩) (Or.inr ⟨_, rfl⟩) (by decide) ?_
  refine sn_aload_n dX8_init_12 rfl ?_
  refine sn_bipush dX8_init_13 ⟨by decide, by decide, by decide⟩ ?_
  refine sm_newa (N := 148) (N2 := 149) (kc := 0) (ks := 0) (t := 0) (atype := .int) rfl rfl rfl rfl s2_148 (by decide) (fun _ => rfl) rfl (fun _ _ h => h) wc_7 dX8_init_15 (by decide) (by decide) (by decide) ?_
  refine sn_putR (k := 2) (t := 148) cl_8 fl_X8_15 dX8_init_17 s2_146 (by decide) rfl (by decide) (Or.inr ⟨rfl, rfl, rfl⟩) (Or.inr ⟨_, rfl⟩) (by decide) ?_
  exact sn_ret dX8_init_20 rfl (fun hH hdf => ⟨rfl, hH, hdf⟩)
def U_149 (h : sw_H) : sw_H := sw_up (sw_up (h) 149 0 150) 149 2 151
set_option maxRecDepth 20000 in
set_option maxHeartbeats 4000000 in
theorem k_149 {G : sw_G} (d : Nat) {h : sw_H} : sw_N true G 150 (d + 1) mX8_init 0 [some (sw_r 149)] [] h 2 66 (sw_Fx G 152 (U_149 h)) := by
  refine sn_aload_n dX8_init_0 rfl ?_
  refine sn_obj wc_18 wc_1 wc_2 dX8_init_1 (Nat.le_of_ble_eq_true rfl) ?_
  refine sn_aload_n dX8_init_4 rfl ?_
  refine sn_bipush dX8_init_5 ⟨by decide, by decide, by decide⟩ ?_
  refine sm_newa (N := 150) (N2 := 151) (kc := 1) (ks := 42) (t := 0) (atype := .int) rfl rfl rfl rfl s2_150 (by decide) (fun _ => rfl) rfl (fun _ _ h => h) wc_7 dX8_init_7 (by decide) (by decide) (by decide) ?_
  refine sn_putR (k := 0) (t := 150) cl_8 fl_X8_9 dX8_init_9 s2_149 (by decide) rfl (by decide) (Or.inr ⟨rfl, rfl, rfl⟩) (Or.inr ⟨_, rfl⟩) (by decide) ?_
  refine sn_aload_n dX8_init_12 rfl ?_
  refine sn_bipush dX8_init_13 ⟨by decide, by decide, by decide⟩ ?_
  refine sm_newa (N := 151) (N2 := 152) (kc := 0) (ks := 0) (t := 0) (atype := .int) rfl rfl rfl rfl s2_151 (by decide) (fun _ => rfl) rfl (fun _ _ h => h) wc_7 dX8_init_15 (by decide) (by decide) (by decide) ?_
  refine sn_putR (k := 2) (t := 151) cl_8 fl_X8_15 dX8_init_17 s2_149 (by decide) rfl (by decide) (Or.inr ⟨rfl, rfl, rfl⟩) (Or.inr ⟨_, rfl⟩) (by decide) ?_
  exact sn_ret dX8_init_20 rfl (fun hH hdf => ⟨rfl, hH, hdf⟩)
def U_152 (h : sw_H) : sw_H := sw_up (sw_up (h) 152 0 153) 152 2 154
set_option maxRecDepth 20000 in
set_option maxHeartbeats 4000000 in
theorem k_152 {G : sw_G} (d : Nat) {h : sw_H} : sw_N true G 153 (d + 1) mX8_init 0 [some (sw_r 152)] [] h 2 66 (sw_Fx G 155 (U_152 h)) := by
  refine sn_aload_n dX8_init_0 rfl ?_
  refine sn_obj wc_18 wc_1 wc_2 dX8_init_1 (Nat.le_of_ble_eq_true rfl) ?_
  refine sn_aload_n dX8_init_4 rfl ?_
  refine sn_bipush dX8_init_5 ⟨by decide, by decide, by decide⟩ ?_
  refine sm_newa (N := 153) (N2 := 154) (kc := 1) (ks := 42) (t := 0) (atype := .int) rfl rfl rfl rfl s2_153 (by decide) (fun _ => rfl) rfl (fun _ _ h => h) wc_7 dX8_init_7 (by decide) (by decide) (by decide) ?_
  refine sn_putR (k := 0) (t := 153) cl_8 fl_X8_9 dX8_init_9 s2_152 (by decide) rfl (by decide) (Or.inr ⟨rfl, rfl, rfl⟩) (Or.inr ⟨_, rfl⟩) (by decide) ?_
  refine sn_aload_n dX8_init_12 rfl ?_
  refine sn_bipush dX8_init_13 ⟨by decide, by decide, by decide⟩ ?_
  refine sm_newa (N := 154) (N2 := 155) (kc := 0) (ks := 0) (t := 0) (atype := .int) rfl rfl rfl rfl s2_154 (by decide) (fun _ => rfl) rfl (fun _ _ h => h) wc_7 dX8_init_15 (by decide) (by decide) (by decide) ?_
  refine sn_putR (k := 2) (t := 154) cl_8 fl_X8_15 dX8_init_17 s2_152 (by decide) rfl (by decide) (Or.inr ⟨rfl, rfl, rfl⟩) (Or.inr ⟨_, rfl⟩) (by decide) ?_
  exact sn_ret dX8_init_20 rfl (fun hH hdf => ⟨rfl, hH, hdf⟩)
def U_155 (h : sw_H) : sw_H := sw_up (sw_up (h) 155 0 156) 155 2 157
set_option maxRecDepth 20000 in
set_option maxHeartbeats 4000000 in
theorem k_155 {G : sw_G} (d : Nat) {h : sw_H} : sw_N true G 156 (d + 1) mX8_init 0 [some (sw_r 155)] [] h 2 66 (sw_Fx G 158 (U_155 h)) := by
  refine sn_aload_n dX8_init_0 rfl ?_
  refine sn_obj wc_18 wc_1 wc_2 dX8_init_1 (Nat.le_of_ble_eq_true rfl) ?_
  refine sn_aload_n dX8_init_4 rfl ?_
  refine sn_bipush dX8_init_5 ⟨by decide, by decide, by decide⟩ ?_
  refine sm_newa (N := 156) (N2 := 157) (kc := 1) (ks := 42) (t := 0) (atype := .int) rfl rfl rfl rfl s2_156 (by decide) (fun _ => rfl) rfl (fun _ _ h => h) wc_7 dX8_init_7 (by decide) (by decide) (by decide) ?_
  refine sn_putR (k := 0) (t := 156) cl_8 fl_X8_9 dX8_init_9 s2_155 (by decide) rfl (by decide) (Or.inr ⟨rfl, rfl, rfl⟩) (Or.inr ⟨_, rfl⟩) (by decide) ?_
  refine sn_aload_n dX8_init_12 rfl ?_
  refine sn_bipush dX8_init_13 ⟨by decide, by decide, by decide⟩ ?_
  refine sm_newa (N := 157) (N2 := 158) (kc := 0) (ks := 0) (t := 0) (atype := .int) rfl rfl rfl rfl s2_157 (by decide) (fun _ => rfl) rfl (fun _ _ h => h) wc_7 dX8_init_15 (by decide) (by decide) (by decide) ?_
  refine sn_putR (k := 2) (t := 157) cl_8 fl_X8_15 dX8_init_17 s2_155 (by decide) rfl (by decide) (Or.inr ⟨rfl, rfl, rfl⟩) (Or.inr ⟨_, rfl⟩) (by decide) ?_
  exact sn_ret dX8_init_20 rfl (fun hH hdf => ⟨rfl, hH, hdf⟩)
def U_158 (h : sw_H) : sw_H := sw_up (sw_up (h) 158 0 159) 158 2 160
set_option maxRecDepth 20000 in
set_option maxHeartbeats 4000000 in
theorem k_158 {G : sw_G} (d : Nat) {h : sw_H} : sw_N true G 159 (d + 1) mX8_init 0 [some (sw_r 158)] [] h 2 66 (sw_Fx G 161 (U_158 h)) := by
  refine sn_aload_n dX8_init_0 rfl ?_
  refine sn_obj wc_18 wc_1 wc_2 dX8_init_1 (Nat.le_of_ble_eq_true rfl) ?_
  refine sn_aload_n dX8_init_4 rfl ?_
  refine sn_bipush dX8_init_5 ⟨by decide, by decide, by decide⟩ ?_
  refine sm_newa (N := 159) (N2 := 160) (kc := 1) (ks := 42) (t := 0) (atype := .int) rfl rfl rfl rfl s2_159 (by decide) (fun _ => rfl) rfl (fun _ _ h => h) wc_7 dX8_init_7 (by decide) (by decide) (by decide) ?_
  refine sn_putR (k := 0) (t := 159) cl_8 fl_X8_9 dX8_init_9 s2_158 (by decide) rfl (by decide) (Or.inr ⟨rfl, rfl, rfl⟩) (Or.inr ⟨_, rfl⟩) (by decide) ?_
  refine sn_aload_n dX8_init_12 rfl ?_
  refine sn_bipush dX8_init_13 ⟨by decide, by decide, by decide⟩ ?_
  refine sm_newa (N := 160) (N2 := 161) (kc := 0) (ks := 0) (t := 0) (atype := .int) rfl rfl rfl rfl s2_160 (by decide) (fun _ => rfl) rfl (fun _ _ h => h) wc_7 dX8_init_15 (by decide) (by decide) (by decide) ?_
  refine sn_putR (k := 2) (t := 160) cl_8 fl_X8_15 dX8_init_17 s2_158 (by decide) rfl (by decide) (Or.inr ⟨rfl, rfl, rfl⟩) (Or.inr ⟨_, rfl⟩) (by decide) ?_
  exact sn_ret dX8_init_20 rfl (fun hH hdf => ⟨rfl, hH, hdf⟩)
def U_161 (h : sw_H) : sw_H := sw_up (sw_up (h) 161 0 162) 161 2 163
set_option maxRecDepth 20000 in
set_option maxHeartbeats 4000000 in
theorem k_161 {G : sw_G} (d : Nat) {h : sw_H} : sw_N true G 162 (d + 1) mX8_init 0 [some (sw_r 161)] [] h 2 66 (sw_Fx G 164 (U_161 h)) := by
  refine sn_aload_n dX8_init_0 rfl ?_
  refine sn_obj wc_18 wc_1 wc_2 dX8_init_1 (Nat.le_of_ble_eq_true rfl) ?_
  refine sn_aload_n dX8_init_4 rfl ?_
  refine sn_bipush dX8_init_5 ⟨by decide, by decide, by decide⟩ ?_
  refine sm_newa (N := 162) (N2 := 163) (kc := 1) (ks := 42) (t := 0) (atype := .int) rfl rfl rfl rfl s2_162 (by decide) (fun _ => rfl) rfl (fun _ _ h => h) wc_7 dX8_init_7 (by decide) (by decide) (by decide) ?_
  refine sn_putR (k := 0) (t := 162) cl_8 fl_X8_9 dX8_init_9 s2_161 (by decide) rfl (by decide) (Or.inr ⟨rfl, rfl, rfl⟩) (Or.inr ⟨_, rfl⟩) (by decide) ?_
  refine sn_aload_n dX8_init_12 rfl ?_
  refine sn_bipush dX8_init_13 ⟨by decide, by decide, by decide⟩ ?_
  refine sm_newa (N := 163) (N2 := 164) (kc := 0) (ks := 0) (t := 0) (atype := .int) rfl rfl rfl rfl s2_163 (by decide) (fun _ => rfl) rfl (fun _ _ h => h) wc_7 dX8_init_15 (by decide) (by decide) (by decide) ?_
  refine sn_putR (k := 2) (t := 163) cl_8 fl_X8_15 dX8_init_17 s2_161 (by decide) rfl (by decide) (Or.inr ⟨rfl, rfl, rfl⟩) (Or.inr ⟨_, rfl⟩) (by decide) ?_
  exact sn_ret dX8_init_20 rfl (fun hH hdf => ⟨rfl, hH, hdf⟩)
def U_164 (h : sw_H) : sw_H := sw_up (sw_up (h) 164 0 165) 164 2 166
set_option maxRecDepth 20000 in
set_option maxHeartbeats 4000000 in
theorem k_164 {G : sw_G} (d : Nat) {h : sw_H} : sw_N true G 165 (d + 1) mX8_init 0 [some (sw_r 164)] [] h 2 66 (sw_Fx G 167 (U_164 h)) := by
  refine sn_aload_n dX8_init_0 rfl ?_
  refine sn_obj wc_18 wc_1 wc_2 dX8_init_1 (Nat.le_of_ble_eq_true rfl) ?_
  refine sn_aload_n dX8_init_4 rfl ?_
  refine sn_bipush dX8_init_5 ⟨by decide, by decide, by decide⟩ ?_
  refine sm_newa (N := 165) (N2 := 166) (kc := 1) (ks := 42) (t := 0) (atype := .int) rfl rfl rfl rfl s2_165 (by decide) (fun _ => rfl) rfl (fun _ _ h => h) wc_7 dX8_init_7 (by decide) (by decide) (by decide) ?_
  refine sn_putR (k := 0) (t := 165) cl_8 fl_X8_9 dX8_init_9 s2_164 (by decide) rfl (by decide) (Or.inr ⟨rfl, rfl, rfl⟩) (Or.inr ⟨_, rfl⟩) (by decide) ?_
  refine sn_aload_n dX8_init_12 rfl ?_
  refine sn_bipush dX8_init_13 ⟨by decide, by decide, by decide⟩ ?_
  refine sm_newa (N := 166) (N2 := 167) (kc := 0) (ks := 0) (t := 0) (atype := .int) rfl rfl rfl rfl s2_166 (by decide) (fun _ => rfl) rfl (fun _ _ h => h) wc_7 dX8_init_15 (by decide) (by decide) (by decide) ?_
  refine sn_putR (k := 2) (t := 166) cl_8 fl_X8_15 dX8_init_17 s2_164 (by decide) rfl (by decide) (Or.inr ⟨rfl, rfl, rfl⟩) (Or.inr ⟨_, rfl⟩) (by decide) ?_
  exact sn_ret dX8_init_20 rfl (fun hH hdf => ⟨rfl, hH, hdf⟩)
def U_167 (h : sw_H) : sw_H := sw_up (sw_up (h) 167 0 168) 167 2 169
set_option maxRecDepth 20000 in
set_option maxHeartbeats 4000000 in
theorem k_167 {G : sw_G} (d : Nat) {h : sw_H} : sw_N true G 168 (d + 1) mX8_init 0 [some (sw_r 167)] [] h 2 66 (sw_Fx G 170 (U_167 h)) := by
  refine sn_aload_n dX8_init_0 rfl ?_
  refine sn_obj wc_18 wc_1 wc_2 dX8_init_1 (Nat.le_of_ble_eq_true rfl) ?_
  refine sn_aload_n dX8_init_4 rfl ?_
  refine sn_bipush dX8_init_5 ⟨by decide, by decide, by decide⟩ ?_
  refine sm_newa (N := 168) (N2 := 169) (kc := 1) (ks := 42) (t := 0) (atype := .int) rfl rfl rfl rfl s2_168 (by decide) (fun _ => rfl) rfl (fun _ _ h => h) wc_7 dX8_init_7 (by decide) (by decide) (by decide) ?_
  refine sn_putR (k := 0) (t := 168) cl_8 fl_X8_9 dX8_init_9 s2_167 (by decide) rfl (by decide) (Or.inr ⟨rfl, rfl, rfl⟩) (Or.inr ⟨_, rfl⟩) (by decide) ?_
  refine sn_aload_n dX8_init_12 rfl ?_
  refine sn_bipush dX8_init_13 ⟨by decide, by decide, by decide⟩ ?_
  refine sm_newa (N := 169) (N2 := 170) (kc := 0) (ks := 0) (t := 0) (atype := .int) rfl rfl rfl rfl s2_169 (by decide) (fun _ => rfl) rfl (fun _ _ h => h) wc_7 dX8_init_15 (by decide) (by decide) (by decide) ?_
  refine sn_putR (k := 2) (t := 169) cl_8 fl_X8_15 dX8_init_17 s2_167 (by decide) rfl (by decide) (Or.inr ⟨rfl, rfl, rfl⟩) (Or.inr ⟨_, rfl⟩) (by decide) ?_
  exact sn_ret dX8_init_20 rfl (fun hH hdf => ⟨rfl, hH, hdf⟩)
def U_170 (h : sw_H) : sw_H := sw_up (sw_up (h) 170 0 171) 170 2 172
set_option maxRecDepth 20000 in
set_option maxHeartbeats 4000000 in
theorem k_170 {G : sw_G} (d : Nat) {h : sw_H} : sw_N true G 171 (d + 1) mX8_init 0 [some (sw_r 170)] [] h 2 66 (sw_Fx G 173 (U_170 h)) := by
  refine sn_aload_n dX8_init_0 rfl ?_
  refine sn_obj wc_18 wc_1 wc_2 dX8_init_1 (Nat.le_of_ble_eq_true rfl) ?_
  refine sn_aload_n dX8_init_4 rfl ?_
  refine sn_bipush dX8_init_5 ⟨by decide, by decide, by decide⟩ ?_
  refine sm_newa (N := 171) (N2 := 172) (kc := 1) (ks := 42) (t := 0) (atype := .int) rfl rfl rfl rfl s2_171 (by decide) (fun _ => rfl) rfl (fun _ _ h => h) wc_7 dX8_init_7 (by decide) (by decide) (by decide) ?_
  refine sn_putR (k := 0) (t := 171) cl_8 fl_X8_9 dX8_init_9 s2_170 (by decide) rfl (by decide) (Or.inr ⟨rfl, rfl, rfl⟩) (Or.inr ⟨_, rfl⟩) (by decide) ?_
  refine sn_aload_n dX8_init_12 rfl ?_
  refine sn_bipush dX8_init_13 ⟨by decide, by decide, by decide⟩ ?_
  refine sm_newa (N := 172) (N2 := 173) (kc := 0) (ks := 0) (t := 0) (atype := .int) rfl rfl rfl rfl s2_172 (by decide) (fun _ => rfl) rfl (fun _ _ h => h) wc_7 dX8_init_15 (by decide) (by decide) (by decide) ?_
  refine sn_putR (k := 2) (t := 172) cl_8 fl_X8_15 dX8_init_17 s2_170 (by decide) rfl (by decide) (Or.inr ⟨rfl, rfl, rfl⟩) (Or.inr ⟨_, rfl⟩) (by decide) ?_
  exact sn_ret dX8_init_20 rfl (fun hH hdf => ⟨rfl, hH, hdf⟩)
def U_48 (h : sw_H) : sw_H := sw_up (U_170 (sw_up (U_167 (sw_up (U_164 (sw_up (U_161 (sw_up (U_158 (sw_up (U_155 (sw_up (U_152 (sw_up (U_149 (sw_up (U_146 (sw_up (U_143 (sw_up (U_140 (sw_up (U_137 (sw_up (U_134 (sw_up (U_131 (sw_up (U_128 (sw_up (U_125 (sw_up (U_122 (sw_up (U_119 (sw_up (U_116 (sw_up (U_113 (sw_up (U_110 (sw_up (U_107 (sw_up (U_104 (sw_up (U_101 (sw_up (U_98 (sw_up (U_95 (sw_up (U_92 (sw_up (U_89 (sw_up (U_86 (sw_up (U_83 (sw_up (U_80 (sw_up (U_77 (sw_up (U_74 (sw_up (U_71 (sw_up (U_68 (sw_up (U_65 (sw_up (U_62 (sw_up (U_59 (sw_up (U_56 (sw_up (U_53 (sw_up (U_50 (sw_up (h) 48 0 49)) 49 0 50)) 49 1 53)) 49 2 56)) 49 3 59)) 49 4 62)) 49 5 65)) 49 6 68)) 49 7 71)) 49 8 74)) 49 9 77)) 49 10 80)) 49 11 83)) 49 12 86)) 49 13 89)) 49 14 92)) 49 15 95)) 49 16 98)) 49 17 101)) 49 18 104)) 49 19 107)) 49 20 110)) 49 21 113)) 49 22 116)) 49 23 119)) 49 24 122)) 49 25 125)) 49 26 128)) 49 27 131)) 49 28 134)) 49 29 137)) 49 30 140)) 49 31 143)) 49 32 146)) 49 33 149)) 49 34 152)) 49 35 155)) 49 36 158)) 49 37 161)) 49 38 164)) 49 39 167)) 49 40 170
set_option maxRecDepth 20000 in
set_option maxHeartbeats 4000000 in
theorem k_48 {G : sw_G} (d : Nat) {h : sw_H} : sw_N true G 49 (d + 2) mX9_init 0 [some (sw_r 48), none] [] h 124 2993 (sw_Fx G 173 (U_48 h)) := by
  refine sn_aload_n dX9_init_0 rfl ?_
  refine sn_obj wc_58 wc_1 wc_2 dX9_init_1 (Nat.le_of_ble_eq_true rfl) ?_
  refine sn_aload_n dX9_init_4 rfl ?_
  refine sn_bipush dX9_init_5 ⟨by decide, by decide, by decide⟩ ?_
  refine sm_anew (N := 49) (N2 := 50) (kc := 123) (ks := 2952) rfl rfl rfl rfl s2_49 wc_59 wc_60 dX9_init_7 (by decide) (by decide) ?_
  refine sn_putR (k := 0) (t := 49) cl_9 fl_X9_11 dX9_init_10 s2_48 (by decide) rfl (by decide) (Or.inr ⟨rfl, rfl, rfl⟩) (Or.inr ⟨_, rfl⟩) (by decide) ?_
  refine sn_iconst dX9_init_13 ⟨by decide, by decide⟩ ?_
  refine sn_istore_n dX9_init_14 (by decide) ?_
  refine sn_iload_n dX9_init_15 rfl ?_
  refine sn_bipush dX9_init_16 ⟨by decide, by decide, by decide⟩ ?_
  refine sn_icmp_gt (tgt := 40) dX9_init_18 (by decide) (fun q => absurd q (by decide)) (fun _ => ?_)
  refine sn_aload_n dX9_init_21 rfl ?_
  refine sn_getR (k := 0) (t := 49) cl_9 fl_X9_11 dX9_init_22 s2_48 (by decide) rfl (by decide) (rfl) ?_
  refine sn_iload_n dX9_init_25 rfl ?_
  refine sm_new (N := 50) (N2 := 51) (kc := 122) (ks := 2946) rfl rfl rfl cl_8 wc_59 wc_16 wc_17 dX9_init_26 s2_50 (dv_50) (by decide) ?_
  refine sn_dupr dX9_init_29 ?_
  refine sm_callI (N := 51) (N2 := 53) (kc2 := 2) (ks2 := 66) (kc := 120) (ks := 2880) rfl rfl rfl li_7 dX9_init_30 (Nat.le_of_ble_eq_true rfl) (by decide) (by decide) (k_50 d) ?_
  refine sn_aast (a := 49) (b := 50) cl_8 rfl dX9_init_33 s2_49 (by decide) s2_50 (by decide) (by decide) ⟨by decide, by decide⟩ (by decide) ?_
  refine sn_iinc dX9_init_34 (by decide) rfl ?_
  rw [sw_w_id (by decide) (by decide)]
  refine sn_goto (tgt := 15) dX9_init_37 (by decide) ?_
  refine sn_iload_n dX9_init_15 rfl ?_
  refine sn_bipush dX9_init_16 ⟨by decide, by decide, by decide⟩ ?_
  refine sn_icmp_gt (tgt := 40) dX9_init_18 (by decide) (fun q => absurd q (by decide)) (fun _ => ?_)
  refine sn_aload_n dX9_init_21 rfl ?_
  refine sn_getR (k := 0) (t := 49) cl_9 fl_X9_11 dX9_init_22 s2_48 (by decide) rfl (by decide) (rfl) ?_
  refine sn_iload_n dX9_init_25 rfl ?_
  refine sm_new (N := 53) (N2 := 54) (kc := 119) (ks := 2874) rfl rfl rfl cl_8 wc_59 wc_16 wc_17 dX9_init_26 s2_53 (dv_53) (by decide) ?_
  refine sn_dupr dX9_init_29 ?_
  refine sm_callI (N := 54) (N2 := 56) (kc2 := 2) (ks2 := 66) (kc := 117) (ks := 2808) rfl rfl rfl li_7 dX9_init_30 (Nat.le_of_ble_eq_true rfl) (by decide) (by decide) (k_53 d) ?_
  refine sn_aast (a := 49) (b := 53) cl_8 rfl dX9_init_33 s2_49 (by decide) s2_53 (by decide) (by decide) ⟨by decide, by decide⟩ (by decide) ?_
  refine sn_iinc dX9_init_34 (by decide) rfl ?_
  rw [sw_w_id (by decide) (by decide)]
  refine sn_goto (tgt := 15) dX9_init_37 (by decide) ?_
  refine sn_iload_n dX9_init_15 rfl ?_
  refine sn_bipush dX9_init_16 ⟨by decide, by decide, by decide⟩ ?_
  refine sn_icmp_gt (tgt := 40) dX9_init_18 (by decide) (fun q => absurd q (by decide)) (fun _ => ?_)
  refine sn_aload_n dX9_init_21 rfl ?_
  refine sn_getR (k := 0) (t := 49) cl_9 fl_X9_11 dX9_init_22 s2_48 (by decide) rfl (by decide) (rfl) ?_
  refine sn_iload_n dX9_init_25 rfl ?_
  refine sm_new (N := 56) (N2 := 57) (kc := 116) (ks := 2802) rfl rfl rfl cl_8 wc_59 wc_16 wc_17 dX9_init_26 s2_56 (dv_56) (by decide) ?_
  refine sn_dupr dX9_init_29 ?_
  refine sm_callI (N := 57) (N2 := 59) (kc2 := 2) (ks2 := 66) (kc := 114) (ks := 2736) rfl rfl rfl li_7 dX9_init_30 (Nat.le_of_ble_eq_true rfl) (by decide) (by decide) (k_56 d) ?_
  refine sn_aast (a := 49) (b := 56) cl_8 rfl dX9_init_33 s2_49 (by decide) s2_56 (by decide) (by decide) ⟨by decide, by decide⟩ (by decide) ?_
  refine sn_iinc dX9_init_34 (by decide) rfl ?_
  rw [sw_w_id (by decide) (by decide)]
  refine sn_goto (tgt := 15) dX9_init_37 (by decide) ?_
  refine sn_iload_n dX9_init_15 rfl ?_
  refine sn_bipush dX9_init_16 ⟨by decide, by decide, by decide⟩ ?_
  refine sn_icmp_gt (tgt := 40) dX9_init_18 (by decide) (fun q => absurd q (by decide)) (fun _ => ?_)
  refine sn_aload_n dX9_init_21 rfl ?_
  refine sn_getR (k := 0) (t := 49) cl_9 fl_X9_11 dX9_init_22 s2_48 (by decide) rfl (by decide) (rfl) ?_
  refine sn_iload_n dX9_init_25 rfl ?_
  refine sm_new (N := 59) (N2 := 60) (kc := 113) (ks := 2730) rfl rfl rfl cl_8 wc_59 wc_16 wc_17 dX9_init_26 s2_59 (dv_59) (by decide) ?_
  refine sn_dupr dX9_init_29 ?_
  refine sm_callI (N := 60) (N2 := 62) (kc2 := 2) (ks2 := 66) (kc := 111) (ks := 2664) rfl rfl rfl li_7 dX9_init_30 (Nat.le_of_ble_eq_true rfl) (by decide) (by decide) (k_59 d) ?_
  refine sn_aast (a := 49) (b := 59) cl_8 rfl dX9_init_33 s2_49 (by decide) s2_59 (by decide) (by decide) ⟨by decide, by decide⟩ (by decide) ?_
  refine sn_iinc dX9_init_34 (by decide) rfl ?_
  rw [sw_w_id (by decide) (by decide)]
  refine sn_goto (tgt := 15) dX9_init_37 (by decide) ?_
  refine sn_iload_n dX9_init_15 rfl ?_
  refine sn_bipush dX9_init_16 ⟨by decide, by decide, by decide⟩ ?_
  refine sn_icmp_gt (tgt := 40) dX9_init_18 (by decide) (fun q => absurd q (by decide)) (fun _ => ?_)
  refine sn_aload_n dX9_init_21 rfl ?_
  refine sn_getR (k := 0) (t := 49) cl_9 fl_X9_11 dX9_init_22 s2_48 (by decide) rfl (by decide) (rfl) ?_
  refine sn_iload_n dX9_init_25 rfl ?_
  refine sm_new (N := 62) (N2 := 63) (kc := 110) (ks := 2658) rfl rfl rfl cl_8 wc_59 wc_16 wc_17 dX9_init_26 s2_62 (dv_62) (by decide) ?_
  refine sn_dupr dX9_init_29 ?_
  refine sm_callI (N := 63) (N2 := 65) (kc2 := 2) (ks2 := 66) (kc := 108) (ks := 2592) rfl rfl rfl li_7 dX9_init_30 (Nat.le_of_ble_eq_true rfl) (by decide) (by decide) (k_62 d) ?_
  refine sn_aast (a := 49) (b := 62) cl_8 rfl dX9_init_33 s2_49 (by decide) s2_62 (by decide) (by decide) ⟨by decide, by decide⟩ (by decide) ?_
  refine sn_iinc dX9_init_34 (by decide) rfl ?_
  rw [sw_w_id (by decide) (by decide)]
  refine sn_goto (tgt := 15) dX9_init_37 (by decide) ?_
  refine sn_iload_n dX9_init_15 rfl ?_
  refine sn_bipush dX9_init_16 ⟨by decide, by decide, by decide⟩ ?_
  refine sn_icmp_gt (tgt := 40) dX9_init_18 (by decide) (fun q => absurd q (by decide)) (fun _ => ?_)
  refine sn_aload_n dX9_init_21 rfl ?_
  refine sn_getR (k := 0) (t := 49) cl_9 fl_X9_11 dX9_init_22 s2_48 (by decide) rfl (by decide) (rfl) ?_
  refine sn_iload_n dX9_init_25 rfl ?_
  refine sm_new (N := 65) (N2 := 66) (kc := 107) (ks := 2586) rfl rfl rfl cl_8 wc_59 wc_16 wc_17 dX9_init_26 s2_65 (dv_65) (by decide) ?_
  refine sn_dupr dX9_init_29 ?_
  refine sm_callI (N := 66) (N2 := 68) (kc2 := 2) (ks2 := 66) (kc := 105) (ks := 2520) rfl rfl rfl li_7 dX9_init_30 (Nat.le_of_ble_eq_true rfl) (by decide) (by decide) (k_65 d) ?_
  refine sn_aast (a := 49) (b := 65) cl_8 rfl dX9_init_33 s2_49 (by decide) s2_65 (by decide) (by decide) ⟨by decide, by decide⟩ (by decide) ?_
  refine sn_iinc dX9_init_34 (by decide) rfl ?_
  rw [sw_w_id (by decide) (by decide)]
  refine sn_goto (tgt := 15) dX9_init_37 (by decide) ?_
  refine sn_iload_n dX9_init_15 rfl ?_
  refine sn_bipush dX9_init_16 ⟨by decide, by decide, by decide⟩ ?_
  refine sn_icmp_gt (tgt := 40) dX9_init_18 (by decide) (fun q => absurd q (by decide)) (fun _ => ?_)
  refine sn_aload_n dX9_init_21 rfl ?_
  refine sn_getR (k := 0) (t := 49) cl_9 fl_X9_11 dX9_init_22 s2_48 (by decide) rfl (by decide) (rfl) ?_
  refine sn_iload_n dX9_init_25 rfl ?_
  refine sm_new (N := 68) (N2 := 69) (kc := 104) (ks := 2514) rfl rfl rfl cl_8 wc_59 wc_16 wc_17 dX9_init_26 s2_68 (dv_68) (by decide) ?_
  refine sn_dupr dX9_init_29 ?_
  refine sm_callI (N := 69) (N2 := 71) (kc2 := 2) (ks2 := 66) (kc := 102) (ks := 2448) rfl rfl rfl li_7 dX9_init_30 (Nat.le_of_ble_eq_true rfl) (by decide) (by decide) (k_68 d) ?_
  refine sn_aast (a := 49) (b := 68) cl_8 rfl dX9_init_33 s2_49 (by decide) s2_68 (by decide) (by decide) ⟨by decide, by decide⟩ (by decide) ?_
  refine sn_iinc dX9_init_34 (by decide) rfl ?_
  rw [sw_w_id (by decide) (by decide)]
  refine sn_goto (tgt := 15) dX9_init_37 (by decide) ?_
  refine sn_iload_n dX9_init_15 rfl ?_
  refine sn_bipush dX9_init_16 ⟨by decide, by decide, by decide⟩ ?_
  refine sn_icmp_gt (tgt := 40) dX9_init_18 (by decide) (fun q => absurd q (by decide)) (fun _ => ?_)
  refine sn_aload_n dX9_init_21 rfl ?_
  refine sn_getR (k := 0) (t := 49) cl_9 fl_X9_11 dX9_init_22 s2_48 (by decide) rfl (by decide) (rfl) ?_
  refine sn_iload_n dX9_init_25 rfl ?_
  refine sm_new (N := 71) (N2 := 72) (kc := 101) (ks := 2442) rfl rfl rfl cl_8 wc_59 wc_16 wc_17 dX9_init_26 s2_71 (dv_71) (by decide) ?_
  refine sn_dupr dX9_init_29 ?_
  refine sm_callI (N := 72) (N2 := 74) (kc2 := 2) (ks2 := 66) (kc := 99) (ks := 2376) rfl rfl rfl li_7 dX9_init_30 (Nat.le_of_ble_eq_true rfl) (by decide) (by decide) (k_71 d) ?_
  refine sn_aast (a := 49) (b := 71) cl_8 rfl dX9_init_33 s2_49 (by decide) s2_71 (by decide) (by decide) ⟨by decide, by decide⟩ (by decide) ?_
  refine sn_iinc dX9_init_34 (by decide) rfl ?_
  rw [sw_w_id (by decide) (by decide)]
  refine sn_goto (tgt := 15) dX9_init_37 (by decide) ?_
  refine sn_iload_n dX9_init_15 rfl ?_
  refine sn_bipush dX9_init_16 ⟨by decide, by decide, by decide⟩ ?_
  refine sn_icmp_gt (tgt := 40) dX9_init_18 (by decide) (fun q => absurd q (by decide)) (fun _ => ?_)
  refine sn_aload_n dX9_init_21 rfl ?_
  refine sn_getR (k := 0) (t := 49) cl_9 fl_X9_11 dX9_init_22 s2_48 (by decide) rfl (by decide) (rfl) ?_
  refine sn_iload_n dX9_init_25 rfl ?_
  refine sm_new (N := 74) (N2 := 75) (kc := 98) (ks := 2370) rfl rfl rfl cl_8 wc_59 wc_16 wc_17 dX9_init_26 s2_74 (dv_74) (by decide) ?_
  refine sn_dupr dX9_init_29 ?_
  refine sm_callI (N := 75) (N2 := 77) (kc2 := 2) (ks2 := 66) (kc := 96) (ks := 2304) rfl rfl rfl li_7 dX9_init_30 (Nat.le_of_ble_eq_true rfl) (by decide) (by decide) (k_74 d) ?_
  refine sn_aast (a := 49) (b := 74) cl_8 rfl dX9_init_33 s2_49 (by decide) s2_74 (by decide) (by decide) ⟨by decide, by decide⟩ (by decide) ?_
  refine sn_iinc dX9_init_34 (by decide) rfl ?_
  rw [sw_w_id (by decide) (by decide)]
  refine sn_goto (tgt := 15) dX9_init_37 (by decide) ?_
  refine sn_iload_n dX9_init_15 rfl ?_
  refine sn_bipush dX9_init_16 ⟨by decide, by decide, by decide⟩ ?_
  refine sn_icmp_gt (tgt := 40) dX9_init_18 (by decide) (fun q => absurd q (by decide)) (fun _ => ?_)
  refine sn_aload_n dX9_init_21 rfl ?_
  refine sn_getR (k := 0) (t := 49) cl_9 fl_X9_11 dX9_init_22 s2_48 (by decide) rfl (by decide) (rfl) ?_
  refine sn_iload_n dX9_init_25 rfl ?_
  refine sm_new (N := 77) (N2 := 78) (kc := 95) (ks := 2298) rfl rfl rfl cl_8 wc_59 wc_16 wc_17 dX9_init_26 s2_77 (dv_77) (by decide) ?_
  refine sn_dupr dX9_init_29 ?_
  refine sm_callI (N := 78) (N2 := 80) (kc2 := 2) (ks2 := 66) (kc := 93) (ks := 2232) rfl rfl rfl li_7 dX9_init_30 (Nat.le_of_ble_eq_true rfl) (by decide) (by decide) (k_77 d) ?_
  refine sn_aast (a := 49) (b := 77) cl_8 rfl dX9_init_33 s2_49 (by decide) s2_77 (by decide) (by decide) ⟨by decide, by decide⟩ (by decide) ?_
  refine sn_iinc dX9_init_34 (by decide) rfl ?_
  rw [sw_w_id (by decide) (by decide)]
  refine sn_goto (tgt := 15) dX9_init_37 (by decide) ?_
  refine sn_iload_n dX9_init_15 rfl ?_
  refine sn_bipush dX9_init_16 ⟨by decide, by decide, by decide⟩ ?_
  refine sn_icmp_gt (tgt := 40) dX9_init_18 (by decide) (fun q => absurd q (by decide)) (fun _ => ?_)
  refine sn_aload_n dX9_init_21 rfl ?_
  refine sn_getR (k := 0) (t := 49) cl_9 fl_X9_11 dX9_init_22 s2_48 (by decide) rfl (by decide) (rfl) ?_
  refine sn_iload_n dX9_init_25 rfl ?_
  refine sm_new (N := 80) (N2 := 81) (kc := 92) (ks := 2226) rfl rfl rfl cl_8 wc_59 wc_16 wc_17 dX9_init_26 s2_80 (dv_80) (by decide) ?_
  refine sn_dupr dX9_init_29 ?_
  refine sm_callI (N := 81) (N2 := 83) (kc2 := 2) (ks2 := 66) (kc := 90) (ks := 2160) rfl rfl rfl li_7 dX9_init_30 (Nat.le_of_ble_eq_true rfl) (by decide) (by decide) (k_80 d) ?_
  refine sn_aast (a := 49) (b := 80) cl_8 rfl dX9_init_33 s2_49 (by decide) s2_80 (by decide) (by decide) ⟨by decide, by decide⟩ (by decide) ?_
  refine sn_iinc dX9_init_34 (by decide) rfl ?_
  rw [sw_w_id (by decide) (by decide)]
  refine sn_goto (tgt := 15) dX9_init_37 (by decide) ?_
  refine sn_iload_n dX9_init_15 rfl ?_
  refine sn_bipush dX9_init_16 ⟨by decide, by decide, by decide⟩ ?_
  refine sn_icmp_gt (tgt := 40) dX9_init_18 (by decide) (fun q => absurd q (by decide)) (fun _ => ?_)
  refine sn_aload_n dX9_init_21 rfl ?_
  refine sn_getR (k := 0) (t := 49) cl_9 fl_X9_11 dX9_init_22 s2_48 (by decide) rfl (by decide) (rfl) ?_
  refine sn_iload_n dX9_init_25 rfl ?_
  refine sm_new (N := 83) (N2 := 84) (kc := 89) (ks := 2154) rfl rfl rfl cl_8 wc_59 wc_16 wc_17 dX9_init_26 s2_83 (dv_83) (by decide) ?_
  refine sn_dupr dX9_init_29 ?_
  refine sm_callI (N := 84) (N2 := 86) (kc2 := 2) (ks2 := 66) (kc := 87) (ks := 2088) rfl rfl rfl li_7 dX9_init_30 (Nat.le_of_ble_eq_true rfl) (by decide) (by decide) (k_83 d) ?_
  refine sn_aast (a := 49) (b := 83) cl_8 rfl dX9_init_33 s2_49 (by decide) s2_83 (by decide) (by decide) ⟨by decide, by decide⟩ (by decide) ?_
  refine sn_iinc dX9_init_34 (by decide) rfl ?_
  rw [sw_w_id (by decide) (by decide)]
  refine sn_goto (tgt := 15) dX9_init_37 (by decide) ?_
  refine sn_iload_n dX9_init_15 rfl ?_
  refine sn_bipush dX9_init_16 ⟨by decide, by decide, by decide⟩ ?_
  refine sn_icmp_gt (tgt := 40) dX9_init_18 (by decide) (fun q => absurd q (by decide)) (fun _ => ?_)
  refine sn_aload_n dX9_init_21 rfl ?_
  refine sn_getR (k := 0) (t := 49) cl_9 fl_X9_11 dX9_init_22 s2_48 (by decide) rfl (by decide) (rfl) ?_
  refine sn_iload_n dX9_init_25 rfl ?_
  refine sm_new (N := 86) (N2 := 87) (kc := 86) (ks := 2082) rfl rfl rfl cl_8 wc_59 wc_16 wc_17 dX9_init_26 s2_86 (dv_86) (by decide) ?_
  refine sn_dupr dX9_init_29 ?_
  refine sm_callI (N := 87) (N2 := 89) (kc2 := 2) (ks2 := 66) (kc := 84) (ks := 2016) rfl rfl rfl li_7 dX9_init_30 (Nat.le_of_ble_eq_true rfl) (by decide) (by decide) (k_86 d) ?_
  refine sn_aast (a := 49) (b := 86) cl_8 rfl dX9_init_33 s2_49 (by decide) s2_86 (by decide) (by decide) ⟨by decide, by decide⟩ (by decide) ?_
  refine sn_iinc dX9_init_34 (by decide) rfl ?_
  rw [sw_w_id (by decide) (by decide)]
  refine sn_goto (tgt := 15) dX9_init_37 (by decide) ?_
  refine sn_iload_n dX9_init_15 rfl ?_
  refine sn_bipush dX9_init_16 ⟨by decide, by decide, by decide⟩ ?_
  refine sn_icmp_gt (tgt := 40) dX9_init_18 (by decide) (fun q => absurd q (by decide)) (fun _ => ?_)
  refine sn_aload_n dX9_init_21 rfl ?_
  refine sn_getR (k := 0) (t := 49) cl_9 fl_X9_11 dX9_init_22 s2_48 (by decide) rfl (by decide) (rfl) ?_
  refine sn_iload_n dX9_init_25 rfl ?_
  refine sm_new (N := 89) (N2 := 90) (kc := 83) (ks := 2010) rfl rfl rfl cl_8 wc_59 wc_16 wc_17 dX9_init_26 s2_89 (dv_89) (by decide) ?_
  refine sn_dupr dX9_init_29 ?_
  refine sm_callI (N := 90) (N2 := 92) (kc2 := 2) (ks2 := 66) (kc := 81) (ks := 1944) rfl rfl rfl li_7 dX9_init_30 (Nat.le_of_ble_eq_true rfl) (by decide) (by decide) (k_89 d) ?_
  refine sn_aast (a := 49) (b := 89) cl_8 rfl dX9_init_33 s2_49 (by decide) s2_89 (by decide) (by decide) ⟨by decide, by decide⟩ (by decide) ?_
  refine sn_iinc dX9_init_34 (by decide) rfl ?_
  rw [sw_w_id (by decide) (by decide)]
  refine sn_goto (tgt := 15) dX9_init_37 (by decide) ?_
  refine sn_iload_n dX9_init_15 rfl ?_
  refine sn_bipush dX9_init_16 ⟨by decide, by decide, by decide⟩ ?_
  refine sn_icmp_gt (tgt := 40) dX9_init_18 (by decide) (fun q => absurd q (by decide)) (fun _ => ?_)
  refine sn_aload_n dX9_init_21 rfl ?_
  refine sn_getR (k := 0) (t := 49) cl_9 fl_X9_11 dX9_init_22 s2_48 (by decide) rfl (by decide) (rfl) ?_
  refine sn_iload_n dX9_init_25 rfl ?_
  refine sm_new (N := 92) (N2 := 93) (kc := 80) (ks := 1938) rfl rfl rfl cl_8 wc_59 wc_16 wc_17 dX9_init_26 s2_92 (dv_92) (by decide) ?_
  refine sn_dupr dX9_init_29 ?_
  refine sm_callI (N := 93) (N2 := 95) (kc2 := 2) (ks2 := 66) (kc := 78) (ks := 1872) rfl rfl rfl li_7 dX9_init_30 (Nat.le_of_ble_eq_true rfl) (by decide) (by decide) (k_92 d) ?_
  refine sn_aast (a := 49) (b := 92) cl_8 rfl dX9_init_33 s2_49 (by decide) s2_92 (by decide) (by decide) ⟨by decide, by decide⟩ (by decide) ?_
  refine sn_iinc dX9_init_34 (by decide) rfl ?_
  rw [sw_w_id (by decide) (by decide)]
  refine sn_goto (tgt := 15) dX9_init_37 (by decide) ?_
  refine sn_iload_n dX9_init_15 rfl ?_
  refine sn_bipush dX9_init_16 ⟨by decide, by decide, by decide⟩ ?_
  refine sn_icmp_gt (tgt := 40) dX9_init_18 (by decide) (fun q => absurd q (by decide)) (fun _ => ?_)
  refine sn_aload_n dX9_init_21 rfl ?_
  refine sn_getR (k := 0) (t := 49) cl_9 fl_X9_11 dX9_init_22 s2_48 (by decide) rfl (by decide) (rfl) ?_
  refine sn_iload_n dX9_init_25 rfl ?_
  refine sm_new (N := 95) (N2 := 96) (kc := 77) (ks := 1866) rfl rfl rfl cl_8 wc_59 wc_16 wc_17 dX9_init_26 s2_95 (dv_95) (by decide) ?_
  refine sn_dupr dX9_init_29 ?_
  refine sm_callI (N := 96) (N2 := 98) (kc2 := 2) (ks2 := 66) (kc := 75) (ks := 1800) rfl rfl rfl li_7 dX9_init_30 (Nat.le_of_ble_eq_true rfl) (by decide) (by decide) (k_95 d) ?_
  refine sn_aast (a := 49) (b := 95) cl_8 rfl dX9_init_33 s2_49 (by decide) s2_95 (by decide) (by decide) ⟨by decide, by decide⟩ (by decide) ?_
  refine sn_iinc dX9_init_34 (by decide) rfl ?_
  rw [sw_w_id (by decide) (by decide)]
  refine sn_goto (tgt := 15) dX9_init_37 (by decide) ?_
  refine sn_iload_n dX9_init_15 rfl ?_
  refine sn_bipush dX9_init_16 ⟨by decide, by decide, by decide⟩ ?_
  refine sn_icmp_gt (tgt := 40) dX9_init_18 (by decide) (fun q => absurd q (by decide)) (fun _ => ?_)
  refine sn_aload_n dX9_init_21 rfl ?_
  refine sn_getR (k := 0) (t := 49) cl_9 fl_X9_11 dX9_init_22 s2_48 (by decide) rfl (by decide) (rfl) ?_
  refine sn_iload_n dX9_init_25 rfl ?_
  refine sm_new (N := 98) (N2 := 99) (kc := 74) (ks := 1794) rfl rfl rfl cl_8 wc_59 wc_16 wc_17 dX9_init_26 s2_98 (dv_98) (by decide) ?_
  refine sn_dupr dX9_init_29 ?_
  refine sm_callI (N := 99) (N2 := 101) (kc2 := 2) (ks2 := 66) (kc := 72) (ks := 1728) rfl rfl rfl li_7 dX9_init_30 (Nat.le_of_ble_eq_true rfl) (by decide) (by decide) (k_98 d) ?_
  refine sn_aast (a := 49) (b := 98) cl_8 rfl dX9_init_33 s2_49 (by decide) s2_98 (by decide) (by decide) ⟨by decide, by decide⟩ (by decide) ?_
  refine sn_iinc dX9_init_34 (by decide) rfl ?_
  rw [sw_w_id (by decide) (by decide)]
  refine sn_goto (tgt := 15) dX9_init_37 (by decide) ?_
  refine sn_iload_n dX9_init_15 rfl ?_
  refine sn_bipush dX9_init_16 ⟨by decide, by decide, by decide⟩ ?_
  refine sn_icmp_gt (tgt := 40) dX9_init_18 (by decide) (fun q => absurd q (by decide)) (fun _ => ?_)
  refine sn_aload_n dX9_init_21 rfl ?_
  refine sn_getR (k := 0) (t := 49) cl_9 fl_X9_11 dX9_init_22 s2_48 (by decide) rfl (by decide) (rfl) ?_
  refine sn_iload_n dX9_init_25 rfl ?_
  refine sm_new (N := 101) (N2 := 102) (kc := 71) (ks := 1722) rfl rfl rfl cl_8 wc_59 wc_16 wc_17 dX9_init_26 s2_101 (dv_101) (by decide) ?_
  refine sn_dupr dX9_init_29 ?_
  refine sm_callI (N := 102) (N2 := 104) (kc2 := 2) (ks2 := 66) (kc := 69) (ks := 1656) rfl rfl rfl li_7 dX9_init_30 (Nat.le_of_ble_eq_true rfl) (by decide) (by decide) (k_101 d) ?_
  refine sn_aast (a := 49) (b := 101) cl_8 rfl dX9_init_33 s2_49 (by decide) s2_101 (by decide) (by decide) ⟨by decide, by decide⟩ (by decide) ?_
  refine sn_iinc dX9_init_34 (by decide) rfl ?_
  rw [sw_w_id (by decide) (by decide)]
  refine sn_goto (tgt := 15) dX9_init_37 (by decide) ?_
  refine sn_iload_n dX9_init_15 rfl ?_
  refine sn_bipush dX9_init_16 ⟨by decide, by decide, by decide⟩ ?_
  refine sn_icmp_gt (tgt := 40) dX9_init_18 (by decide) (fun q => absurd q (by decide)) (fun _ => ?_)
  refine sn_aload_n dX9_init_21 rfl ?_
  refine sn_getR (k := 0) (t := 49) cl_9 fl_X9_11 dX9_init_22 s2_48 (by decide) rfl (by decide) (rfl) ?_
  refine sn_iload_n dX9_init_25 rfl ?_
  refine sm_new (N := 104) (N2 := 105) (kc := 68) (ks := 1650) rfl rfl rfl cl_8 wc_59 wc_16 wc_17 dX9_init_26 s2_104 (dv_104) (by decide) ?_
  refine sn_dupr dX9_init_29 ?_
  refine sm_callI (N := 105) (N2 := 107) (kc2 := 2) (ks2 := 66) (kc := 66) (ks := 1584) rfl rfl rfl li_7 dX9_init_30 (Nat.le_of_ble_eq_true rfl) (by decide) (by decide) (k_104 d) ?_
  refine sn_aast (a := 49) (b := 104) cl_8 rfl dX9_init_33 s2_49 (by decide) s2_104 (by decide) (by decide) ⟨by decide, by decide⟩ (by decide) ?_
  refine sn_iinc dX9_init_34 (by decide) rfl ?_
  rw [sw_w_id (by decide) (by decide)]
  refine sn_goto (tgt := 15) dX9_init_37 (by decide) ?_
  refine sn_iload_n dX9_init_15 rfl ?_
  refine sn_bipush dX9_init_16 ⟨by decide, by decide, by decide⟩ ?_
  refine sn_icmp_gt (tgt := 40) dX9_init_18 (by decide) (fun q => absurd q (by decide)) (fun _ => ?_)
  refine sn_aload_n dX9_init_21 rfl ?_
  refine sn_getR (k := 0) (t := 49) cl_9 fl_X9_11 dX9_init_22 s2_48 (by decide) rfl (by decide) (rfl) ?_
  refine sn_iload_n dX9_init_25 rfl ?_
  refine sm_new (N := 107) (N2 := 108) (kc := 65) (ks := 1578) rfl rfl rfl cl_8 wc_59 wc_16 wc_17 dX9_init_26 s2_107 (dv_107) (by decide) ?_
  refine sn_dupr dX9_init_29 ?_
  refine sm_callI (N := 108) (N2 := 110) (kc2 := 2) (ks2 := 66) (kc := 63) (ks := 1512) rfl rfl rfl li_7 dX9_init_30 (Nat.le_of_ble_eq_true rfl) (by decide) (by decide) (k_107 d) ?_
  refine sn_aast (a := 49) (b := 107) cl_8 rfl dX9_init_33 s2_49 (by decide) s2_107 (by decide) (by decide) ⟨by decide, by decide⟩ (by decide) ?_
  refine sn_iinc dX9_init_34 (by decide) rfl ?_
  rw [sw_w_id (by decide) (by decide)]
  refine sn_goto (tgt := 15) dX9_init_37 (by decide) ?_
  refine sn_iload_n dX9_init_15 rfl ?_
  refine sn_bipush dX9_init_16 ⟨by decide, by decide, by decide⟩ ?_
  refine sn_icmp_gt (tgt := 40) dX9_init_18 (by decide) (fun q => absurd q (by decide)) (fun _ => ?_)
  refine sn_aload_n dX9_init_21 rfl ?_
  refine sn_getR (k := 0) (t := 49) cl_9 fl_X9_11 dX9_init_22 s2_48 (by decide) rfl (by decide) (rfl) ?_
  refine sn_iload_n dX9_init_25 rfl ?_
  refine sm_new (N := 110) (N2 := 111) (kc := 62) (ks := 1506) rfl rfl rfl cl_8 wc_59 wc_16 wc_17 dX9_init_26 s2_110 (dv_110) (by decide) ?_
  refine sn_dupr dX9_init_29 ?_
  refine sm_callI (N := 111) (N2 := 113) (kc2 := 2) (ks2 := 66) (kc := 60) (ks := 1440) rfl rfl rfl li_7 dX9_init_30 (Nat.le_of_ble_eq_true rfl) (by decide) (by decide) (k_110 d) ?_
  refine sn_aast (a := 49) (b := 110) cl_8 rfl dX9_init_33 s2_49 (by decide) s2_110 (by decide) (by decide) ⟨by decide, by decide⟩ (by decide) ?_
  refine sn_iinc dX9_init_34 (by decide) rfl ?_
  rw [sw_w_id (by decide) (by decide)]
  refine sn_goto (tgt := 15) dX9_init_37 (by decide) ?_
  refine sn_iload_n dX9_init_15 rfl ?_
  refine sn_bipush dX9_init_16 ⟨by decide, by decide, by decide⟩ ?_
  refine sn_icmp_gt (tgt := 40) dX9_init_18 (by decide) (fun q => absurd q (by decide)) (fun _ => ?_)
  refine sn_aload_n dX9_init_21 rfl ?_
  refine sn_getR (k := 0) (t := 49) cl_9 fl_X9_11 dX9_init_22 s2_48 (by decide) rfl (by decide) (rfl) ?_
  refine sn_iload_n dX9_init_25 rfl ?_
  refine sm_new (N := 113) (N2 := 114) (kc := 59) (ks := 1434) rfl rfl rfl cl_8 wc_59 wc_16 wc_17 dX9_init_26 s2_113 (dv_113) (by decide) ?_
  refine sn_dupr dX9_init_29 ?_
  refine sm_callI (N := 114) (N2 := 116) (kc2 := 2) (ks2 := 66) (kc := 57) (ks := 1368) rfl rfl rfl li_7 dX9_init_30 (Nat.le_of_ble_eq_true rfl) (by decide) (by decide) (k_113 d) ?_
  refine sn_aast (a := 49) (b := 113) cl_8 rfl dX9_init_33 s2_49 (by decide) s2_113 (by decide) (by decide) ⟨by decide, by decide⟩ (by decide) ?_
  refine sn_iinc dX9_init_34 (by decide) rfl ?_
  rw [sw_w_id (by decide) (by decide)]
  refine sn_goto (tgt := 15) dX9_init_37 (by decide) ?_
  refine sn_iload_n dX9_init_15 rfl ?_
  refine sn_bipush dX9_init_16 ⟨by decide, by decide, by decide⟩ ?_
  refine sn_icmp_gt (tgt := 40) dX9_init_18 (by decide) (fun q => absurd q (by decide)) (fun _ => ?_)
  refine sn_aload_n dX9_init_21 rfl ?_
  refine sn_getR (k := 0) (t := 49) cl_9 fl_X9_11 dX9_init_22 s2_48 (by decide) rfl (by decide) (rfl) ?_
  refine sn_iload_n dX9_init_25 rfl ?_
  refine sm_new (N := 116) (N2 := 117) (kc := 56) (ks := 1362) rfl rfl rfl cl_8 wc_59 wc_16 wc_17 dX9_init_26 s2_116 (dv_116) (by decide) ?_
  refine sn_dupr dX9_init_29 ?_
  refine sm_callI (N := 117) (N2 := 119) (kc2 := 2) (ks2 := 66) (kc := 54) (ks := 1296) rfl rfl rfl li_7 dX9_init_30 (Nat.le_of_ble_eq_true rfl) (by decide) (by decide) (k_116 d) ?_
  refine sn_aast (a := 49) (b := 116) cl_8 rfl dX9_init_33 s2_49 (by decide) s2_116 (by decide) (by decide) ⟨by decide, by decide⟩ (by decide) ?_
  refine sn_iinc dX9_init_34 (by decide) rfl ?_
  rw [sw_w_id (by decide) (by decide)]
  refine sn_goto (tgt := 15) dX9_init_37 (by decide) ?_
  refine sn_iload_n dX9_init_15 rfl ?_
  refine sn_bipush dX9_init_16 ⟨by decide, by decide, by decide⟩ ?_
  refine sn_icmp_gt (tgt := 40) dX9_init_18 (by decide) (fun q => absurd q (by decide)) (fun _ => ?_)
  refine sn_aload_n dX9_init_21 rfl ?_
  refine sn_getR (k := 0) (t := 49) cl_9 fl_X9_11 dX9_init_22 s2_48 (by decide) rfl (by decide) (rfl) ?_
  refine sn_iload_n dX9_init_25 rfl ?_
  refine sm_new (N := 119) (N2 := 120) (kc := 53) (ks := 1290) rfl rfl rfl cl_8 wc_59 wc_16 wc_17 dX9_init_26 s2_119 (dv_119) (by decide) ?_
  refine sn_dupr dX9_init_29 ?_
  refine sm_callI (N := 120) (N2 := 122) (kc2 := 2) (ks2 := 66) (kc := 51) (ks := 1224) rfl rfl rfl li_7 dX9_init_30 (Nat.le_of_ble_eq_true rfl) (by decide) (by decide) (k_119 d) ?_
  refine sn_aast (a := 49) (b := 119) cl_8 rfl dX9_init_33 s2_49 (by decide) s2_119 (by decide) (by decide) ⟨by decide, by decide⟩ (by decide) ?_
  refine sn_iinc dX9_init_34 (by decide) rfl ?_
  rw [sw_w_id (by decide) (by decide)]
  refine sn_goto (tgt := 15) dX9_init_37 (by decide) ?_
  refine sn_iload_n dX9_init_15 rfl ?_
  refine sn_bipush dX9_init_16 ⟨by decide, by decide, by decide⟩ ?_
  refine sn_icmp_gt (tgt := 40) dX9_init_18 (by decide) (fun q => absurd q (by decide)) (fun _ => ?_)
  refine sn_aload_n dX9_init_21 rfl ?_
  refine sn_getR (k := 0) (t := 49) cl_9 fl_X9_11 dX9_init_22 s2_48 (by decide) rfl (by decide) (rfl) ?_
  refine sn_iload_n dX9_init_25 rfl ?_
  refine sm_new (N := 122) (N2 := 123) (kc := 50) (ks := 1218) rfl rfl rfl cl_8 wc_59 wc_16 wc_17 dX9_init_26 s2_122 (dv_122) (by decide) ?_
  refine sn_dupr dX9_init_29 ?_
  refine sm_callI (N := 123) (N2 := 125) (kc2 := 2) (ks2 := 66) (kc := 48) (ks := 1152) rfl rfl rfl li_7 dX9_init_30 (Nat.le_of_ble_eq_true rfl) (by decide) (by decide) (k_122 d) ?_
  refine sn_aast (a := 49) (b := 122) cl_8 rfl dX9_init_33 s2_49 (by decide) s2_122 (by decide) (by decide) ⟨by decide, by decide⟩ (by decide) ?_
  refine sn_iinc dX9_init_34 (by decide) rfl ?_
  rw [sw_w_id (by decide) (by decide)]
  refine sn_goto (tgt := 15) dX9_init_37 (by decide) ?_
  refine sn_iload_n dX9_init_15 rfl ?_
  refine sn_bipush dX9_init_16 ⟨by decide, by decide, by decide⟩ ?_
  refine sn_icmp_gt (tgt := 40) dX9_init_18 (by decide) (fun q => absurd q (by decide)) (fun _ => ?_)
  refine sn_aload_n dX9_init_21 rfl ?_
  refine sn_getR (k := 0) (t := 49) cl_9 fl_X9_11 dX9_init_22 s2_48 (by decide) rfl (by decide) (rfl) ?_
  refine sn_iload_n dX9_init_25 rfl ?_
  refine sm_new (N := 125) (N2 := 126) (kc := 47) (ks := 1146) rfl rfl rfl cl_8 wc_59 wc_16 wc_17 dX9_init_26 s2_125 (dv_125) (by decide) ?_
  refine sn_dupr dX9_init_29 ?_
  refine sm_callI (N := 126) (N2 := 128) (kc2 := 2) (ks2 := 66) (kc := 45) (ks := 1080) rfl rfl rfl li_7 dX9_init_30 (Nat.le_of_ble_eq_true rfl) (by decide) (by decide) (k_125 d) ?_
  refine sn_aast (a := 49) (b := 125) cl_8 rfl dX9_init_33 s2_49 (by decide) s2_125 (by decide) (by decide) ⟨by decide, by decide⟩ (by decide) ?_
  refine sn_iinc dX9_init_34 (by decide) rfl ?_
  rw [sw_w_id (by decide) (by decide)]
  refine sn_goto (tgt := 15) dX9_init_37 (by decide) ?_
  refine sn_iload_n dX9_init_15 rfl ?_
  refine sn_bipush dX9_init_16 ⟨by decide, by decide, by decide⟩ ?_
  refine sn_icmp_gt (tgt := 40) dX9_init_18 (by decide) (fun q => absurd q (by decide)) (fun _ => ?_)
  refine sn_aload_n dX9_init_21 rfl ?_
  refine sn_getR (k := 0) (t := 49) cl_9 fl_X9_11 dX9_init_22 s2_48 (by decide) rfl (by decide) (rfl) ?_
  refine sn_iload_n dX9_init_25 rfl ?_
  refine sm_new (N := 128) (N2 := 129) (kc := 44) (ks := 1074) rfl rfl rfl cl_8 wc_59 wc_16 wc_17 dX9_init_26 s2_128 (dv_128) (by decide) ?_
  refine sn_dupr dX9_init_29 ?_
  refine sm_callI (N := 129) (N2 := 131) (kc2 := 2) (ks2 := 66) (kc := 42) (ks := 1008) rfl rfl rfl li_7 dX9_init_30 (Nat.le_of_ble_eq_true rfl) (by decide) (by decide) (k_128 d) ?_
  refine sn_aast (a := 49) (b := 128) cl_8 rfl dX9_init_33 s2_49 (by decide) s2_128 (by decide) (by decide) ⟨by decide, by decide⟩ (by decide) ?_
  refine sn_iinc dX9_init_34 (by decide) rfl ?_
  rw [sw_w_id (by decide) (by decide)]
  refine sn_goto (tgt := 15) dX9_init_37 (by decide) ?_
  refine sn_iload_n dX9_init_15 rfl ?_
  refine sn_bipush dX9_init_16 ⟨by decide, by decide, by decide⟩ ?_
  refine sn_icmp_gt (tgt := 40) dX9_init_18 (by decide) (fun q => absurd q (by decide)) (fun _ => ?_)
  refine sn_aload_n dX9_init_21 rfl ?_
  refine sn_getR (k := 0) (t := 49) cl_9 fl_X9_11 dX9_init_22 s2_48 (by decide) rfl (by decide) (rfl) ?_
  refine sn_iload_n dX9_init_25 rfl ?_
  refine sm_new (N := 131) (N2 := 132) (kc := 41) (ks := 1002) rfl rfl rfl cl_8 wc_59 wc_16 wc_17 dX9_init_26 s2_131 (dv_131) (by decide) ?_
  refine sn_dupr dX9_init_29 ?_
  refine sm_callI (N := 132) (N2 := 134) (kc2 := 2) (ks2 := 66) (kc := 39) (ks := 936) rfl rfl rfl li_7 dX9_init_30 (Nat.le_of_ble_eq_true rfl) (by decide) (by decide) (k_131 d) ?_
  refine sn_aast (a := 49) (b := 131) cl_8 rfl dX9_init_33 s2_49 (by decide) s2_131 (by decide) (by decide) ⟨by decide, by decide⟩ (by decide) ?_
  refine sn_iinc dX9_init_34 (by decide) rfl ?_
  rw [sw_w_id (by decide) (by decide)]
  refine sn_goto (tgt := 15) dX9_init_37 (by decide) ?_
  refine sn_iload_n dX9_init_15 rfl ?_
  refine sn_bipush dX9_init_16 ⟨by decide, by decide, by decide⟩ ?_
  refine sn_icmp_gt (tgt := 40) dX9_init_18 (by decide) (fun q => absurd q (by decide)) (fun _ => ?_)
  refine sn_aload_n dX9_init_21 rfl ?_
  refine sn_getR (k := 0) (t := 49) cl_9 fl_X9_11 dX9_init_22 s2_48 (by decide) rfl (by decide) (rfl) ?_
  refine sn_iload_n dX9_init_25 rfl ?_
  refine sm_new (N := 134) (N2 := 135) (kc := 38) (ks := 930) rfl rfl rfl cl_8 wc_59 wc_16 wc_17 dX9_init_26 s2_134 (dv_134) (by decide) ?_
  refine sn_dupr dX9_init_29 ?_
  refine sm_callI (N := 135) (N2 := 137) (kc2 := 2) (ks2 := 66) (kc := 36) (ks := 864) rfl rfl rfl li_7 dX9_init_30 (Nat.le_of_ble_eq_true rfl) (by decide) (by decide) (k_134 d) ?_
  refine sn_aast (a := 49) (b := 134) cl_8 rfl dX9_init_33 s2_49 (by decide) s2_134 (by decide) (by decide) ⟨by decide, by decide⟩ (by decide) ?_
  refine sn_iinc dX9_init_34 (by decide) rfl ?_
  rw [sw_w_id (by decide) (by decide)]
  refine sn_goto (tgt := 15) dX9_init_37 (by decide) ?_
  refine sn_iload_n dX9_init_15 rfl ?_
  refine sn_bipush dX9_init_16 ⟨by decide, by decide, by decide⟩ ?_
  refine sn_icmp_gt (tgt := 40) dX9_init_18 (by decide) (fun q => absurd q (by decide)) (fun _ => ?_)
  refine sn_aload_n dX9_init_21 rfl ?_
  refine sn_getR (k := 0) (t := 49) cl_9 fl_X9_11 dX9_init_22 s2_48 (by decide) rfl (by decide) (rfl) ?_
  refine sn_iload_n dX9_init_25 rfl ?_
  refine sm_new (N := 137) (N2 := 138) (kc := 35) (ks := 858) rfl rfl rfl cl_8 wc_59 wc_16 wc_17 dX9_init_26 s2_137 (dv_137) (by decide) ?_
  refine sn_dupr dX9_init_29 ?_
  refine sm_callI (N := 138) (N2 := 140) (kc2 := 2) (ks2 := 66) (kc := 33) (ks := 792) rfl rfl rfl li_7 dX9_init_30 (Nat.le_of_ble_eq_true rfl) (by decide) (by decide) (k_137 d) ?_
  refine sn_aast (a := 49) (b := 137) cl_8 rfl dX9_init_33 s2_49 (by decide) s2_137 (by decide) (by decide) ⟨by decide, by decide⟩ (by decide) ?_
  refine sn_iinc dX9_init_34 (by decide) rfl ?_
  rw [sw_w_id (by decide) (by decide)]
  refine sn_goto (tgt := 15) dX9_init_37 (by decide) ?_
  refine sn_iload_n dX9_init_15 rfl ?_
  refine sn_bipush dX9_init_16 ⟨by decide, by decide, by decide⟩ ?_
  refine sn_icmp_gt (tgt := 40) dX9_init_18 (by decide) (fun q => absurd q (by decide)) (fun _ => ?_)
  refine sn_aload_n dX9_init_21 rfl ?_
  refine sn_getR (k := 0) (t := 49) cl_9 fl_X9_11 dX9_init_22 s2_48 (by decide) rfl (by decide) (rfl) ?_
  refine sn_iload_n dX9_init_25 rfl ?_
  refine sm_new (N := 140) (N2 := 141) (kc := 32) (ks := 786) rfl rfl rfl cl_8 wc_59 wc_16 wc_17 dX9_init_26 s2_140 (dv_140) (by decide) ?_
  refine sn_dupr dX9_init_29 ?_
  refine sm_callI (N := 141) (N2 := 143) (kc2 := 2) (ks2 := 66) (kc := 30) (ks := 720) rfl rfl rfl li_7 dX9_init_30 (Nat.le_of_ble_eq_true rfl) (by decide) (by decide) (k_140 d) ?_
  refine sn_aast (a := 49) (b := 140) cl_8 rfl dX9_init_33 s2_49 (by decide) s2_140 (by decide) (by decide) ⟨by decide, by decide⟩ (by decide) ?_
  refine sn_iinc dX9_init_34 (by decide) rfl ?_
  rw [sw_w_id (by decide) (by decide)]
  refine sn_goto (tgt := 15) dX9_init_37 (by decide) ?_
  refine sn_iload_n dX9_init_15 rfl ?_
  refine sn_bipush dX9_init_16 ⟨by decide, by decide, by decide⟩ ?_
  refine sn_icmp_gt (tgt := 40) dX9_init_18 (by decide) (fun q => absurd q (by decide)) (fun _ => ?_)
  refine sn_aload_n dX9_init_21 rfl ?_
  refine sn_getR (k := 0) (t := 49) cl_9 fl_X9_11 dX9_init_22 s2_48 (by decide) rfl (by decide) (rfl) ?_
  refine sn_iload_n dX9_init_25 rfl ?_
  refine sm_new (N := 143) (N2 := 144) (kc := 29) (ks := 714) rfl rfl rfl cl_8 wc_59 wc_16 wc_17 dX9_init_26 s2_143 (dv_143) (by decide) ?_
  refine sn_dupr dX9_init_29 ?_
  refine sm_callI (N := 144) (N2 := 146) (kc2 := 2) (ks2 := 66) (kc := 27) (ks := 648) rfl rfl rfl li_7 dX9_init_30 (Nat.le_of_ble_eq_true rfl) (by decide) (by decide) (k_143 d) ?_
  refine sn_aast (a := 49) (b := 143) cl_8 rfl dX9_init_33 s2_49 (by decide) s2_143 (by decide) (by decide) ⟨by decide, by decide⟩ (by decide) ?_
  refine sn_iinc dX9_init_34 (by decide) rfl ?_
  rw [sw_w_id (by decide) (by decide)]
  refine sn_goto (tgt := 15) dX9_init_37 (by decide) ?_
  refine sn_iload_n dX9_init_15 rfl ?_
  refine sn_bipush dX9_init_16 ⟨by decide, by decide, by decide⟩ ?_
  refine sn_icmp_gt (tgt := 40) dX9_init_18 (by decide) (fun q => absurd q (by decide)) (fun _ => ?_)
  refine sn_aload_n dX9_init_21 rfl ?_
  refine sn_getR (k := 0) (t := 49) cl_9 fl_X9_11 dX9_init_22 s2_48 (by decide) rfl (by decide) (rfl) ?_
  refine sn_iload_n dX9_init_25 rfl ?_
  refine sm_new (N := 146) (N2 := 147) (kc := 26) (ks := 642) rfl rfl rfl cl_8 wc_59 wc_16 wc_17 dX9_init_26 s2_146 (dv_146) (by decide) ?_
  refine sn_dupr dX9_init_29 ?_
  refine sm_callI (N := 147) (N2 := 149) (kc2 := 2) (ks2 := 66) (kc := 24) (ks := 576) rfl rfl rfl li_7 dX9_init_30 (Nat.le_of_ble_eq_true rfl) (by decide) (by decide) (k_146 d) ?_
  refine sn_aast (a := 49) (b := 146) cl_8 rfl dX9_init_33 s2_49 (by decide) s2_146 (by decide) (by decide) ⟨by decide, by decide⟩ (by decide) ?_
  refine sn_iinc dX9_init_34 (by decide) rfl ?_
  rw [sw_w_id (by decide) (by decide)]
  refine sn_goto (tgt := 15) dX9_init_37 (by decide) ?_
  refine sn_iload_n dX9_init_15 rfl ?_
  refine sn_bipush dX9_init_16 ⟨by decide, by decide, by decide⟩ ?_
  refine sn_icmp_gt (tgt := 40) dX9_init_18 (by decide) (fun q => absurd q (by decide)) (fun _ => ?_)
  refine sn_aload_n dX9_init_21 rfl ?_
  refine sn_getR (k := 0) (t := 49) cl_9 fl_X9_11 dX9_init_22 s2_48 (by decide) rfl (by decide) (rfl) ?_
  refine sn_iload_n dX9_init_25 rfl ?_
  refine sm_new (N := 149) (N2 := 150) (kc := 23) (ks := 570) rfl rfl rfl cl_8 wc_59 wc_16 wc_17 dX9_init_26 s2_149 (dv_149) (by decide) ?_
  refine sn_dupr dX9_init_29 ?_
  refine sm_callI (N := 150) (N2 := 152) (kc2 := 2) (ks2 := 66) (kc := 21) (ks := 504) rfl rfl rfl li_7 dX9_init_30 (Nat.le_of_ble_eq_true rfl) (by decide) (by decide) (k_149 d) ?_
  refine sn_aast (a := 49) (b := 149) cl_8 rfl dX9_init_33 s2_49 (by decide) s2_149 (by decide) (by decide) ⟨by decide, by decide⟩ (by decide) ?_
  refine sn_iinc dX9_init_34 (by decide) rfl ?_
  rw [sw_w_id (by decide) (by decide)]
  refine sn_goto (tgt := 15) dX9_init_37 (by decide) ?_
  refine sn_iload_n dX9_init_15 rfl ?_
  refine sn_bipush dX9_init_16 ⟨by decide, by decide, by decide⟩ ?_
  refine sn_icmp_gt (tgt := 40) dX9_init_18 (by decide) (fun q => absurd q (by decide)) (fun _ => ?_)
  refine sn_aload_n dX9_init_21 rfl ?_
  refine sn_getR (k := 0) (t := 49) cl_9 fl_X9_11 dX9_init_22 s2_48 (by decide) rfl (by decide) (rfl) ?_
  refine sn_iload_n dX9_init_25 rfl ?_
  refine sm_new (N := 152) (N2 := 153) (kc := 20) (ks := 498) rfl rfl rfl cl_8 wc_59 wc_16 wc_17 dX9_init_26 s2_152 (dv_152) (by decide) ?_
  refine sn_dupr dX9_init_29 ?_
  refine sm_callI (N := 153) (N2 := 155) (kc2 := 2) (ks2 := 66) (kc := 18) (ks := 432) rfl rfl rfl li_7 dX9_init_30 (Nat.le_of_ble_eq_true rfl) (by decide) (by decide) (k_152 d) ?_
  refine sn_aast (a := 49) (b := 152) cl_8 rfl dX9_init_33 s2_49 (by decide) s2_152 (by decide) (by decide) ⟨by decide, by decide⟩ (by decide) ?_
  refine sn_iinc dX9_init_34 (by decide) rfl ?_
  rw [sw_w_id (by decide) (by decide)]
  refine sn_goto (tgt := 15) dX9_init_37 (by decide) ?_
  refine sn_iload_n dX9_init_15 rfl ?_
  refine sn_bipush dX9_init_16 ⟨by decide, by decide, by decide⟩ ?_
  refine sn_icmp_gt (tgt := 40) dX9_init_18 (by decide) (fun q => absurd q (by decide)) (fun _ => ?_)
  refine sn_aload_n dX9_init_21 rfl ?_
  refine sn_getR (k := 0) (t := 49) cl_9 fl_X9_11 dX9_init_22 s2_48 (by decide) rfl (by decide) (rfl) ?_
  refine sn_iload_n dX9_init_25 rfl ?_
  refine sm_new (N := 155) (N2 := 156) (kc := 17) (ks := 426) rfl rfl rfl cl_8 wc_59 wc_16 wc_17 dX9_init_26 s2_155 (dv_155) (by decide) ?_
  refine sn_dupr dX9_init_29 ?_
  refine sm_callI (N := 156) (N2 := 158) (kc2 := 2) (ks2 := 66) (kc := 15) (ks := 360) rfl rfl rfl li_7 dX9_init_30 (Nat.le_of_ble_eq_true rfl) (by decide) (by decide) (k_155 d) ?_
  refine sn_aast (a := 49) (b := 155) cl_8 rfl dX9_init_33 s2_49 (by decide) s2_155 (by decide) (by decide) ⟨by decide, by decide⟩ (by decide) ?_
  refine sn_iinc dX9_init_34 (by decide) rfl ?_
  rw [sw_w_id (by decide) (by decide)]
  refine sn_goto (tgt := 15) dX9_init_37 (by decide) ?_
  refine sn_iload_n dX9_init_15 rfl ?_
  refine sn_bipush dX9_init_16 ⟨by decide, by decide, by decide⟩ ?_
  refine sn_icmp_gt (tgt := 40) dX9_init_18 (by decide) (fun q => absurd q (by decide)) (fun _ => ?_)
  refine sn_aload_n dX9_init_21 rfl ?_
  refine sn_getR (k := 0) (t := 49) cl_9 fl_X9_11 dX9_init_22 s2_48 (by decide) rfl (by decide) (rfl) ?_
  refine sn_iload_n dX9_init_25 rfl ?_
  refine sm_new (N := 158) (N2 := 159) (kc := 14) (ks := 354) rfl rfl rfl cl_8 wc_59 wc_16 wc_17 dX9_init_26 s2_158 (dv_158) (by decide) ?_
  refine sn_dupr dX9_init_29 ?_
  refine sm_callI (N := 159) (N2 := 161) (kc2 := 2) (ks2 := 66) (kc := 12) (ks := 288) rfl rfl rfl li_7 dX9_init_30 (Nat.le_of_ble_eq_true rfl) (by decide) (by decide) (k_158 d) ?_
  refine sn_aast (a := 49) (b := 158) cl_8 rfl dX9_init_33 s2_49 (by decide) s2_158 (by decide) (by decide) ⟨by decide, by decide⟩ (by decide) ?_
  refine sn_iinc dX9_init_34 (by decide) rfl ?_
  rw [sw_w_id (by decide) (by decide)]
  refine sn_goto (tgt := 15) dX9_init_37 (by decide) ?_
  refine sn_iload_n dX9_init_15 rfl ?_
  refine sn_bipush dX9_init_16 ⟨by decide, by decide, by decide⟩ ?_
  refine sn_icmp_gt (tgt := 40) dX9_init_18 (by decide) (fun q => absurd q (by decide)) (fun _ => ?_)
  refine sn_aload_n dX9_init_21 rfl ?_
  refine sn_getR (k := 0) (t := 49) cl_9 fl_X9_11 dX9_init_22 s2_48 (by decide) rfl (by decide) (rfl) ?_
  refine sn_iload_n dX9_init_25 rfl ?_
  refine sm_new (N := 161) (N2 := 162) (kc := 11) (ks := 282) rfl rfl rfl cl_8 wc_59 wc_16 wc_17 dX9_init_26 s2_161 (dv_161) (by decide) ?_
  refine sn_dupr dX9_init_29 ?_
  refine sm_callI (N := 162) (N2 := 164) (kc2 := 2) (ks2 := 66) (kc := 9) (ks := 216) rfl rfl rfl li_7 dX9_init_30 (Nat.le_of_ble_eq_true rfl) (by decide) (by decide) (k_161 d) ?_
  refine sn_aast (a := 49) (b := 161) cl_8 rfl dX9_init_33 s2_49 (by decide) s2_161 (by decide) (by decide) ⟨by decide, by decide⟩ (by decide) ?_
  refine sn_iinc dX9_init_34 (by decide) rfl ?_
  rw [sw_w_id (by decide) (by decide)]
  refine sn_goto (tgt := 15) dX9_init_37 (by decide) ?_
  refine sn_iload_n dX9_init_15 rfl ?_
  refine sn_bipush dX9_init_16 ⟨by decide, by decide, by decide⟩ ?_
  refine sn_icmp_gt (tgt := 40) dX9_init_18 (by decide) (fun q => absurd q (by decide)) (fun _ => ?_)
  refine sn_aload_n dX9_init_21 rfl ?_
  refine sn_getR (k := 0) (t := 49) cl_9 fl_X9_11 dX9_init_22 s2_48 (by decide) rfl (by decide) (rfl) ?_
  refine sn_iload_n dX9_init_25 rfl ?_
  refine sm_new (N := 164) (N2 := 165) (kc := 8) (ks := 210) rfl rfl rfl cl_8 wc_59 wc_16 wc_17 dX9_init_26 s2_164 (dv_164) (by decide) ?_
  refine sn_dupr dX9_init_29 ?_
  refine sm_callI (N := 165) (N2 := 167) (kc2 := 2) (ks2 := 66) (kc := 6) (ks := 144) rfl rfl rfl li_7 dX9_init_30 (Nat.le_of_ble_eq_true rfl) (by decide) (by decide) (k_164 d) ?_
  refine sn_aast (a := 49) (b := 164) cl_8 rfl dX9_init_33 s2_49 (by decide) s2_164 (by decide) (by decide) ⟨by decide, by decide⟩ (by decide) ?_
  refine sn_iinc dX9_init_34 (by decide) rfl ?_
  rw [sw_w_id (by decide) (by decide)]
  refine sn_goto (tgt := 15) dX9_init_37 (by decide) ?_
  refine sn_iload_n dX9_init_15 rfl ?_
  refine sn_bipush dX9_init_16 ⟨by decide, by decide, by decide⟩ ?_
  refine sn_icmp_gt (tgt := 40) dX9_init_18 (by decide) (fun q => absurd q (by decide)) (fun _ => ?_)
  refine sn_aload_n dX9_init_21 rfl ?_
  refine sn_getR (k := 0) (t := 49) cl_9 fl_X9_11 dX9_init_22 s2_48 (by decide) rfl (by decide) (rfl) ?_
  refine sn_iload_n dX9_init_25 rfl ?_
  refine sm_new (N := 167) (N2 := 168) (kc := 5) (ks := 138) rfl rfl rfl cl_8 wc_59 wc_16 wc_17 dX9_init_26 s2_167 (dv_167) (by decide) ?_
  refine sn_dupr dX9_init_29 ?_
  refine sm_callI (N := 168) (N2 := 170) (kc2 := 2) (ks2 := 66) (kc := 3) (ks := 72) rfl rfl rfl li_7 dX9_init_30 (Nat.le_of_ble_eq_true rfl) (by decide) (by decide) (k_167 d) ?_
  refine sn_aast (a := 49) (b := 167) cl_8 rfl dX9_init_33 s2_49 (by decide) s2_167 (by decide) (by decide) ⟨by decide, by decide⟩ (by decide) ?_
  refine sn_iinc dX9_init_34 (by decide) rfl ?_
  rw [sw_w_id (by decide) (by decide)]
  refine sn_goto (tgt := 15) dX9_init_37 (by decide) ?_
  refine sn_iload_n dX9_init_15 rfl ?_
  refine sn_bipush dX9_init_16 ⟨by decide, by decide, by decide⟩ ?_
  refine sn_icmp_gt (tgt := 40) dX9_init_18 (by decide) (fun q => absurd q (by decide)) (fun _ => ?_)
  refine sn_aload_n dX9_init_21 rfl ?_
  refine sn_getR (k := 0) (t := 49) cl_9 fl_X9_11 dX9_init_22 s2_48 (by decide) rfl (by decide) (rfl) ?_
  refine sn_iload_n dX9_init_25 rfl ?_
  refine sm_new (N := 170) (N2 := 171) (kc := 2) (ks := 66) rfl rfl rfl cl_8 wc_59 wc_16 wc_17 dX9_init_26 s2_170 (dv_170) (by decide) ?_
  refine sn_dupr dX9_init_29 ?_
  refine sm_callI (N := 171) (N2 := 173) (kc2 := 2) (ks2 := 66) (kc := 0) (ks := 0) rfl rfl rfl li_7 dX9_init_30 (Nat.le_of_ble_eq_true rfl) (by decide) (by decide) (k_170 d) ?_
  refine sn_aast (a := 49) (b := 170) cl_8 rfl dX9_init_33 s2_49 (by decide) s2_170 (by decide) (by decide) ⟨by decide, by decide⟩ (by decide) ?_
  refine sn_iinc dX9_init_34 (by decide) rfl ?_
  rw [sw_w_id (by decide) (by decide)]
  refine sn_goto (tgt := 15) dX9_init_37 (by decide) ?_
  refine sn_iload_n dX9_init_15 rfl ?_
  refine sn_bipush dX9_init_16 ⟨by decide, by decide, by decide⟩ ?_
  refine sn_icmp_gt (tgt := 40) dX9_init_18 (by decide) (fun _ => ?_) (fun q => absurd q (by decide))
  exact sn_ret dX9_init_40 rfl (fun hH hdf => ⟨rfl, hH, hdf⟩)
def U_174 (h : sw_H) : sw_H := sw_up (sw_up (h) 174 0 175) 174 2 176
set_option maxRecDepth 20000 in
set_option maxHeartbeats 4000000 in
theorem k_174 {G : sw_G} (d : Nat) {h : sw_H} : sw_N true G 175 (d + 1) mX8_init 0 [some (sw_r 174)] [] h 2 66 (sw_Fx G 177 (U_174 h)) := by
  refine sn_aload_n dX8_init_0 rfl ?_
  refine sn_obj wc_18 wc_1 wc_2 dX8_init_1 (Nat.le_of_ble_eq_true rfl) ?_
  refine sn_aload_n dX8_init_4 rfl ?_
  refine sn_bipush dX8_init_5 ⟨by decide, by decide, by decide⟩ ?_
  refine sm_newa (N := 175) (N2 := 176) (kc := 1) (ks := 42) (t := 0) (atype := .int) rfl rfl rfl rfl s2_175 (by decide) (fun _ => rfl) rfl (fun _ _ h => h) wc_7 dX8_init_7 (by decide) (by decide) (by decide) ?_
  refine sn_putR (k := 0) (t := 175) cl_8 fl_X8_9 dX8_init_9 s2_174 (by decide) rfl (by decide) (Or.inr ⟨rfl, rfl, rfl⟩) (Or.inr ⟨_, rfl⟩) (by decide) ?_
  refine sn_aload_n dX8_init_12 rfl ?_
  refine sn_bipush dX8_init_13 ⟨by decide, by decide, by decide⟩ ?_
  refine sm_newa (N := 176) (N2 := 177) (kc := 0) (ks := 0) (t := 0) (atype := .int) rfl rfl rfl rfl s2_176 (by decide) (fun _ => rfl) rfl (fun _ _ h => h) wc_7 dX8_init_15 (by decide) (by decide) (by decide) ?_
  refine sn_putR (k := 2) (t := 176) cl_8 fl_X8_15 dX8_init_17 s2_174 (by decide) rfl (by decide) (Or.inr ⟨rfl, rfl, rfl⟩) (Or.inr ⟨_, rfl⟩) (by decide) ?_
  exact sn_ret dX8_init_20 rfl (fun hH hdf => ⟨rfl, hH, hdf⟩)
def U_177 (h : sw_H) : sw_H := sw_up (sw_up (sw_up (sw_up (h) 177 0 178) 177 1 179) 177 2 180) 177 3 181
set_option maxRecDepth 20000 in
set_option maxHeartbeats 4000000 in
theorem k_177 {G : sw_G} (d : Nat) {h : sw_H} : sw_N true G 178 (d + 1) mX1_init 0 [some (sw_r 177)] [] h 4 35 (sw_Fx G 182 (U_177 h)) := by
  refine sn_aload_n dX1_init_0 rfl ?_
  refine sn_obj wc_70 wc_1 wc_2 dX1_init_1 (Nat.le_of_ble_eq_true rfl) ?_
  refine sn_aload_n dX1_init_4 rfl ?_
  refine sn_bipush dX1_init_5 ⟨by decide, by decide, by decide⟩ ?_
  refine sm_newa (N := 178) (N2 := 179) (kc := 3) (ks := 16) (t := 0) (atype := .int) rfl rfl rfl rfl s2_178 (by decide) (fun _ => rfl) rfl (fun _ _ h => h) wc_7 dX1_init_7 (by decide) (by decide) (by decide) ?_
  refine sn_putR (k := 0) (t := 178) cl_1 fl_X1_9 dX1_init_9 s2_177 (by decide) rfl (by decide) (Or.inr ⟨rfl, rfl, rfl⟩) (Or.inr ⟨_, rfl⟩) (by decide) ?_
  refine sn_aload_n dX1_init_12 rfl ?_
  refine sn_bipush dX1_init_13 ⟨by decide, by decide, by decide⟩ ?_
  refine sm_newa (N := 179) (N2 := 180) (kc := 2) (ks := 10) (t := 0) (atype := .int) rfl rfl rfl rfl s2_179 (by decide) (fun _ => rfl) rfl (fun _ _ h => h) wc_7 dX1_init_15 (by decide) (by decide) (by decide) ?_
  refine sn_putR (k := 1) (t := 179) cl_1 fl_X1_15 dX1_init_17 s2_177 (by decide) rfl (by decide) (Or.inr ⟨rfl, rfl, rfl⟩) (Or.inr ⟨_, rfl⟩) (by decide) ?_
  refine sn_aload_n dX1_init_20 rfl ?_
  refine sn_iconst dX1_init_21 ⟨by decide, by decide⟩ ?_
  refine sm_newa (N := 180) (N2 := 181) (kc := 1) (ks := 5) (t := 0) (atype := .int) rfl rfl rfl rfl s2_180 (by decide) (fun _ => rfl) rfl (fun _ _ h => h) wc_7 dX1_init_22 (by decide) (by decide) (by decide) ?_
  refine sn_putR (k := 2) (t := 180) cl_1 fl_X1_18 dX1_init_24 s2_177 (by decide) rfl (by decide) (Or.inr ⟨rfl, rfl, rfl⟩) (Or.inr ⟨_, rfl⟩) (by decide) ?_
  refine sn_aload_n dX1_init_27 rfl ?_
  refine sn_iconst dX1_init_28 ⟨by decide, by decide⟩ ?_
  refine sm_newa (N := 181) (N2 := 182) (kc := 0) (ks := 0) (t := 0) (atype := .int) rfl rfl rfl rfl s2_181 (by decide) (fun _ => rfl) rfl (fun _ _ h => h) wc_7 dX1_init_29 (by decide) (by decide) (by decide) ?_
  refine sn_putR (k := 3) (t := 181) cl_1 fl_X1_21 dX1_init_31 s2_177 (by decide) rfl (by decide) (Or.inr ⟨rfl, rfl, rfl⟩) (Or.inr ⟨_, rfl⟩) (by decide) ?_
  exact sn_ret dX1_init_34 rfl (fun hH hdf => ⟨rfl, hH, hdf⟩)
def U_182 (h : sw_H) : sw_H := sw_up (sw_up (sw_up (sw_up (sw_up (sw_up (h) 182 0 183) 182 2 184) 182 3 185) 182 4 186) 182 5 187) 182 6 188
set_option maxRecDepth 20000 in
set_option maxHeartbeats 4000000 in
theorem k_182 {G : sw_G} (d : Nat) {h : sw_H} : sw_N true G 183 (d + 1) mX6_init 0 [some (sw_r 182)] [] h 6 3807 (sw_Fx G 189 (U_182 h)) := by
  refine sn_aload_n dX6_init_0 rfl ?_
  refine sn_obj wc_77 wc_1 wc_2 dX6_init_1 (Nat.le_of_ble_eq_true rfl) ?_
  refine sn_aload_n dX6_init_4 rfl ?_
  refine sn_sipush dX6_init_5 ⟨by decide, by decide, by decide⟩ ?_
  refine sm_newa (N := 183) (N2 := 184) (kc := 5) (ks := 3443) (t := 0) (atype := .int) rfl rfl rfl rfl s2_183 (by decide) (fun _ => rfl) rfl (fun _ _ h => h) wc_7 dX6_init_8 (by decide) (by decide) (by decide) ?_
  refine sn_putR (k := 0) (t := 183) cl_6 fl_X6_11 dX6_init_10 s2_182 (by decide) rfl (by decide) (Or.inr ⟨rfl, rfl, rfl⟩) (Or.inr ⟨_, rfl⟩) (by decide) ?_
  refine sn_aload_n dX6_init_13 rfl ?_
  refine sn_sipush dX6_init_14 ⟨by decide, by decide, by decide⟩ ?_
  refine sm_newa (N := 184) (N2 := 185) (kc := 4) (ks := 2419) (t := 0) (atype := .int) rfl rfl rfl rfl s2_184 (by decide) (fun _ => rfl) rfl (fun _ _ h => h) wc_7 dX6_init_17 (by decide) (by decide) (by decide) ?_
  refine sn_putR (k := 2) (t := 184) cl_6 fl_X6_15 dX6_init_19 s2_182 (by decide) rfl (by decide) (Or.inr ⟨rfl, rfl, rfl⟩) (Or.inr ⟨_, rfl⟩) (by decide) ?_
  refine sn_aload_n dX6_init_22 rfl ?_
  refine sn_sipush dX6_init_23 ⟨by decide, by decide, by decide⟩ ?_
  refine sm_newa (N := 185) (N2 := 186) (kc := 3) (ks := 1395) (t := 0) (atype := .int) rfl rfl rfl rfl s2_185 (by decide) (fun _ => rfl) rfl (fun _ _ h => h) wc_7 dX6_init_26 (by decide) (by decide) (by decide) ?_
  refine sn_putR (k := 3) (t := 185) cl_6 fl_X6_18 dX6_init_28 s2_182 (by decide) rfl (by decide) (Or.inr ⟨rfl, rfl, rfl⟩) (Or.inr ⟨_, rfl⟩) (by decide) ?_
  refine sn_aload_n dX6_init_31 rfl ?_
  refine sn_sipush dX6_init_32 ⟨by decide, by decide, by decide⟩ ?_
  refine sm_newa (N := 186) (N2 := 187) (kc := 2) (ks := 371) (t := 0) (atype := .int) rfl rfl rfl rfl s2_186 (by decide) (fun _ => rfl) rfl (fun _ _ h => h) wc_7 dX6_init_35 (by decide) (by decide) (by decide) ?_
  refine sn_putR (k := 4) (t := 186) cl_6 fl_X6_21 dX6_init_37 s2_182 (by decide) rfl (by decide) (Or.inr ⟨rfl, rfl, rfl⟩) (Or.inr ⟨_, rfl⟩) (by decide) ?_
  refine sn_aload_n dX6_init_40 rfl ?_
  refine sn_bipush dX6_init_41 ⟨by decide, by decide, by decide⟩ ?_
  refine sm_newa (N := 187) (N2 := 188) (kc := 1) (ks := 364) (t := 0) (atype := .int) rfl rfl rfl rfl s2_187 (by decide) (fun _ => rfl) rfl (fun _ _ h => h) wc_7 dX6_init_43 (by decide) (by decide) (by decide) ?_
  refine sn_putR (k := 5) (t := 187) cl_6 fl_X6_24 dX6_init_45 s2_182 (by decide) rfl (by decide) (Or.inr ⟨rfl, rfl, rfl⟩) (Or.inr ⟨_, rfl⟩) (by decide) ?_
  refine sn_aload_n dX6_init_48 rfl ?_
  refine sn_sipush dX6_init_49 ⟨by decide, by decide, by decide⟩ ?_
  refine sm_newa (N := 188) (N2 := 189) (kc := 0) (ks := 0) (t := 0) (atype := .int) rfl rfl rfl rfl s2_188 (by decide) (fun _ => rfl) rfl (fun _ _ h => h) wc_7 dX6_init_52 (by decide) (by decide) (by decide) ?_
  refine sn_putR (k := 6) (t := 188) cl_6 fl_X6_27 dX6_init_54 s2_182 (by decide) rfl (by decide) (Or.inr ⟨rfl, rfl, rfl⟩) (Or.inr ⟨_, rfl⟩) (by decide) ?_
  exact sn_ret dX6_init_57 rfl (fun hH hdf => ⟨rfl, hH, hdf⟩)
def U_190 (h : sw_H) : sw_H := sw_up (sw_up (sw_up (sw_up (sw_up (sw_up (h) 190 8 191) 190 9 192) 190 10 193) 190 11 194) 190 12 195) 190 13 196
set_option maxRecDepth 20000 in
set_option maxHeartbeats 4000000 in
theorem k_190 {G : sw_G} (d : Nat) {h : sw_H} : sw_N true G 191 (d + 1) mX10_init 0 [some (sw_r 190)] [] h 6 24 (sw_Fx G 197 (U_190 h)) := by
  refine sn_aload_n dX10_init_0 rfl ?_
  refine sn_obj wc_40 wc_1 wc_2 dX10_init_1 (Nat.le_of_ble_eq_true rfl) ?_
  refine sn_aload_n dX10_init_4 rfl ?_
  refine sn_iconst dX10_init_5 ⟨by decide, by decide⟩ ?_
  refine sm_newa (N := 191) (N2 := 192) (kc := 5) (ks := 20) (t := 0) (atype := .int) rfl rfl rfl rfl s2_191 (by decide) (fun _ => rfl) rfl (fun _ _ h => h) wc_7 dX10_init_6 (by decide) (by decide) (by decide) ?_
  refine sn_putR (k := 8) (t := 191) cl_10 fl_X10_9 dX10_init_8 s2_190 (by decide) rfl (by decide) (Or.inr ⟨rfl, rfl, rfl⟩) (Or.inr ⟨_, rfl⟩) (by decide) ?_
  refine sn_aload_n dX10_init_11 rfl ?_
  refine sn_iconst dX10_init_12 ⟨by decide, by decide⟩ ?_
  refine sm_newa (N := 192) (N2 := 193) (kc := 4) (ks := 16) (t := 0) (atype := .int) rfl rfl rfl rfl s2_192 (by decide) (fun _ => rfl) rfl (fun _ _ h => h) wc_7 dX10_init_13 (by decide) (by decide) (by decide) ?_
  refine sn_putR (k := 9) (t := 192) cl_10 fl_X10_15 dX10_init_15 s2_190 (by decide) rfl (by decide) (Or.inr ⟨rfl, rfl, rfl⟩) (Or.inr ⟨_, rfl⟩) (by decide) ?_
  refine sn_aload_n dX10_init_18 rfl ?_
  refine sn_iconst dX10_init_19 ⟨by decide, by decide⟩ ?_
  refine sm_newa (N := 193) (N2 := 194) (kc := 3) (ks := 12) (t := 0) (atype := .int) rfl rfl rfl rfl s2_193 (by decide) (fun _ => rfl) rfl (fun _ _ h => h) wc_7 dX10_init_20 (by decide) (by decide) (by decide) ?_
  refine sn_putR (k := 10) (t := 193) cl_10 fl_X10_18 dX10_init_22 s2_190 (by decide) rfl (by decide) (Or.inr ⟨rfl, rfl, rfl⟩) (Or.inr ⟨_, rfl⟩) (by decide) ?_
  refine sn_aload_n dX10_init_25 rfl ?_
  refine sn_iconst dX10_init_26 ⟨by decide, by decide⟩ ?_
  refine sm_newa (N := 194) (N2 := 195) (kc := 2) (ks := 8) (t := 0) (atype := .int) rfl rfl rfl rfl s2_194 (by decide) (fun _ => rfl) rfl (fun _ _ h => h) wc_7 dX10_init_27 (by decide) (by decide) (by decide) ?_
  refine sn_putR (k := 11) (t := 194) cl_10 fl_X10_21 dX10_init_29 s2_190 (by decide) rfl (by decide) (Or.inr ⟨rfl, rfl, rfl⟩) (Or.inr ⟨_, rfl⟩) (by decide) ?_
  refine sn_aload_n dX10_init_32 rfl ?_
  refine sn_iconst dX10_init_33 ⟨by decide, by decide⟩ ?_
  refine sm_newa (N := 195) (N2 := 196) (kc := 1) (ks := 4) (t := 0) (atype := .int) rfl rfl rfl rfl s2_195 (by decide) (fun _ => rfl) rfl (fun _ _ h => h) wc_7 dX10_init_34 (by decide) (by decide) (by decide) ?_
  refine sn_putR (k := 12) (t := 195) cl_10 fl_X10_24 dX10_init_36 s2_190 (by decide) rfl (by decide) (Or.inr ⟨rfl, rfl, rfl⟩) (Or.inr ⟨_, rfl⟩) (by decide) ?_
  refine sn_aload_n dX10_init_39 rfl ?_
  refine sn_iconst dX10_init_40 ⟨by decide, by decide⟩ ?_
  refine sm_newa (N := 196) (N2 := 197) (kc := 0) (ks := 0) (t := 0) (atype := .int) rfl rfl rfl rfl s2_196 (by decide) (fun _ => rfl) rfl (fun _ _ h => h) wc_7 dX10_init_41 (by decide) (by decide) (by decide) ?_
  refine sn_putR (k := 13) (t := 196) cl_10 fl_X10_27 dX10_init_43 s2_190 (by decide) rfl (by decide) (Or.inr ⟨rfl, rfl, rfl⟩) (Or.inr ⟨_, rfl⟩) (by decide) ?_
  exact sn_ret dX10_init_46 rfl (fun hH hdf => ⟨rfl, hH, hdf⟩)
def U_199 (h : sw_H) : sw_H := sw_up (sw_up (h) 199 0 200) 199 2 201
set_option maxRecDepth 20000 in
set_option maxHeartbeats 4000000 in
theorem k_199 {G : sw_G} (d : Nat) {h : sw_H} : sw_N true G 200 (d + 1) mX8_init 0 [some (sw_r 199)] [] h 2 66 (sw_Fx G 202 (U_199 h)) := by
  refine sn_aload_n dX8_init_0 rfl ?_
  refine sn_obj wc_18 wc_1 wc_2 dX8_init_1 (Nat.le_of_ble_eq_true rfl) ?_
  refine sn_aload_n dX8_init_4 rfl ?_
  refine sn_bipush dX8_init_5 ⟨by decide, by decide, by decide⟩ ?_
  refine sm_newa (N := 200) (N2 := 201) (kc := 1) (ks := 42) (t := 0) (atype := .int) rfl rfl rfl rfl s2_200 (by decide) (fun _ => rfl) rfl (fun _ _ h => h) wc_7 dX8_init_7 (by decide) (by decide) (by decide) ?_
  refine sn_putR (k := 0) (t := 200) cl_8 fl_X8_9 dX8_init_9 s2_199 (by decide) rfl (by decide) (Or.inr ⟨rfl, rfl, rfl⟩) (Or.inr ⟨_, rfl⟩) (by decide) ?_
  refine sn_aload_n dX8_init_12 rfl ?_
  refine sn_bipush dX8_init_13 ⟨by decide, by decide, by decide⟩ ?_
  refine sm_newa (N := 201) (N2 := 202) (kc := 0) (ks := 0) (t := 0) (atype := .int) rfl rfl rfl rfl s2_201 (by decide) (fun _ => rfl) rfl (fun _ _ h => h) wc_7 dX8_init_15 (by decide) (by decide) (by decide) ?_
  refine sn_putR (k := 2) (t := 201) cl_8 fl_X8_15 dX8_init_17 s2_199 (by decide) rfl (by decide) (Or.inr ⟨rfl, rfl, rfl⟩) (Or.inr ⟨_, rfl⟩) (by decide) ?_
  exact sn_ret dX8_init_20 rfl (fun hH hdf => ⟨rfl, hH, hdf⟩)
def U_202 (h : sw_H) : sw_H := sw_up (sw_up (h) 202 0 203) 202 2 204
set_option maxRecDepth 20000 in
set_option maxHeartbeats 4000000 in
theorem k_202 {G : sw_G} (d : Nat) {h : sw_H} : sw_N true G 203 (d + 1) mX8_init 0 [some (sw_r 202)] [] h 2 66 (sw_Fx G 205 (U_202 h)) := by
  refine sn_aload_n dX8_init_0 rfl ?_
  refine sn_obj wc_18 wc_1 wc_2 dX8_init_1 (Nat.le_of_ble_eq_true rfl) ?_
  refine sn_aload_n dX8_init_4 rfl ?_
  refine sn_bipush dX8_init_5 ⟨by decide, by decide, by decide⟩ ?_
  refine sm_newa (N := 203) (N2 := 204) (kc := 1) (ks := 42) (t := 0) (atype := .int) rfl rfl rfl rfl s2_203 (by decide) (fun _ => rfl) rfl (fun _ _ h => h) wc_7 dX8_init_7 (by decide) (by decide) (by decide) ?_
  refine sn_putR (k := 0) (t := 203) cl_8 fl_X8_9 dX8_init_9 s2_202 (by decide) rfl (by decide) (Or.inr ⟨rfl, rfl, rfl⟩) (Or.inr ⟨_, rfl⟩) (by decide) ?_
  refine sn_aload_n dX8_init_12 rfl ?_
  refine sn_bipush dX8_init_13 ⟨by decide, by decide, by decide⟩ ?_
  refine sm_newa (N := 204) (N2 := 205) (kc := 0) (ks := 0) (t := 0) (atype := .int) rfl rfl rfl rfl s2_204 (by decide) (fun _ => rfl) rfl (fun _ _ h => h) wc_7 dX8_init_15 (by decide) (by decide) (by decide) ?_
  refine sn_putR (k := 2) (t := 204) cl_8 fl_X8_15 dX8_init_17 s2_202 (by decide) rfl (by decide) (Or.inr ⟨rfl, rfl, rfl⟩) (Or.inr ⟨_, rfl⟩) (by decide) ?_
  exact sn_ret dX8_init_20 rfl (fun hH hdf => ⟨rfl, hH, hdf⟩)
def U_197 (h : sw_H) : sw_H := sw_up (U_202 (sw_up (U_199 (sw_up (h) 197 3 198)) 197 4 199)) 197 5 202
set_option maxRecDepth 20000 in
set_option maxHeartbeats 4000000 in
theorem k_197 {G : sw_G} (d : Nat) {h : sw_H} : sw_N true G 198 (d + 2) mX4_init 0 [some (sw_r 197)] [] h 7 204 (sw_Fx G 205 (U_197 h)) := by
  refine sn_aload_n dX4_init_0 rfl ?_
  refine sn_obj wc_14 wc_1 wc_2 dX4_init_1 (Nat.le_of_ble_eq_true rfl) ?_
  refine sn_aload_n dX4_init_4 rfl ?_
  refine sn_bipush dX4_init_5 ⟨by decide, by decide, by decide⟩ ?_
  refine sm_newa (N := 198) (N2 := 199) (kc := 6) (ks := 144) (t := 0) (atype := .int) rfl rfl rfl rfl s2_198 (by decide) (fun _ => rfl) rfl (fun _ _ h => h) wc_7 dX4_init_7 (by decide) (by decide) (by decide) ?_
  refine sn_putR (k := 3) (t := 198) cl_4 fl_X4_9 dX4_init_9 s2_197 (by decide) rfl (by decide) (Or.inr ⟨rfl, rfl, rfl⟩) (Or.inr ⟨_, rfl⟩) (by decide) ?_
  refine sn_aload_n dX4_init_12 rfl ?_
  refine sm_new (N := 199) (N2 := 200) (kc := 5) (ks := 138) rfl rfl rfl cl_8 wc_15 wc_16 wc_17 dX4_init_13 s2_199 (dv_199) (by decide) ?_
  refine sn_dupr dX4_init_16 ?_
  refine sm_callI (N := 200) (N2 := 202) (kc2 := 2) (ks2 := 66) (kc := 3) (ks := 72) rfl rfl rfl li_1 dX4_init_17 (Nat.le_of_ble_eq_true rfl) (by decide) (by decide) (k_199 d) ?_
  refine sn_putR (k := 4) (t := 199) cl_4 fl_X4_18 dX4_init_20 s2_197 (by decide) rfl (by decide) (Or.inr ⟨rfl, rfl, rfl⟩) (Or.inl ⟨_, rfl⟩) (by decide) ?_
  refine sn_aload_n dX4_init_23 rfl ?_
  refine sm_new (N := 202) (N2 := 203) (kc := 2) (ks := 66) rfl rfl rfl cl_8 wc_15 wc_16 wc_17 dX4_init_24 s2_202 (dv_202) (by decide) ?_
  refine sn_dupr dX4_init_27 ?_
  refine sm_callI (N := 203) (N2 := 205) (kc2 := 2) (ks2 := 66) (kc := 0) (ks := 0) rfl rfl rfl li_1 dX4_init_28 (Nat.le_of_ble_eq_true rfl) (by decide) (by decide) (k_202 d) ?_
  refine sn_putR (k := 5) (t := 202) cl_4 fl_X4_22 dX4_init_31 s2_197 (by decide) rfl (by decide) (Or.inr ⟨rfl, rfl, rfl⟩) (Or.inl ⟨_, rfl⟩) (by decide) ?_
  exact sn_ret dX4_init_34 rfl (fun hH hdf => ⟨rfl, hH, hdf⟩)
def U_205 (h : sw_H) : sw_H := sw_up (sw_up (h) 205 0 206) 205 2 207
set_option maxRecDepth 20000 in
set_option maxHeartbeats 4000000 in
theorem k_205 {G : sw_G} (d : Nat) {h : sw_H} : sw_N true G 206 (d + 1) mX8_init 0 [some (sw_r 205)] [] h 2 66 (sw_Fx G 208 (U_205 h)) := by
  refine sn_aload_n dX8_init_0 rfl ?_
  refine sn_obj wc_18 wc_1 wc_2 dX8_init_1 (Nat.le_of_ble_eq_true rfl) ?_
  refine sn_aload_n dX8_init_4 rfl ?_
  refine sn_bipush dX8_init_5 ⟨by decide, by decide, by decide⟩ ?_
  refine sm_newa (N := 206) (N2 := 207) (kc := 1) (ks := 42) (t := 0) (atype := .int) rfl rfl rfl rfl s2_206 (by decide) (fun _ => rfl) rfl (fun _ _ h => h) wc_7 dX8_init_7 (by decide) (by decide) (by decide) ?_
  refine sn_putR (k := 0) (t := 206) cl_8 fl_X8_9 dX8_init_9 s2_205 (by decide) rfl (by decide) (Or.inr ⟨rfl, rfl, rfl⟩) (Or.inr ⟨_, rfl⟩) (by decide) ?_
  refine sn_aload_n dX8_init_12 rfl ?_
  refine sn_bipush dX8_init_13 ⟨by decide, by decide, by decide⟩ ?_
  refine sm_newa (N := 207) (N2 := 208) (kc := 0) (ks := 0) (t := 0) (atype := .int) rfl rfl rfl rfl s2_207 (by decide) (fun _ => rfl) rfl (fun _ _ h => h) wc_7 dX8_init_15 (by decide) (by decide) (by decide) ?_
  refine sn_putR (k := 2) (t := 207) cl_8 fl_X8_15 dX8_init_17 s2_205 (by decide) rfl (by decide) (Or.inr ⟨rfl, rfl, rfl⟩) (Or.inr ⟨_, rfl⟩) (by decide) ?_
  exact sn_ret dX8_init_20 rfl (fun hH hdf => ⟨rfl, hH, hdf⟩)
def U_189 (h : sw_H) : sw_H := sw_up (sw_up (sw_up (sw_up (sw_up (sw_up (sw_up (sw_up (U_205 (sw_up (U_197 (sw_up (U_190 (h)) 189 0 190)) 189 1 197)) 189 2 205) 189 3 208) 189 4 209) 189 5 210) 189 6 211) 189 7 212) 189 9 213) 189 11 214
set_option maxRecDepth 20000 in
set_option maxHeartbeats 4000000 in
theorem k_189 {G : sw_G} (d : Nat) {h : sw_H} : sw_N true G 190 (d + 3) mX7_init 0 [some (sw_r 189)] [] h 25 500 (sw_Fx G 215 (U_189 h)) := by
  refine sn_aload_n dX7_init_0 rfl ?_
  refine sn_obj wc_84 wc_1 wc_2 dX7_init_1 (Nat.le_of_ble_eq_true rfl) ?_
  refine sn_aload_n dX7_init_4 rfl ?_
  refine sm_new (N := 190) (N2 := 191) (kc := 24) (ks := 486) rfl rfl rfl cl_10 wc_85 wc_38 wc_39 dX7_init_5 s2_190 (dv_190) (by decide) ?_
  refine sn_dupr dX7_init_8 ?_
  refine sm_callI (N := 191) (N2 := 197) (kc2 := 6) (ks2 := 24) (kc := 18) (ks := 462) rfl rfl rfl li_12 dX7_init_9 (Nat.le_of_ble_eq_true rfl) (by decide) (by decide) (k_190 (d + 1)) ?_
  refine sn_putR (k := 0) (t := 190) cl_7 fl_X7_12 dX7_init_12 s2_189 (by decide) rfl (by decide) (Or.inr ⟨rfl, rfl, rfl⟩) (Or.inl ⟨_, rfl⟩) (by decide) ?_
  refine sn_aload_n dX7_init_15 rfl ?_
  refine sm_new (N := 197) (N2 := 198) (kc := 17) (ks := 456) rfl rfl rfl cl_4 wc_87 wc_12 wc_13 dX7_init_16 s2_197 (dv_197) (by decide) ?_
  refine sn_dupr dX7_init_19 ?_
  refine sm_callI (N := 198) (N2 := 205) (kc2 := 7) (ks2 := 204) (kc := 10) (ks := 252) rfl rfl rfl li_13 dX7_init_20 (Nat.le_of_ble_eq_true rfl) (by decide) (by decide) (k_197 d) ?_
  refine sn_putR (k := 1) (t := 197) cl_7 fl_X7_21 dX7_init_23 s2_189 (by decide) rfl (by decide) (Or.inr ⟨rfl, rfl, rfl⟩) (Or.inl ⟨_, rfl⟩) (by decide) ?_
  refine sn_aload_n dX7_init_26 rfl ?_
  refine sm_new (N := 205) (N2 := 206) (kc := 9) (ks := 246) rfl rfl rfl cl_8 wc_89 wc_16 wc_17 dX7_init_27 s2_205 (dv_205) (by decide) ?_
  refine sn_dupr dX7_init_30 ?_
  refine sm_callI (N := 206) (N2 := 208) (kc2 := 2) (ks2 := 66) (kc := 7) (ks := 180) rfl rfl rfl li_14 dX7_init_31 (Nat.le_of_ble_eq_true rfl) (by decide) (by decide) (k_205 (d + 1)) ?_
  refine sn_putR (k := 2) (t := 205) cl_7 fl_X7_28 dX7_init_34 s2_189 (by decide) rfl (by decide) (Or.inr ⟨rfl, rfl, rfl⟩) (Or.inl ⟨_, rfl⟩) (by decide) ?_
  refine sn_aload_n dX7_init_37 rfl ?_
  refine sn_bipush dX7_init_38 ⟨by decide, by decide, by decide⟩ ?_
  refine sm_newa (N := 208) (N2 := 209) (kc := 6) (ks := 150) (t := 0) (atype := .int) rfl rfl rfl rfl s2_208 (by decide) (fun _ => rfl) rfl (fun _ _ h => h) wc_7 dX7_init_40 (by decide) (by decide) (by decide) ?_
  refine sn_putR (k := 3) (t := 208) cl_7 fl_X7_32 dX7_init_42 s2_189 (by decide) rfl (by decide) (Or.inr ⟨rfl, rfl, rfl⟩) (Or.inr ⟨_, rfl⟩) (by decide) ?_
  refine sn_aload_n dX7_init_45 rfl ?_
  refine sn_bipush dX7_init_46 ⟨by decide, by decide, by decide⟩ ?_
  refine sm_newa (N := 209) (N2 := 210) (kc := 5) (ks := 120) (t := 0) (atype := .int) rfl rfl rfl rfl s2_209 (by decide) (fun _ => rfl) rfl (fun _ _ h => h) wc_7 dX7_init_48 (by decide) (by decide) (by decide) ?_
  refine sn_putR (k := 4) (t := 209) cl_7 fl_X7_36 dX7_init_50 s2_189 (by decide) rfl (by decide) (Or.inr ⟨rfl, rfl, rfl⟩) (Or.inr ⟨_, rfl⟩) (by decide) ?_
  refine sn_aload_n dX7_init_53 rfl ?_
  refine sn_bipush dX7_init_54 ⟨by decide, by decide, by decide⟩ ?_
  refine sm_newa (N := 210) (N2 := 211) (kc := 4) (ks := 90) (t := 2) (atype := .boolean) rfl rfl rfl rfl s2_210 (by decide) (fun _ => rfl) rfl (fun _ _ h => h) wc_91 dX7_init_56 (by decide) (by decide) (by decide) ?_
  refine sn_putR (k := 5) (t := 210) cl_7 fl_X7_39 dX7_init_58 s2_189 (by decide) rfl (by decide) (Or.inr ⟨rfl, rfl, rfl⟩) (Or.inr ⟨_, rfl⟩) (by decide) ?_
  refine sn_aload_n dX7_init_61 rfl ?_
  refine sn_bipush dX7_init_62 ⟨by decide, by decide, by decide⟩ ?_
  refine sm_newa (N := 211) (N2 := 212) (kc := 3) (ks := 60) (t := 0) (atype := .int) rfl rfl rfl rfl s2_211 (by decide) (fun _ => rfl) rfl (fun _ _ h => h) wc_7 dX7_init_64 (by decide) (by decide) (by decide) ?_
  refine sn_putR (k := 6) (t := 211) cl_7 fl_X7_43 dX7_init_66 s2_189 (by decide) rfl (by decide) (Or.inr ⟨rfl, rfl, rfl⟩) (Or.inr ⟨_, rfl⟩) (by decide) ?_
  refine sn_aload_n dX7_init_69 rfl ?_
  refine sn_bipush dX7_init_70 ⟨by decide, by decide, by decide⟩ ?_
  refine sm_newa (N := 212) (N2 := 213) (kc := 2) (ks := 30) (t := 0) (atype := .int) rfl rfl rfl rfl s2_212 (by decide) (fun _ => rfl) rfl (fun _ _ h => h) wc_7 dX7_init_72 (by decide) (by decide) (by decide) ?_
  refine sn_putR (k := 7) (t := 212) cl_7 fl_X7_46 dX7_init_74 s2_189 (by decide) rfl (by decide) (Or.inr ⟨rfl, rfl, rfl⟩) (Or.inr ⟨_, rfl⟩) (by decide) ?_
  refine sn_aload_n dX7_init_77 rfl ?_
  refine sn_bipush dX7_init_78 ⟨by decide, by decide, by decide⟩ ?_
  refine sm_newa (N := 213) (N2 := 214) (kc := 1) (ks := 15) (t := 0) (atype := .int) rfl rfl rfl rfl s2_213 (by decide) (fun _ => rfl) rfl (fun _ _ h => h) wc_7 dX7_init_80 (by decide) (by decide) (by decide) ?_
  refine sn_putR (k := 9) (t := 213) cl_7 fl_X7_49 dX7_init_82 s2_189 (by decide) rfl (by decide) (Or.inr ⟨rfl, rfl, rfl⟩) (Or.inr ⟨_, rfl⟩) (by decide) ?_
  refine sn_aload_n dX7_init_85 rfl ?_
  refine sn_bipush dX7_init_86 ⟨by decide, by decide, by decide⟩ ?_
  refine sm_newa (N := 214) (N2 := 215) (kc := 0) (ks := 0) (t := 0) (atype := .int) rfl rfl rfl rfl s2_214 (by decide) (fun _ => rfl) rfl (fun _ _ h => h) wc_7 dX7_init_88 (by decide) (by decide) (by decide) ?_
  refine sn_putR (k := 11) (t := 214) cl_7 fl_X7_52 dX7_init_90 s2_189 (by decide) rfl (by decide) (Or.inr ⟨rfl, rfl, rfl⟩) (Or.inr ⟨_, rfl⟩) (by decide) ?_
  exact sn_ret dX7_init_93 rfl (fun hH hdf => ⟨rfl, hH, hdf⟩)
def U_215 (h : sw_H) : sw_H := sw_up (sw_up (h) 215 0 216) 215 2 217
set_option maxRecDepth 20000 in
set_option maxHeartbeats 4000000 in
theorem k_215 {G : sw_G} (d : Nat) {h : sw_H} : sw_N true G 216 (d + 1) mX8_init 0 [some (sw_r 215)] [] h 2 66 (sw_Fx G 218 (U_215 h)) := by
  refine sn_aload_n dX8_init_0 rfl ?_
  refine sn_obj wc_18 wc_1 wc_2 dX8_init_1 (Nat.le_of_ble_eq_true rfl) ?_
  refine sn_aload_n dX8_init_4 rfl ?_
  refine sn_bipush dX8_init_5 ⟨by decide, by decide, by decide⟩ ?_
  refine sm_newa (N := 216) (N2 := 217) (kc := 1) (ks := 42) (t := 0) (atype := .int) rfl rfl rfl rfl s2_216 (by decide) (fun _ => rfl) rfl (fun _ _ h => h) wc_7 dX8_init_7 (by decide) (by decide) (by decide) ?_
  refine sn_putR (k := 0) (t := 216) cl_8 fl_X8_9 dX8_init_9 s2_215 (by decide) rfl (by decide) (Or.inr ⟨rfl, rfl, rfl⟩) (Or.inr ⟨_, rfl⟩) (by decide) ?_
  refine sn_aload_n dX8_init_12 rfl ?_
  refine sn_bipush dX8_init_13 ⟨by decide, by decide, by decide⟩ ?_
  refine sm_newa (N := 217) (N2 := 218) (kc := 0) (ks := 0) (t := 0) (atype := .int) rfl rfl rfl rfl s2_217 (by decide) (fun _ => rfl) rfl (fun _ _ h => h) wc_7 dX8_init_15 (by decide) (by decide) (by decide) ?_
  refine sn_putR (k := 2) (t := 217) cl_8 fl_X8_15 dX8_init_17 s2_215 (by decide) rfl (by decide) (Or.inr ⟨rfl, rfl, rfl⟩) (Or.inr ⟨_, rfl⟩) (by decide) ?_
  exact sn_ret dX8_init_20 rfl (fun hH hdf => ⟨rfl, hH, hdf⟩)
def U_218 (h : sw_H) : sw_H := sw_up (sw_up (h) 218 0 219) 218 2 220
set_option maxRecDepth 20000 in
set_option maxHeartbeats 4000000 in
theorem k_218 {G : sw_G} (d : Nat) {h : sw_H} : sw_N true G 219 (d + 1) mX8_init 0 [some (sw_r 218)] [] h 2 66 (sw_Fx G 221 (U_218 h)) := by
  refine sn_aload_n dX8_init_0 rfl ?_
  refine sn_obj wc_18 wc_1 wc_2 dX8_init_1 (Nat.le_of_ble_eq_true rfl) ?_
  refine sn_aload_n dX8_init_4 rfl ?_
  refine sn_bipush dX8_init_5 ⟨by decide, by decide, by decide⟩ ?_
  refine sm_newa (N := 219) (N2 := 220) (kc := 1) (ks := 42) (t := 0) (atype := .int) rfl rfl rfl rfl s2_219 (by decide) (fun _ => rfl) rfl (fun _ _ h => h) wc_7 dX8_init_7 (by decide) (by decide) (by decide) ?_
  refine sn_putR (k := 0) (t := 219) cl_8 fl_X8_9 dX8_init_9 s2_218 (by decide) rfl (by decide) (Or.inr ⟨rfl, rfl, rfl⟩) (Or.inr ⟨_, rfl⟩) (by decide) ?_
  refine sn_aload_n dX8_init_12 rfl ?_
  refine sn_bipush dX8_init_13 ⟨by decide, by decide, by decide⟩ ?_
  refine sm_newa (N := 220) (N2 := 221) (kc := 0) (ks := 0) (t := 0) (atype := .int) rfl rfl rfl rfl s2_220 (by decide) (fun _ => rfl) rfl (fun _ _ h => h) wc_7 dX8_init_15 (by decide) (by decide) (by decide) ?_
  refine sn_putR (k := 2) (t := 220) cl_8 fl_X8_15 dX8_init_17 s2_218 (by decide) rfl (by decide) (Or.inr ⟨rfl, rfl, rfl⟩) (Or.inr ⟨_, rfl⟩) (by decide) ?_
  exact sn_ret dX8_init_20 rfl (fun hH hdf => ⟨rfl, hH, hdf⟩)
def U_221 (h : sw_H) : sw_H := sw_up (sw_up (h) 221 0 222) 221 2 223
set_option maxRecDepth 20000 in
set_option maxHeartbeats 4000000 in
theorem k_221 {G : sw_G} (d : Nat) {h : sw_H} : sw_N true G 222 (d + 1) mX8_init 0 [some (sw_r 221)] [] h 2 66 (sw_Fx G 224 (U_221 h)) := by
  refine sn_aload_n dX8_init_0 rfl ?_
  refine sn_obj wc_18 wc_1 wc_2 dX8_init_1 (Nat.le_of_ble_eq_true rfl) ?_
  refine sn_aload_n dX8_init_4 rfl ?_
  refine sn_bipush dX8_init_5 ⟨by decide, by decide, by decide⟩ ?_
  refine sm_newa (N := 222) (N2 := 223) (kc := 1) (ks := 42) (t := 0) (atype := .int) rfl rfl rfl rfl s2_222 (by decide) (fun _ => rfl) rfl (fun _ _ h => h) wc_7 dX8_init_7 (by decide) (by decide) (by decide) ?_
  refine sn_putR (k := 0) (t := 222) cl_8 fl_X8_9 dX8_init_9 s2_221 (by decide) rfl (by decide) (Or.inr ⟨rfl, rfl, rfl⟩) (Or.inr ⟨_, rfl⟩) (by decide) ?_
  refine sn_aload_n dX8_init_12 rfl ?_
  refine sn_bipush dX8_init_13 ⟨by decide, by decide, by decide⟩ ?_
  refine sm_newa (N := 223) (N2 := 224) (kc := 0) (ks := 0) (t := 0) (atype := .int) rfl rfl rfl rfl s2_223 (by decide) (fun _ => rfl) rfl (fun _ _ h => h) wc_7 dX8_init_15 (by decide) (by decide) (by decide) ?_
  refine sn_putR (k := 2) (t := 223) cl_8 fl_X8_15 dX8_init_17 s2_221 (by decide) rfl (by decide) (Or.inr ⟨rfl, rfl, rfl⟩) (Or.inr ⟨_, rfl⟩) (by decide) ?_
  exact sn_ret dX8_init_20 rfl (fun hH hdf => ⟨rfl, hH, hdf⟩)
def U_0 (h : sw_H) : sw_H := sw_up (U_221 (sw_up (U_218 (sw_up (U_215 (sw_up (sw_up (U_189 (sw_up (U_182 (sw_up (U_177 (sw_up (U_174 (sw_up (sw_up (U_48 (sw_up (U_33 (sw_up (U_25 (sw_up (U_13 (sw_up (U_1 (h)) 0 1 1)) 0 2 13)) 0 3 25)) 0 4 33)) 0 5 48) 0 6 173)) 0 8 174)) 0 9 177)) 0 10 182)) 0 11 189) 0 14 (-1))) 173 0 215)) 173 1 218)) 173 2 221
set_option maxRecDepth 20000 in
set_option maxHeartbeats 4000000 in
theorem k_0 {G : sw_G} (d : Nat) {h : sw_H} : sw_N true G 1 (d + 4) mX11_init 0 [some (sw_r 0), none] [] h 223 10538 (sw_Fx G 224 (U_0 h)) := by
  refine sn_aload_n dX11_init_0 rfl ?_
  refine sn_obj wc_0 wc_1 wc_2 dX11_init_1 (Nat.le_of_ble_eq_true rfl) ?_
  refine sn_aload_n dX11_init_4 rfl ?_
  refine sm_new (N := 1) (N2 := 2) (kc := 222) (ks := 10522) rfl rfl rfl cl_0 wc_3 wc_4 wc_5 dX11_init_5 s2_1 (dv_1) (by decide) ?_
  refine sn_dupr dX11_init_8 ?_
  refine sm_callI (N := 2) (N2 := 13) (kc2 := 11) (ks2 := 334) (kc := 211) (ks := 10188) rfl rfl rfl li_0 dX11_init_9 (Nat.le_of_ble_eq_true rfl) (by decide) (by decide) (k_1 (d + 2)) ?_
  refine sn_putR (k := 1) (t := 1) cl_11 fl_X11_10 dX11_init_12 s2_0 (by decide) rfl (by decide) (Or.inl rfl) (Or.inl ⟨_, rfl⟩) (by decide) ?_
  refine sn_aload_n dX11_init_15 rfl ?_
  refine sm_new (N := 13) (N2 := 14) (kc := 210) (ks := 10172) rfl rfl rfl cl_0 wc_3 wc_4 wc_5 dX11_init_16 s2_13 (dv_13) (by decide) ?_
  refine sn_dupr dX11_init_19 ?_
  refine sm_callI (N := 14) (N2 := 25) (kc2 := 11) (ks2 := 334) (kc := 199) (ks := 9838) rfl rfl rfl li_0 dX11_init_20 (Nat.le_of_ble_eq_true rfl) (by decide) (by decide) (k_13 (d + 2)) ?_
  refine sn_putR (k := 2) (t := 13) cl_11 fl_X11_16 dX11_init_23 s2_0 (by decide) rfl (by decide) (Or.inl rfl) (Or.inl ⟨_, rfl⟩) (by decide) ?_
  refine sn_aload_n dX11_init_26 rfl ?_
  refine sm_new (N := 25) (N2 := 26) (kc := 198) (ks := 9832) rfl rfl rfl cl_4 wc_11 wc_12 wc_13 dX11_init_27 s2_25 (dv_25) (by decide) ?_
  refine sn_dupr dX11_init_30 ?_
  refine sm_callI (N := 26) (N2 := 33) (kc2 := 7) (ks2 := 204) (kc := 191) (ks := 9628) rfl rfl rfl li_2 dX11_init_31 (Nat.le_of_ble_eq_true rfl) (by decide) (by decide) (k_25 (d + 1)) ?_
  refine sn_putR (k := 3) (t := 25) cl_11 fl_X11_22 dX11_init_34 s2_0 (by decide) rfl (by decide) (Or.inr ⟨rfl, rfl, rfl⟩) (Or.inl ⟨_, rfl⟩) (by decide) ?_
  refine sn_aload_n dX11_init_37 rfl ?_
  refine sm_new (N := 33) (N2 := 34) (kc := 190) (ks := 9618) rfl rfl rfl cl_3 wc_25 wc_26 wc_27 dX11_init_38 s2_33 (dv_33) (by decide) ?_
  refine sn_dupr dX11_init_41 ?_
  refine sm_callI (N := 34) (N2 := 48) (kc2 := 14) (ks2 := 1963) (kc := 176) (ks := 7655) rfl rfl rfl li_6 dX11_init_42 (Nat.le_of_ble_eq_true rfl) (by decide) (by decide) (k_33 (d + 1)) ?_
  refine sn_putR (k := 4) (t := 33) cl_11 fl_X11_29 dX11_init_45 s2_0 (by decide) rfl (by decide) (Or.inr ⟨rfl, rfl, rfl⟩) (Or.inl ⟨_, rfl⟩) (by decide) ?_
  refine sn_aload_n dX11_init_48 rfl ?_
  refine sm_new (N := 48) (N2 := 49) (kc := 175) (ks := 7651) rfl rfl rfl cl_9 wc_55 wc_56 wc_57 dX11_init_49 s2_48 (dv_48) (by decide) ?_
  refine sn_dupr dX11_init_52 ?_
  refine sm_callI (N := 49) (N2 := 173) (kc2 := 124) (ks2 := 2993) (kc := 51) (ks := 4658) rfl rfl rfl li_8 dX11_init_53 (Nat.le_of_ble_eq_true rfl) (by decide) (by decide) (k_48 (d + 1)) ?_
  refine sn_putR (k := 5) (t := 48) cl_11 fl_X11_36 dX11_init_56 s2_0 (by decide) rfl (by decide) (Or.inr ⟨rfl, rfl, rfl⟩) (Or.inl ⟨_, rfl⟩) (by decide) ?_
  refine sn_aload_n dX11_init_59 rfl ?_
  refine sn_iconst dX11_init_60 ⟨by decide, by decide⟩ ?_
  refine sm_anew (N := 173) (N2 := 174) (kc := 50) (ks := 4655) rfl rfl rfl rfl s2_173 wc_65 wc_60 dX11_init_61 (by decide) (by decide) ?_
  refine sn_putR (k := 6) (t := 173) cl_11 fl_X11_42 dX11_init_64 s2_0 (by decide) rfl (by decide) (Or.inr ⟨rfl, rfl, rfl⟩) (Or.inr ⟨_, rfl⟩) (by decide) ?_
  refine sn_aload_n dX11_init_67 rfl ?_
  refine sm_new (N := 174) (N2 := 175) (kc := 49) (ks := 4649) rfl rfl rfl cl_8 wc_65 wc_16 wc_17 dX11_init_68 s2_174 (dv_174) (by decide) ?_
  refine sn_dupr dX11_init_71 ?_
  refine sm_callI (N := 175) (N2 := 177) (kc2 := 2) (ks2 := 66) (kc := 47) (ks := 4583) rfl rfl rfl li_9 dX11_init_72 (Nat.le_of_ble_eq_true rfl) (by decide) (by decide) (k_174 (d + 2)) ?_
  refine sn_putR (k := 8) (t := 174) cl_11 fl_X11_47 dX11_init_75 s2_0 (by decide) rfl (by decide) (Or.inr ⟨rfl, rfl, rfl⟩) (Or.inl ⟨_, rfl⟩) (by decide) ?_
  refine sn_aload_n dX11_init_78 rfl ?_
  refine sm_new (N := 177) (N2 := 178) (kc := 46) (ks := 4579) rfl rfl rfl cl_1 wc_67 wc_68 wc_69 dX11_init_79 s2_177 (dv_177) (by decide) ?_
  refine sn_dupr dX11_init_82 ?_
  refine sm_callI (N := 178) (N2 := 182) (kc2 := 4) (ks2 := 35) (kc := 42) (ks := 4544) rfl rfl rfl li_10 dX11_init_83 (Nat.le_of_ble_eq_true rfl) (by decide) (by decide) (k_177 (d + 2)) ?_
  refine sn_putR (k := 9) (t := 177) cl_11 fl_X11_54 dX11_init_86 s2_0 (by decide) rfl (by decide) (Or.inr ⟨rfl, rfl, rfl⟩) (Or.inl ⟨_, rfl⟩) (by decide) ?_
  refine sn_aload_n dX11_init_89 rfl ?_
  refine sm_new (N := 182) (N2 := 183) (kc := 41) (ks := 4535) rfl rfl rfl cl_6 wc_74 wc_75 wc_76 dX11_init_90 s2_182 (dv_182) (by decide) ?_
  refine sn_dupr dX11_init_93 ?_
  refine sm_callI (N := 183) (N2 := 189) (kc2 := 6) (ks2 := 3807) (kc := 35) (ks := 728) rfl rfl rfl li_11 dX11_init_94 (Nat.le_of_ble_eq_true rfl) (by decide) (by decide) (k_182 (d + 2)) ?_
  refine sn_putR (k := 10) (t := 182) cl_11 fl_X11_61 dX11_init_97 s2_0 (by decide) rfl (by decide) (Or.inr ⟨rfl, rfl, rfl⟩) (Or.inl ⟨_, rfl⟩) (by decide) ?_
  refine sn_aload_n dX11_init_100 rfl ?_
  refine sm_new (N := 189) (N2 := 190) (kc := 34) (ks := 716) rfl rfl rfl cl_7 wc_81 wc_82 wc_83 dX11_init_101 s2_189 (dv_189) (by decide) ?_
  refine sn_dupr dX11_init_104 ?_
  refine sm_callI (N := 190) (N2 := 215) (kc2 := 25) (ks2 := 500) (kc := 9) (ks := 216) rfl rfl rfl li_15 dX11_init_105 (Nat.le_of_ble_eq_true rfl) (by decide) (by decide) (k_189 d) ?_
  refine sn_putR (k := 11) (t := 189) cl_11 fl_X11_68 dX11_init_108 s2_0 (by decide) rfl (by decide) (Or.inr ⟨rfl, rfl, rfl⟩) (Or.inl ⟨_, rfl⟩) (by decide) ?_
  refine sn_aload_n dX11_init_111 rfl ?_
  refine sn_iconst dX11_init_112 ⟨by decide, by decide⟩ ?_
  refine sn_putI (k := 14) (z := -1) cl_11 fl_X11_72 dX11_init_113 s2_0 (by decide) rfl (by decide) (Or.inl rfl) rfl ?_
  refine sn_iconst dX11_init_116 ⟨by decide, by decide⟩ ?_
  refine sn_istore_n dX11_init_117 (by decide) ?_
  refine sn_iload_n dX11_init_118 rfl ?_
  refine sn_iconst dX11_init_119 ⟨by decide, by decide⟩ ?_
  refine sn_icmp_ge (tgt := 142) dX11_init_120 (by decide) (fun q => absurd q (by decide)) (fun _ => ?_)
  refine sn_aload_n dX11_init_123 rfl ?_
  refine sn_getR (k := 6) (t := 173) cl_11 fl_X11_42 dX11_init_124 s2_0 (by decide) rfl (by decide) (rfl) ?_
  refine sn_iload_n dX11_init_127 rfl ?_
  refine sm_new (N := 215) (N2 := 216) (kc := 8) (ks := 210) rfl rfl rfl cl_8 wc_65 wc_16 wc_17 dX11_init_128 s2_215 (dv_215) (by decide) ?_
  refine sn_dupr dX11_init_131 ?_
  refine sm_callI (N := 216) (N2 := 218) (kc2 := 2) (ks2 := 66) (kc := 6) (ks := 144) rfl rfl rfl li_9 dX11_init_132 (Nat.le_of_ble_eq_true rfl) (by decide) (by decide) (k_215 (d + 2)) ?_
  refine sn_aast (a := 173) (b := 215) cl_8 rfl dX11_init_135 s2_173 (by decide) s2_215 (by decide) (by decide) ⟨by decide, by decide⟩ (by decide) ?_
  refine sn_iinc dX11_init_136 (by decide) rfl ?_
  rw [sw_w_id (by decide) (by decide)]
  refine sn_goto (tgt := 118) dX11_init_139 (by decide) ?_
  refine sn_iload_n dX11_init_118 rfl ?_
  refine sn_iconst dX11_init_119 ⟨by decide, by decide⟩ ?_
  refine sn_icmp_ge (tgt := 142) dX11_init_120 (by decide) (fun q => absurd q (by decide)) (fun _ => ?_)
  refine sn_aload_n dX11_init_123 rfl ?_
  refine sn_getR (k := 6) (t := 173) cl_11 fl_X11_42 dX11_init_124 s2_0 (by decide) rfl (by decide) (rfl) ?_
  refine sn_iload_n dX11_init_127 rfl ?_
  refine sm_new (N := 218) (N2 := 219) (kc := 5) (ks := 138) rfl rfl rfl cl_8 wc_65 wc_16 wc_17 dX11_init_128 s2_218 (dv_218) (by decide) ?_
  refine sn_dupr dX11_init_131 ?_
  refine sm_callI (N := 219) (N2 := 221) (kc2 := 2) (ks2 := 66) (kc := 3) (ks := 72) rfl rfl rfl li_9 dX11_init_132 (Nat.le_of_ble_eq_true rfl) (by decide) (by decide) (k_218 (d + 2)) ?_
  refine sn_aast (a := 173) (b := 218) cl_8 rfl dX11_init_135 s2_173 (by decide) s2_218 (by decide) (by decide) ⟨by decide, by decide⟩ (by decide) ?_
  refine sn_iinc dX11_init_136 (by decide) rfl ?_
  rw [sw_w_id (by decide) (by decide)]
  refine sn_goto (tgt := 118) dX11_init_139 (by decide) ?_
  refine sn_iload_n dX11_init_118 rfl ?_
  refine sn_iconst dX11_init_119 ⟨by decide, by decide⟩ ?_
  refine sn_icmp_ge (tgt := 142) dX11_init_120 (by decide) (fun q => absurd q (by decide)) (fun _ => ?_)
  refine sn_aload_n dX11_init_123 rfl ?_
  refine sn_getR (k := 6) (t := 173) cl_11 fl_X11_42 dX11_init_124 s2_0 (by decide) rfl (by decide) (rfl) ?_
  refine sn_iload_n dX11_init_127 rfl ?_
  refine sm_new (N := 221) (N2 := 222) (kc := 2) (ks := 66) rfl rfl rfl cl_8 wc_65 wc_16 wc_17 dX11_init_128 s2_221 (dv_221) (by decide) ?_
  refine sn_dupr dX11_init_131 ?_
  refine sm_callI (N := 222) (N2 := 224) (kc2 := 2) (ks2 := 66) (kc := 0) (ks := 0) rfl rfl rfl li_9 dX11_init_132 (Nat.le_of_ble_eq_true rfl) (by decide) (by decide) (k_221 (d + 2)) ?_
  refine sn_aast (a := 173) (b := 221) cl_8 rfl dX11_init_135 s2_173 (by decide) s2_221 (by decide) (by decide) ⟨by decide, by decide⟩ (by decide) ?_
  refine sn_iinc dX11_init_136 (by decide) rfl ?_
  rw [sw_w_id (by decide) (by decide)]
  refine sn_goto (tgt := 118) dX11_init_139 (by decide) ?_
  refine sn_iload_n dX11_init_118 rfl ?_
  refine sn_iconst dX11_init_119 ⟨by decide, by decide⟩ ?_
  refine sn_icmp_ge (tgt := 142) dX11_init_120 (by decide) (fun _ => ?_) (fun q => absurd q (by decide))
  exact sn_ret dX11_init_142 rfl (fun hH hdf => ⟨rfl, hH, hdf⟩)
def U_224 (h : sw_H) : sw_H := sw_up (sw_up (sw_up (sw_up (sw_up (sw_up (sw_up (sw_up (sw_up (sw_up (sw_up (sw_up (sw_up (sw_up (sw_up (sw_up (sw_up (sw_up (sw_up (sw_up (sw_up (sw_up (sw_up (sw_up (sw_up (sw_up (sw_up (sw_up (sw_up (sw_up (sw_up (sw_up (sw_up (sw_up (sw_up (sw_up (sw_up (sw_up (sw_up (sw_up (sw_up (sw_up (sw_up (sw_up (sw_up (sw_up (sw_up (sw_up (sw_up (sw_up (sw_up (sw_up (sw_up (sw_up (sw_up (sw_up (sw_up (sw_up (sw_up (sw_up (sw_up (sw_up (sw_up (sw_up (sw_up (sw_up (sw_up (sw_up (h) 224 0 225) 224 1 226) 224 5 (-1)) 224 11 227) 224 12 228) 224 13 229) 224 14 230) 224 15 231) 224 16 232) 224 17 233) 224 18 234) 224 19 235) 224 20 236) 224 21 237) 224 22 238) 224 23 239) 224 24 240) 224 25 241) 224 26 242) 224 27 243) 224 28 244) 224 29 245) 224 30 246) 224 31 247) 224 32 248) 224 33 249) 224 34 250) 224 35 251) 224 42 252) 224 43 253) 224 44 254) 224 45 255) 224 46 256) 224 47 257) 224 48 258) 224 49 259) 224 50 260) 224 61 261) 224 62 262) 224 63 263) 224 64 264) 224 65 265) 224 66 266) 224 71 (-1)) 224 72 267) 224 75 268) 224 76 269) 224 77 270) 224 78 271) 224 80 272) 224 81 273) 224 82 274) 224 85 (-1)) 224 86 275) 224 87 276) 224 88 277) 224 89 278) 224 90 279) 224 91 280) 224 92 281) 224 93 282) 224 94 283) 224 95 284) 224 96 285) 224 97 286) 224 98 287) 224 101 288) 224 102 289

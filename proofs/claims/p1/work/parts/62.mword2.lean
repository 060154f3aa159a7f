-- ===== the reading of a CODE =====
theorem RBx_fr {h h1 : sw_H} {r w X : Int} (hr : 0 ≤ r) (e1 : ∀ a k, 233 ≤ a → a ≤ 237 → h1 a k = h a k) (e2 : ∀ a k, a = 240 ∨ a = 241 ∨ a = 243 → h1 a k = h a k) (R : RBx h r w X) : RBx h1 r w X := RBx_frame hr ⟨fun a k q1 q2 _ _ => e1 a k q1 q2, fun a k q _ _ => e2 a k q⟩ R
def LnI (h : sw_H) (r : Int) : Prop := RBx h r (h 227 r.toNat) (h 228 r.toNat) ∧ 560 * r ≤ h 224 38 ∧ h 224 38 - 560 * r ≤ 9 * h 229 r.toNat
theorem RR_eq {h h1 : sw_H} {r : Int} (hr : 0 ≤ r) (e4 : h1 244 r.toNat = h 244 r.toNat) (e5 : h1 245 r.toNat = h 245 r.toNat) (e7 : ∀ k : Nat, 560 * r ≤ k → (k : Int) < 560 * r + 560 → h1 247 k = h 247 k) (k : RR h r) : RR h1 r := by
  unfold RR
  rw [e4, e5]
  intro q
  obtain ⟨k1, k2, k3⟩ := k q
  exact ⟨k1, k2, dOK_congr (fun j hj => (e7 _ (by omega) (by omega)).symm) k3⟩
theorem prB_bk {b : Nat} {fs as : List Nat} {a k : Nat} (h : bk b a k = true) : prB b fs as a k = true := by
  unfold prB
  rw [h, Bool.or_true]
theorem bk_1 {b a : Nat} (h : (227 ≤ a ∧ a ≤ 232) ∨ a = 244 ∨ a = 245) : bk b a b = true := by
  unfold bk
  rw [if_neg (by omega)]
  rcases h with h | h | h
  · rw [if_pos (by omega)]; exact beq_self_eq_true b
  · rw [if_neg (by omega), if_neg (by omega), if_neg (by omega), if_pos (by omega)]; exact beq_self_eq_true b
  · rw [if_neg (by omega), if_neg (by omega), if_neg (by omega), if_pos (by omega)]; exact beq_self_eq_true b
theorem bk_6 {b a k : Nat} (h : 233 ≤ a ∧ a ≤ 239) (hk : 6 * b ≤ k ∧ k < 6 * b + 6) : bk b a k = true := by
  unfold bk
  rw [if_neg (by omega), if_neg (by omega), if_pos (by omega)]
  exact decide_eq_true hk
theorem bk_60 {b a k : Nat} (h : 240 ≤ a ∧ a ≤ 243) (hk : 60 * b ≤ k ∧ k < 60 * b + 60) : bk b a k = true := by
  unfold bk
  rw [if_neg (by omega), if_neg (by omega), if_neg (by omega), if_pos (by omega)]
  exact decide_eq_true hk
theorem bk_560 {b k : Nat} (hk : 560 * b ≤ k ∧ k < 560 * b + 560) : bk b 247 k = true := by
  unfold bk
  rw [if_neg (by omega), if_neg (by omega), if_neg (by omega), if_neg (by omega), if_neg (by omega), if_neg (by omega), if_pos (by omega)]
  exact decide_eq_true hk
/-- the CODE: both rows of codes, the WORDS of the bank in use -/
def mC (h : sw_H) : Prop := RR h 0 ∧ RR h 1 ∧ RBx h (h 224 36) (h 227 (h 224 36).toNat) (h 228 (h 224 36).toNat)
/-- what holds between calls -/
def mB (h : sw_H) : Prop := mC h ∧ h 224 71 = -1 ∧ h 224 73 + h 224 74 ≤ 40 ∧ h 224 85 = -1
/-- the bank in use stays while the other one is read -/
theorem mC_keep {b : Nat} {fs as : List Nat} {h h1 : sw_H} (K : mK (prB b fs as) h h1) (hJ : mI h) (hb : b ≤ 1) (R : RBx h b (h 227 b) (h 228 b)) (Q : RR h b) : RBx h1 b (h1 227 b) (h1 228 b) ∧ RR h1 b := by
  have e1 : ∀ a, ((227 ≤ a ∧ a ≤ 232) ∨ a = 244 ∨ a = 245) → h1 a b = h a b := fun a q => K.2 a b (prB_bk (bk_1 q))
  have r7 : (0 : Int) ≤ h 227 b ∧ h 227 b ≤ 6 := hJ 227 b
  have r8 : (0 : Int) ≤ h 228 b ∧ h 228 b ≤ 60 := hJ 228 b
  rw [e1 227 (by omega), e1 228 (by omega)]
  refine ⟨RBx_frame (by omega) ⟨fun a k q1 q2 q3 q4 => K.2 a k (prB_bk (bk_6 (by omega) (by omega))), fun a k q q3 q4 => K.2 a k (prB_bk (bk_60 (by omega) (by omega)))⟩ R, ?_⟩
  refine RR_eq (by omega) ?_ ?_ (fun k q1 q2 => K.2 247 k (prB_bk (bk_560 (by omega)))) Q
  · rw [show (b : Int).toNat = b by omega]; exact e1 244 (by omega)
  · rw [show (b : Int).toNat = b by omega]; exact e1 245 (by omega)
theorem mC_cd {h h1 : sw_H} (e : ∀ a k, (a = 224 ∧ k = 36) ∨ (227 ≤ a ∧ a ≤ 248) → h1 a k = h a k) (hJ : mI h) (k : mC h) : mC h1 := by
  obtain ⟨k1, k2, k3⟩ := k
  have r : (0 : Int) ≤ h 224 36 ∧ h 224 36 ≤ 1 := hJ 224 36
  refine ⟨RR_eq (by decide) (e _ _ (by omega)) (e _ _ (by omega)) (fun j _ _ => e _ _ (by omega)) k1, RR_eq (by decide) (e _ _ (by omega)) (e _ _ (by omega)) (fun j _ _ => e _ _ (by omega)) k2, ?_⟩
  rw [e 224 36 (by omega), e 227 _ (by omega), e 228 _ (by omega)]
  exact RBx_fr (by omega) (fun a k q1 q2 => e a k (by omega)) (fun a k q => e a k (by omega)) k3
/-- a method that leaves the CODE as it is -/
theorem mC_mK {fs as : List Nat} {h h1 : sw_H} (K : mK (prW fs as) h h1) (hf : fs.all (fun x => !(x == 36)) = true) (ha : as.all (fun x => decide (x ≠ 224 ∧ (x < 227 ∨ 248 < x))) = true) (hJ : mI h) (k : mC h) : mC h1 := by
  refine mC_cd (fun a j q => K.2 a j ?_) hJ k
  rw [List.all_eq_true] at hf ha
  simp only [prW, Bool.not_eq_true', Bool.or_eq_false_iff, Bool.and_eq_false_iff, beq_eq_false_iff_ne, ne_eq]
  refine ⟨?_, ?_⟩
  · by_cases e : a = 224
    · right
      cases c : fs.contains j with
      | false => rfl
      | true =>
        have := hf j (List.contains_iff_mem.mp c)
        simp only [Bool.not_eq_true', beq_eq_false_iff_ne, ne_eq] at this
        omega
    · exact Or.inl e
  · cases c : as.contains a with
    | false => rfl
    | true => have := of_decide_eq_true (ha a (List.contains_iff_mem.mp c)); omega
theorem mB_mK {fs as : List Nat} {h h1 : sw_H} (K : mK (prW fs as) h h1) (hf : fs.all (fun x => !(x == 36 || x == 71 || x == 73 || x == 74 || x == 85)) = true) (ha : as.all (fun x => decide (x ≠ 224 ∧ (x < 227 ∨ 248 < x))) = true) (hJ : mI h) (k : mB h) : mB h1 := by
  have p : ∀ j, j = 36 ∨ j = 71 ∨ j = 73 ∨ j = 74 ∨ j = 85 → h1 224 j = h 224 j := by
    intro j hj
    refine K.2 224 j ?_
    rw [List.all_eq_true] at hf ha
    simp only [prW, Bool.not_eq_true', Bool.or_eq_false_iff, Bool.and_eq_false_iff, beq_eq_false_iff_ne, ne_eq]
    refine ⟨Or.inr ?_, ?_⟩
    · cases c : fs.contains j with
      | false => rfl
      | true =>
        have := hf j (List.contains_iff_mem.mp c)
        simp only [Bool.not_eq_true', Bool.or_eq_false_iff, beq_eq_false_iff_ne, ne_eq] at this
        omega
    · cases c : as.contains 224 with
      | false => rfl
      | true => have := of_decide_eq_true (ha 224 (List.contains_iff_mem.mp c)); omega
  refine ⟨mC_mK K ?_ ha hJ k.1, by rw [p 71 (by omega)]; exact k.2.1, by rw [p 73 (by omega), p 74 (by omega)]; exact k.2.2.1, by rw [p 85 (by omega)]; exact k.2.2.2⟩
  rw [List.all_eq_true] at hf ⊢
  intro x hx
  have := hf x hx
  simp only [Bool.not_eq_true', Bool.or_eq_false_iff, beq_eq_false_iff_ne, ne_eq] at this ⊢
  exact this.1.1.1.1
theorem RI_ge {h : sw_H} {r w : Int} {i : Nat} (R : RI h r w i) : 0 ≤ h 224 55 ∧ 0 ≤ h 224 54 := by
  obtain ⟨-, -, -, -, -, -, -, Hq, Uq, hq⟩ := R
  obtain ⟨l1, l2, l3, l4, l5, l6, l7, l8, l9, l10, l11, l12, l13⟩ := hq
  have l11' := l11 i (Nat.le_refl i)
  exact ⟨by omega, by omega⟩

set_option maxRecDepth 20000 in
set_option maxHeartbeats 4000000 in
theorem rt3_readWord {G : sw_G} (d : Nat) {h0 hz : sw_H} (hJ : mI h0) (b : Nat) (Ihz : mK (prB b [4, 5, 6, 7, 8, 9, 10, 52, 53, 54, 55, 56, 57, 58] [227, 228, 233, 234, 235, 236, 237, 238, 239, 240, 241, 242, 243, 246, 252, 253, 254, 255, 256, 257, 258, 259, 260]) h0 hz) (w : Int) (y1 nm : Int) (hr : hz 224 37 = 1 - (b : Int) ∧ b ≤ 1) (ja1 : hz 224 7 ≤ hz 224 3 ∧ (hz 224 8 = 0 → hz 224 7 = hz 224 3)) (ja2 : h0 224 7 ≤ hz 224 7 ∧ (h0 224 8 = 0 → hz 224 8 = 0)) (hy : y1 = 6 * (1 - (b : Int)) + w) (hw : 0 ≤ w ∧ w < 6) (h227 : hz 227 (1 - (b : Int)).toNat = w) (hri : imp (hz 224 4 = 0) (∃ i : Nat, RI hz (1 - (b : Int)) w i ∧ RBx hz (1 - (b : Int)) w (hz 233 (6 * (1 - (b : Int)) + w).toNat) ∧ hz 224 55 = 0 ∧ hz 224 54 = 0)) : sw_E G NH SH (d + 5) mX12_readWord 184 [some (sw_r 224), some (sw_i y1), some (sw_l nm), none] [] hz (sw_Qv (fun h' => mK (prB b [4, 5, 6, 7, 8, 9, 10, 52, 53, 54, 55, 56, 57, 58] [227, 228, 233, 234, 235, 236, 237, 238, 239, 240, 241, 242, 243, 246, 252, 253, 254, 255, 256, 257, 258, 259, 260]) h0 h' ∧ (h' 224 7 ≤ h' 224 3 ∧ (h' 224 8 = 0 → h' 224 7 = h' 224 3)) ∧ (h0 224 7 ≤ h' 224 7 ∧ (h0 224 8 = 0 → h' 224 8 = 0)) ∧ (h' 227 (1 - (b : Int)).toNat = w + 1) ∧ (imp (h' 224 4 = 0) (RBx h' (1 - (b : Int)) (w + 1) (h' 228 (1 - (b : Int)).toNat))))) := by
  have hyb : 6 * (1 - (b : Int)) ≤ y1 ∧ y1 < 6 * (1 - (b : Int)) + 6 := by omega
  have em : y1.toNat = (6 * (1 - (b : Int)) + w).toNat := by omega
  have bb : 0 ≤ (b : Int) ∧ (b : Int) ≤ 1 := by omega
  refine sx_aload_n dX12_readWord_184 rfl ?_
  refine sx_getS (k := 30) (t := 246) cl_12 fl_X12_78 dX12_readWord_185 s_224 (by decide) rfl (by decide) ?_
  refine sx_iload_n dX12_readWord_188 rfl ?_
  refine sx_lload_n dX12_readWord_189 rfl ?_
  refine sy_lastore dX12_readWord_190 s_246 (by decide) (by decide) ⟨by omega, by omega⟩ (fun h1 eh1 => ?_)
  have Ih1 := Ihz.up eh1 trivial (decide_eq_false (np_6 (by omega) hyb))
  have th1_224_3 := eh1.2 (224) 3 (fun q => absurd q.1 (by decide))
  have th1_224_4 := eh1.2 (224) 4 (fun q => absurd q.1 (by decide))
  have th1_224_7 := eh1.2 (224) 7 (fun q => absurd q.1 (by decide))
  have th1_224_8 := eh1.2 (224) 8 (fun q => absurd q.1 (by decide))
  have th1_224_37 := eh1.2 (224) 37 (fun q => absurd q.1 (by decide))
  have th1_224_52 := eh1.2 (224) 52 (fun q => absurd q.1 (by decide))
  have th1_224_53 := eh1.2 (224) 53 (fun q => absurd q.1 (by decide))
  have th1_224_54 := eh1.2 (224) 54 (fun q => absurd q.1 (by decide))
  have th1_224_55 := eh1.2 (224) 55 (fun q => absurd q.1 (by decide))
  have th1_224_56 := eh1.2 (224) 56 (fun q => absurd q.1 (by decide))
  have th1_224_57 := eh1.2 (224) 57 (fun q => absurd q.1 (by decide))
  refine sx_aload_n dX12_readWord_191 rfl ?_
  refine sx_getS (k := 19) (t := 235) cl_12 fl_X12_45 dX12_readWord_192 s_224 (by decide) rfl (by decide) ?_
  refine sx_iload_n dX12_readWord_195 rfl ?_
  refine sx_aload_n dX12_readWord_196 rfl ?_
  refine sx_getI (k := 56) cl_12 fl_X12_403 dX12_readWord_197 s_224 (by decide) rfl (by decide) ?_
  refine sy_iastore dX12_readWord_200 s_235 (by decide) (by decide) ⟨by omega, by omega⟩ (fun h2 eh2 => ?_)
  have Ih2 := Ih1.up eh2 trivial (decide_eq_false (np_6 (by omega) hyb))
  have th2_224_3 := eh2.2 (224) 3 (fun q => absurd q.1 (by decide))
  have th2_224_4 := eh2.2 (224) 4 (fun q => absurd q.1 (by decide))
  have th2_224_7 := eh2.2 (224) 7 (fun q => absurd q.1 (by decide))
  have th2_224_8 := eh2.2 (224) 8 (fun q => absurd q.1 (by decide))
  have th2_224_37 := eh2.2 (224) 37 (fun q => absurd q.1 (by decide))
  have th2_224_52 := eh2.2 (224) 52 (fun q => absurd q.1 (by decide))
  have th2_224_53 := eh2.2 (224) 53 (fun q => absurd q.1 (by decide))
  have th2_224_54 := eh2.2 (224) 54 (fun q => absurd q.1 (by decide))
  have th2_224_55 := eh2.2 (224) 55 (fun q => absurd q.1 (by decide))
  have th2_224_56 := eh2.2 (224) 56 (fun q => absurd q.1 (by decide))
  have th2_224_57 := eh2.2 (224) 57 (fun q => absurd q.1 (by decide))
  refine sx_aload_n dX12_readWord_201 rfl ?_
  refine sx_getS (k := 20) (t := 236) cl_12 fl_X12_48 dX12_readWord_202 s_224 (by decide) rfl (by decide) ?_
  refine sx_iload_n dX12_readWord_205 rfl ?_
  refine sx_aload_n dX12_readWord_206 rfl ?_
  refine sx_getI (k := 53) cl_12 fl_X12_406 dX12_readWord_207 s_224 (by decide) rfl (by decide) ?_
  refine sy_iastore dX12_readWord_210 s_236 (by decide) (by decide) ⟨by omega, by omega⟩ (fun h3 eh3 => ?_)
  have Ih3 := Ih2.up eh3 trivial (decide_eq_false (np_6 (by omega) hyb))
  have th3_224_3 := eh3.2 (224) 3 (fun q => absurd q.1 (by decide))
  have th3_224_4 := eh3.2 (224) 4 (fun q => absurd q.1 (by decide))
  have th3_224_7 := eh3.2 (224) 7 (fun q => absurd q.1 (by decide))
  have th3_224_8 := eh3.2 (224) 8 (fun q => absurd q.1 (by decide))
  have th3_224_37 := eh3.2 (224) 37 (fun q => absurd q.1 (by decide))
  have th3_224_52 := eh3.2 (224) 52 (fun q => absurd q.1 (by decide))
  have th3_224_53 := eh3.2 (224) 53 (fun q => absurd q.1 (by decide))
  have th3_224_54 := eh3.2 (224) 54 (fun q => absurd q.1 (by decide))
  have th3_224_55 := eh3.2 (224) 55 (fun q => absurd q.1 (by decide))
  have th3_224_56 := eh3.2 (224) 56 (fun q => absurd q.1 (by decide))
  have th3_224_57 := eh3.2 (224) 57 (fun q => absurd q.1 (by decide))
  refine sx_aload_n dX12_readWord_211 rfl ?_
  refine sx_getS (k := 21) (t := 237) cl_12 fl_X12_51 dX12_readWord_212 s_224 (by decide) rfl (by decide) ?_
  refine sx_iload_n dX12_readWord_215 rfl ?_
  refine sx_aload_n dX12_readWord_216 rfl ?_
  refine sx_getI (k := 57) cl_12 fl_X12_409 dX12_readWord_217 s_224 (by decide) rfl (by decide) ?_
  refine sy_iastore dX12_readWord_220 s_237 (by decide) (by decide) ⟨by omega, by omega⟩ (fun h4 eh4 => ?_)
  have Ih4 := Ih3.up eh4 trivial (decide_eq_false (np_6 (by omega) hyb))
  have th4_224_3 := eh4.2 (224) 3 (fun q => absurd q.1 (by decide))
  have th4_224_4 := eh4.2 (224) 4 (fun q => absurd q.1 (by decide))
  have th4_224_7 := eh4.2 (224) 7 (fun q => absurd q.1 (by decide))
  have th4_224_8 := eh4.2 (224) 8 (fun q => absurd q.1 (by decide))
  have th4_224_37 := eh4.2 (224) 37 (fun q => absurd q.1 (by decide))
  have th4_224_52 := eh4.2 (224) 52 (fun q => absurd q.1 (by decide))
  have th4_224_53 := eh4.2 (224) 53 (fun q => absurd q.1 (by decide))
  have th4_224_54 := eh4.2 (224) 54 (fun q => absurd q.1 (by decide))
  have th4_224_55 := eh4.2 (224) 55 (fun q => absurd q.1 (by decide))
  have th4_224_56 := eh4.2 (224) 56 (fun q => absurd q.1 (by decide))
  have th4_224_57 := eh4.2 (224) 57 (fun q => absurd q.1 (by decide))
  refine sx_aload_n dX12_readWord_221 rfl ?_
  refine sx_getS (k := 22) (t := 238) cl_12 fl_X12_54 dX12_readWord_222 s_224 (by decide) rfl (by decide) ?_
  refine sx_iload_n dX12_readWord_225 rfl ?_
  refine sx_aload_n dX12_readWord_226 rfl ?_
  refine sx_getI (k := 58) cl_12 fl_X12_412 dX12_readWord_227 s_224 (by decide) rfl (by decide) ?_
  refine sy_iastore dX12_readWord_230 s_238 (by decide) (by decide) ⟨by omega, by omega⟩ (fun h5 eh5 => ?_)
  have Ih5 := Ih4.up eh5 trivial (decide_eq_false (np_6 (by omega) hyb))
  have th5_224_3 := eh5.2 (224) 3 (fun q => absurd q.1 (by decide))
  have th5_224_4 := eh5.2 (224) 4 (fun q => absurd q.1 (by decide))
  have th5_224_7 := eh5.2 (224) 7 (fun q => absurd q.1 (by decide))
  have th5_224_8 := eh5.2 (224) 8 (fun q => absurd q.1 (by decide))
  have th5_224_37 := eh5.2 (224) 37 (fun q => absurd q.1 (by decide))
  have th5_224_52 := eh5.2 (224) 52 (fun q => absurd q.1 (by decide))
  have th5_224_53 := eh5.2 (224) 53 (fun q => absurd q.1 (by decide))
  have th5_224_54 := eh5.2 (224) 54 (fun q => absurd q.1 (by decide))
  have th5_224_55 := eh5.2 (224) 55 (fun q => absurd q.1 (by decide))
  have th5_224_56 := eh5.2 (224) 56 (fun q => absurd q.1 (by decide))
  have th5_224_57 := eh5.2 (224) 57 (fun q => absurd q.1 (by decide))
  refine sx_aload_n dX12_readWord_231 rfl ?_
  refine sx_getS (k := 23) (t := 239) cl_12 fl_X12_57 dX12_readWord_232 s_224 (by decide) rfl (by decide) ?_
  refine sx_iload_n dX12_readWord_235 rfl ?_
  refine sx_aload_n dX12_readWord_236 rfl ?_
  refine sx_getS (k := 49) (t := 259) cl_12 fl_X12_118 dX12_readWord_237 s_224 (by decide) rfl (by decide) ?_
  refine sx_iconst dX12_readWord_240 ⟨by decide, by decide⟩ ?_
  refine sx_iaload dX12_readWord_241 s_259 (by decide) (by decide) ⟨by omega, by omega⟩ ?_
  refine sy_iastore dX12_readWord_242 s_239 (by decide) (by decide) ⟨by omega, by omega⟩ (fun h6 eh6 => ?_)
  have Ih6 := Ih5.up eh6 trivial (decide_eq_false (np_6 (by omega) hyb))
  have th6_224_3 := eh6.2 (224) 3 (fun q => absurd q.1 (by decide))
  have th6_224_4 := eh6.2 (224) 4 (fun q => absurd q.1 (by decide))
  have th6_224_7 := eh6.2 (224) 7 (fun q => absurd q.1 (by decide))
  have th6_224_8 := eh6.2 (224) 8 (fun q => absurd q.1 (by decide))
  have th6_224_37 := eh6.2 (224) 37 (fun q => absurd q.1 (by decide))
  have th6_224_52 := eh6.2 (224) 52 (fun q => absurd q.1 (by decide))
  have th6_224_53 := eh6.2 (224) 53 (fun q => absurd q.1 (by decide))
  have th6_224_54 := eh6.2 (224) 54 (fun q => absurd q.1 (by decide))
  have th6_224_55 := eh6.2 (224) 55 (fun q => absurd q.1 (by decide))
  have th6_224_56 := eh6.2 (224) 56 (fun q => absurd q.1 (by decide))
  have th6_224_57 := eh6.2 (224) 57 (fun q => absurd q.1 (by decide))
  refine sx_aload_n dX12_readWord_243 rfl ?_
  refine sx_getS (k := 11) (t := 227) cl_12 fl_X12_20 dX12_readWord_244 s_224 (by decide) rfl (by decide) ?_
  refine sx_aload_n dX12_readWord_247 rfl ?_
  refine sx_getI (k := 37) cl_12 fl_X12_340 dX12_readWord_248 s_224 (by decide) rfl (by decide) ?_
  have r7 : (0 : Int) ≤ h6 224 37 ∧ h6 224 37 ≤ 1 := Ih6.1 224 37
  refine sx_dup2 dX12_readWord_251 ?_
  have e27 : h6 227 (h6 224 37).toNat = w := by rw [show (h6 224 37).toNat = (1 - (b : Int)).toNat by omega]; all_goals rw [eh6.2 227 _ (fun q => absurd q.1 (by decide)), eh5.2 227 _ (fun q => absurd q.1 (by decide)), eh4.2 227 _ (fun q => absurd q.1 (by decide)), eh3.2 227 _ (fun q => absurd q.1 (by decide)), eh2.2 227 _ (fun q => absurd q.1 (by decide)), eh1.2 227 _ (fun q => absurd q.1 (by decide))]; all_goals exact h227
  refine sy_iaF (F := fun z => (0 : Int) ≤ z ∧ z ≤ 6) dX12_readWord_252 s_227 (by decide) (by decide) ⟨by omega, by omega⟩ (Ih6.1 227 _) (fun r8 => ?_)
  refine sx_iconst dX12_readWord_253 ⟨by decide, by decide⟩ ?_
  refine sx_iadd dX12_readWord_254 ?_
  refine sy_topw (by omega) ?_
  refine sy_iastore dX12_readWord_255 s_227 (by decide) (by decide) ⟨by omega, by omega⟩ (fun h9 eh9 => ?_)
  have Ih9 := Ih6.up eh9 (show (0 : Int) ≤ _ ∧ _ ≤ (6 : Int) from ⟨by omega, by omega⟩) (beq_eq_false_iff_ne.mpr (show _ ≠ _ by omega))
  have th9_224_3 := eh9.2 (224) 3 (fun q => absurd q.1 (by decide))
  have th9_224_4 := eh9.2 (224) 4 (fun q => absurd q.1 (by decide))
  have th9_224_7 := eh9.2 (224) 7 (fun q => absurd q.1 (by decide))
  have th9_224_8 := eh9.2 (224) 8 (fun q => absurd q.1 (by decide))
  have th9_224_37 := eh9.2 (224) 37 (fun q => absurd q.1 (by decide))
  have th9_224_52 := eh9.2 (224) 52 (fun q => absurd q.1 (by decide))
  have th9_224_53 := eh9.2 (224) 53 (fun q => absurd q.1 (by decide))
  have th9_224_54 := eh9.2 (224) 54 (fun q => absurd q.1 (by decide))
  have th9_224_55 := eh9.2 (224) 55 (fun q => absurd q.1 (by decide))
  have th9_224_56 := eh9.2 (224) 56 (fun q => absurd q.1 (by decide))
  have th9_224_57 := eh9.2 (224) 57 (fun q => absurd q.1 (by decide))
  refine sx_ret dX12_readWord_256 ?_
  have RD : imp (hz 224 4 = 0) (RBx h9 (1 - (b : Int)) (w + 1) (h9 228 (1 - (b : Int)).toNat)) := fun q => by
    obtain ⟨i, hR1, hR2, hR3, hR4⟩ := hri q
    exact RI_done (h := hz) (by omega) (by omega) hR1 hR2 hR3 hR4 (by rw [eh9.2 235 (6 * (1 - (b : Int)) + w).toNat (fun q => absurd q.1 (by decide)), eh6.2 235 (6 * (1 - (b : Int)) + w).toNat (fun q => absurd q.1 (by decide)), eh5.2 235 (6 * (1 - (b : Int)) + w).toNat (fun q => absurd q.1 (by decide)), eh4.2 235 (6 * (1 - (b : Int)) + w).toNat (fun q => absurd q.1 (by decide)), eh3.2 235 (6 * (1 - (b : Int)) + w).toNat (fun q => absurd q.1 (by decide)), eh2.at 235 (6 * (1 - (b : Int)) + w).toNat, eh1.2 235 (6 * (1 - (b : Int)) + w).toNat (fun q => absurd q.1 (by decide))]; all_goals (try simp only [Nat.reduceEqDiff, false_and, if_false, true_and]); all_goals (try rw [if_pos (by omega)]); all_goals (first | done | rfl | omega)) (by rw [eh9.2 236 (6 * (1 - (b : Int)) + w).toNat (fun q => absurd q.1 (by decide)), eh6.2 236 (6 * (1 - (b : Int)) + w).toNat (fun q => absurd q.1 (by decide)), eh5.2 236 (6 * (1 - (b : Int)) + w).toNat (fun q => absurd q.1 (by decide)), eh4.2 236 (6 * (1 - (b : Int)) + w).toNat (fun q => absurd q.1 (by decide)), eh3.at 236 (6 * (1 - (b : Int)) + w).toNat, eh2.2 236 (6 * (1 - (b : Int)) + w).toNat (fun q => absurd q.1 (by decide)), eh1.2 236 (6 * (1 - (b : Int)) + w).toNat (fun q => absurd q.1 (by decide))]; all_goals (try simp only [Nat.reduceEqDiff, false_and, if_false, true_and]); all_goals (try rw [if_pos (by omega)]); all_goals (first | done | rfl | omega)) (by rw [eh9.2 237 (6 * (1 - (b : Int)) + w).toNat (fun q => absurd q.1 (by decide)), eh6.2 237 (6 * (1 - (b : Int)) + w).toNat (fun q => absurd q.1 (by decide)), eh5.2 237 (6 * (1 - (b : Int)) + w).toNat (fun q => absurd q.1 (by decide)), eh4.at 237 (6 * (1 - (b : Int)) + w).toNat, eh3.2 237 (6 * (1 - (b : Int)) + w).toNat (fun q => absurd q.1 (by decide)), eh2.2 237 (6 * (1 - (b : Int)) + w).toNat (fun q => absurd q.1 (by decide)), eh1.2 237 (6 * (1 - (b : Int)) + w).toNat (fun q => absurd q.1 (by decide))]; all_goals (try simp only [Nat.reduceEqDiff, false_and, if_false, true_and]); all_goals (try rw [if_pos (by omega)]); all_goals (first | done | rfl | omega)) (fun a k q => by rcases q with rfl | rfl | rfl | rfl | rfl; (focus rw [eh9.2 233 k (fun q => absurd q.1 (by decide)), eh6.2 233 k (fun q => absurd q.1 (by decide)), eh5.2 233 k (fun q => absurd q.1 (by decide)), eh4.2 233 k (fun q => absurd q.1 (by decide)), eh3.2 233 k (fun q => absurd q.1 (by decide)), eh2.2 233 k (fun q => absurd q.1 (by decide)), eh1.2 233 k (fun q => absurd q.1 (by decide))]); (focus rw [eh9.2 234 k (fun q => absurd q.1 (by decide)), eh6.2 234 k (fun q => absurd q.1 (by decide)), eh5.2 234 k (fun q => absurd q.1 (by decide)), eh4.2 234 k (fun q => absurd q.1 (by decide)), eh3.2 234 k (fun q => absurd q.1 (by decide)), eh2.2 234 k (fun q => absurd q.1 (by decide)), eh1.2 234 k (fun q => absurd q.1 (by decide))]); (focus rw [eh9.2 240 k (fun q => absurd q.1 (by decide)), eh6.2 240 k (fun q => absurd q.1 (by decide)), eh5.2 240 k (fun q => absurd q.1 (by decide)), eh4.2 240 k (fun q => absurd q.1 (by decide)), eh3.2 240 k (fun q => absurd q.1 (by decide)), eh2.2 240 k (fun q => absurd q.1 (by decide)), eh1.2 240 k (fun q => absurd q.1 (by decide))]); (focus rw [eh9.2 241 k (fun q => absurd q.1 (by decide)), eh6.2 241 k (fun q => absurd q.1 (by decide)), eh5.2 241 k (fun q => absurd q.1 (by decide)), eh4.2 241 k (fun q => absurd q.1 (by decide)), eh3.2 241 k (fun q => absurd q.1 (by decide)), eh2.2 241 k (fun q => absurd q.1 (by decide)), eh1.2 241 k (fun q => absurd q.1 (by decide))]); (focus rw [eh9.2 243 k (fun q => absurd q.1 (by decide)), eh6.2 243 k (fun q => absurd q.1 (by decide)), eh5.2 243 k (fun q => absurd q.1 (by decide)), eh4.2 243 k (fun q => absurd q.1 (by decide)), eh3.2 243 k (fun q => absurd q.1 (by decide)), eh2.2 243 k (fun q => absurd q.1 (by decide)), eh1.2 243 k (fun q => absurd q.1 (by decide))])) (fun a k q1 q2 q3 => by have q : a = 235 ∨ a = 236 ∨ a = 237 := (by omega); rcases q with rfl | rfl | rfl; (focus (rw [eh9.2 235 k (fun q => absurd q.1 (by decide)), eh6.2 235 k (fun q => absurd q.1 (by decide)), eh5.2 235 k (fun q => absurd q.1 (by decide)), eh4.2 235 k (fun q => absurd q.1 (by decide)), eh3.2 235 k (fun q => absurd q.1 (by decide)), eh2.at 235 k, eh1.2 235 k (fun q => absurd q.1 (by decide))]; all_goals (try simp only [Nat.reduceEqDiff, false_and, if_false, true_and]); all_goals (first | rfl | rw [if_neg (by omega)]))); (focus (rw [eh9.2 236 k (fun q => absurd q.1 (by decide)), eh6.2 236 k (fun q => absurd q.1 (by decide)), eh5.2 236 k (fun q => absurd q.1 (by decide)), eh4.2 236 k (fun q => absurd q.1 (by decide)), eh3.at 236 k, eh2.2 236 k (fun q => absurd q.1 (by decide)), eh1.2 236 k (fun q => absurd q.1 (by decide))]; all_goals (try simp only [Nat.reduceEqDiff, false_and, if_false, true_and]); all_goals (first | rfl | rw [if_neg (by omega)]))); (focus (rw [eh9.2 237 k (fun q => absurd q.1 (by decide)), eh6.2 237 k (fun q => absurd q.1 (by decide)), eh5.2 237 k (fun q => absurd q.1 (by decide)), eh4.at 237 k, eh3.2 237 k (fun q => absurd q.1 (by decide)), eh2.2 237 k (fun q => absurd q.1 (by decide)), eh1.2 237 k (fun q => absurd q.1 (by decide))]; all_goals (try simp only [Nat.reduceEqDiff, false_and, if_false, true_and]); all_goals (first | rfl | rw [if_neg (by omega)])))) (by rw [eh9.2 228 _ (fun q => absurd q.1 (by decide)), eh6.2 228 _ (fun q => absurd q.1 (by decide)), eh5.2 228 _ (fun q => absurd q.1 (by decide)), eh4.2 228 _ (fun q => absurd q.1 (by decide)), eh3.2 228 _ (fun q => absurd q.1 (by decide)), eh2.2 228 _ (fun q => absurd q.1 (by decide)), eh1.2 228 _ (fun q => absurd q.1 (by decide))])
  exact ⟨rfl, ⟨Ih9, by omega, by omega, (by rw [eh9.at 227 (1 - (b : Int)).toNat, eh6.2 227 (1 - (b : Int)).toNat (fun q => absurd q.1 (by decide)), eh5.2 227 (1 - (b : Int)).toNat (fun q => absurd q.1 (by decide)), eh4.2 227 (1 - (b : Int)).toNat (fun q => absurd q.1 (by decide)), eh3.2 227 (1 - (b : Int)).toNat (fun q => absurd q.1 (by decide)), eh2.2 227 (1 - (b : Int)).toNat (fun q => absurd q.1 (by decide)), eh1.2 227 (1 - (b : Int)).toNat (fun q => absurd q.1 (by decide))]; all_goals (try simp only [Nat.reduceEqDiff, false_and, if_false, true_and]); all_goals (try rw [if_pos (by omega)]); all_goals (try rw [e27]); all_goals omega), fun q => RD (by omega)⟩⟩
set_option maxRecDepth 20000 in
set_option maxHeartbeats 4000000 in
theorem rt2_readWord {G : sw_G} (d : Nat) {h0 hz : sw_H} (hJ : mI h0) (b : Nat) (Ihz : mK (prB b [4, 5, 6, 7, 8, 9, 10, 52, 53, 54, 55, 56, 57, 58] [227, 228, 233, 234, 235, 236, 237, 238, 239, 240, 241, 242, 243, 246, 252, 253, 254, 255, 256, 257, 258, 259, 260]) h0 hz) (w : Int) (y1 nm : Int) (hr : hz 224 37 = 1 - (b : Int) ∧ b ≤ 1) (ja1 : hz 224 7 ≤ hz 224 3 ∧ (hz 224 8 = 0 → hz 224 7 = hz 224 3)) (ja2 : h0 224 7 ≤ hz 224 7 ∧ (h0 224 8 = 0 → hz 224 8 = 0)) (hy : y1 = 6 * (1 - (b : Int)) + w) (hw : 0 ≤ w ∧ w < 6) (h227 : hz 227 (1 - (b : Int)).toNat = w) (hri : imp (hz 224 4 = 0) (∃ i : Nat, RI hz (1 - (b : Int)) w i ∧ RBx hz (1 - (b : Int)) w (hz 233 (6 * (1 - (b : Int)) + w).toNat))) : sw_E G NH SH (d + 5) mX12_readWord 120 [some (sw_r 224), some (sw_i y1), some (sw_l nm), none] [] hz (sw_Qv (fun h' => mK (prB b [4, 5, 6, 7, 8, 9, 10, 52, 53, 54, 55, 56, 57, 58] [227, 228, 233, 234, 235, 236, 237, 238, 239, 240, 241, 242, 243, 246, 252, 253, 254, 255, 256, 257, 258, 259, 260]) h0 h' ∧ (h' 224 7 ≤ h' 224 3 ∧ (h' 224 8 = 0 → h' 224 7 = h' 224 3)) ∧ (h0 224 7 ≤ h' 224 7 ∧ (h0 224 8 = 0 → h' 224 8 = 0)) ∧ (h' 227 (1 - (b : Int)).toNat = w + 1) ∧ (imp (h' 224 4 = 0) (RBx h' (1 - (b : Int)) (w + 1) (h' 228 (1 - (b : Int)).toNat))))) := by
  have hyb : 6 * (1 - (b : Int)) ≤ y1 ∧ y1 < 6 * (1 - (b : Int)) + 6 := by omega
  have em : y1.toNat = (6 * (1 - (b : Int)) + w).toNat := by omega
  have bb : 0 ≤ (b : Int) ∧ (b : Int) ≤ 1 := by omega
  refine sx_aload_n dX12_readWord_120 rfl ?_
  refine sx_callVz lk_X12_330 cl_12 s_224 (by decide) dX12_readWord_121 (vs := []) rfl rfl (Nat.le_of_ble_eq_true rfl) (Nat.le_of_ble_eq_true rfl) rfl (c_X12_isGood _ Ihz.1) (fun x2 h1 zx2 ph1 => ?_)
  obtain ⟨rfl, p_x2⟩ := ph1
  refine sx_if_eq (tgt := 138) dX12_readWord_124 (by decide) (fun c3 => ?_) (fun c3 => ?_)
  ·
    replace p_x2 := mt p_x2.mpr (show ¬ (x2 = 1) by rw [c3]; decide)
    clear zx2
    refine sx_aload_n dX12_readWord_138 rfl ?_
    refine sx_callVz lk_X12_330 cl_12 s_224 (by decide) dX12_readWord_139 (vs := []) rfl rfl (Nat.le_of_ble_eq_true rfl) (Nat.le_of_ble_eq_true rfl) rfl (c_X12_isGood _ Ihz.1) (fun x5 h4 zx5 ph4 => ?_)
    obtain ⟨rfl, p_x5⟩ := ph4
    refine sx_if_eq (tgt := 174) dX12_readWord_142 (by decide) (fun c6 => ?_) (fun c6 => ?_)
    ·
      replace p_x5 := mt p_x5.mpr (show ¬ (x5 = 1) by rw [c6]; decide)
      clear zx5
      refine sx_aload_n dX12_readWord_174 rfl ?_
      refine sx_aload_n dX12_readWord_175 rfl ?_
      refine sx_bipush dX12_readWord_176 ⟨by decide, by decide, by decide⟩ ?_
      refine sx_callVz lk_X12_379 cl_12 s_224 (by decide) dX12_readWord_178 (vs := [_]) rfl rfl (Nat.le_of_ble_eq_true rfl) (Nat.le_of_ble_eq_true rfl) rfl (c2_X12_isSignHere _ Ihz.1 _) (fun x8 h7 zx8 ph7 => ?_)
      obtain ⟨rfl, p_x8⟩ := ph7
      clear p_x8 zx8
      refine sx_callVv lk_X12_382 cl_12 s_224 (by decide) dX12_readWord_181 (vs := [_]) rfl rfl (Nat.le_of_ble_eq_true rfl) (Nat.le_of_ble_eq_true rfl) rfl (c_X12_must _ Ihz.1 _ (by omega)) (fun h9 ph9 => ?_)
      obtain ⟨Kh9, a_h9, m_h9, g_h9⟩ := ph9
      have Ih9 := Ihz.tr Kh9 (prBW_sub rfl rfl rfl)
      have th9_224_3 := Kh9.2 224 3 rfl
      have th9_224_37 := Kh9.2 224 37 rfl
      have th9_224_52 := Kh9.2 224 52 rfl
      have th9_224_53 := Kh9.2 224 53 rfl
      have th9_224_54 := Kh9.2 224 54 rfl
      have th9_224_55 := Kh9.2 224 55 rfl
      have th9_224_56 := Kh9.2 224 56 rfl
      have th9_224_57 := Kh9.2 224 57 rfl
      exact rt3_readWord d hJ b Ih9 w y1 nm (by omega) (by omega) (by omega) hy hw (by rw [tok_rd (show mK (prW [4, 5, 6, 7, 8, 9, 10] []) hz h9 from (mK.tr (mK.refl Ihz.1) Kh9 (prW_sub rfl rfl))) 227 _ (Or.inr ⟨by omega, by omega⟩)]; exact h227) (fun q => by exfalso; omega)
    ·
      exfalso; omega
  ·
    have vx2 : x2 = 1 := by rcases zx2 with q | q; (exact absurd q c3); exact q
    replace p_x2 := p_x2.mp vx2
    clear zx2
    refine sx_aload_n dX12_readWord_127 rfl ?_
    refine sx_getI (k := 55) cl_12 fl_X12_397 dX12_readWord_128 s_224 (by decide) rfl (by decide) ?_
    refine sx_if_le (tgt := 138) dX12_readWord_131 (by decide) (fun c11 => ?_) (fun c11 => ?_)
    ·
      refine sx_aload_n dX12_readWord_138 rfl ?_
      refine sx_callVz lk_X12_330 cl_12 s_224 (by decide) dX12_readWord_139 (vs := []) rfl rfl (Nat.le_of_ble_eq_true rfl) (Nat.le_of_ble_eq_true rfl) rfl (c_X12_isGood _ Ihz.1) (fun x13 h12 zx13 ph12 => ?_)
      obtain ⟨rfl, p_x13⟩ := ph12
      refine sx_if_eq (tgt := 174) dX12_readWord_142 (by decide) (fun c14 => ?_) (fun c14 => ?_)
      ·
        exfalso; omega
      ·
        have vx13 : x13 = 1 := by rcases zx13 with q | q; (exact absurd q c14); exact q
        replace p_x13 := p_x13.mp vx13
        clear zx13
        refine sx_aload_n dX12_readWord_145 rfl ?_
        refine sx_getI (k := 54) cl_12 fl_X12_400 dX12_readWord_146 s_224 (by decide) rfl (by decide) ?_
        refine sx_if_gt (tgt := 164) dX12_readWord_149 (by decide) (fun c15 => ?_) (fun c15 => ?_)
        ·
          refine sx_aload_n dX12_readWord_164 rfl ?_
          refine sx_bipush dX12_readWord_165 ⟨by decide, by decide, by decide⟩ ?_
          refine sx_aload_n dX12_readWord_167 rfl ?_
          refine sx_getI (k := 6) cl_12 fl_X12_295 dX12_readWord_168 s_224 (by decide) rfl (by decide) ?_
          have r16 : (0 : Int) ≤ hz 224 6 ∧ hz 224 6 ≤ 1700 := Ihz.1 224 6
          refine sx_callVv lk_X12_326 cl_12 s_224 (by decide) dX12_readWord_171 (vs := [_, _]) rfl rfl (Nat.le_of_ble_eq_true rfl) (Nat.le_of_ble_eq_true rfl) rfl (c_X12_fails _ Ihz.1 _ _ (by omega)) (fun h17 ph17 => ?_)
          obtain ⟨Kh17, g_h17⟩ := ph17
          have Ih17 := Ihz.tr Kh17 (prBW_sub rfl rfl rfl)
          have th17_224_3 := Kh17.2 224 3 rfl
          have th17_224_7 := Kh17.2 224 7 rfl
          have th17_224_8 := Kh17.2 224 8 rfl
          have th17_224_37 := Kh17.2 224 37 rfl
          have th17_224_52 := Kh17.2 224 52 rfl
          have th17_224_53 := Kh17.2 224 53 rfl
          have th17_224_54 := Kh17.2 224 54 rfl
          have th17_224_55 := Kh17.2 224 55 rfl
          have th17_224_56 := Kh17.2 224 56 rfl
          have th17_224_57 := Kh17.2 224 57 rfl
          refine sx_aload_n dX12_readWord_174 rfl ?_
          refine sx_aload_n dX12_readWord_175 rfl ?_
          refine sx_bipush dX12_readWord_176 ⟨by decide, by decide, by decide⟩ ?_
          refine sx_callVz lk_X12_379 cl_12 s_224 (by decide) dX12_readWord_178 (vs := [_]) rfl rfl (Nat.le_of_ble_eq_true rfl) (Nat.le_of_ble_eq_true rfl) rfl (c2_X12_isSignHere _ Ih17.1 _) (fun x20 h19 zx20 ph19 => ?_)
          obtain ⟨rfl, p_x20⟩ := ph19
          clear p_x20 zx20
          refine sx_callVv lk_X12_382 cl_12 s_224 (by decide) dX12_readWord_181 (vs := [_]) rfl rfl (Nat.le_of_ble_eq_true rfl) (Nat.le_of_ble_eq_true rfl) rfl (c_X12_must _ Ih17.1 _ (by omega)) (fun h21 ph21 => ?_)
          obtain ⟨Kh21, a_h21, m_h21, g_h21⟩ := ph21
          have Ih21 := Ih17.tr Kh21 (prBW_sub rfl rfl rfl)
          have th21_224_3 := Kh21.2 224 3 rfl
          have th21_224_37 := Kh21.2 224 37 rfl
          have th21_224_52 := Kh21.2 224 52 rfl
          have th21_224_53 := Kh21.2 224 53 rfl
          have th21_224_54 := Kh21.2 224 54 rfl
          have th21_224_55 := Kh21.2 224 55 rfl
          have th21_224_56 := Kh21.2 224 56 rfl
          have th21_224_57 := Kh21.2 224 57 rfl
          exact rt3_readWord d hJ b Ih21 w y1 nm (by omega) (by omega) (by omega) hy hw (by rw [tok_rd (show mK (prW [4, 5, 6, 7, 8, 9, 10] []) hz h21 from (mK.tr (mK.tr (mK.refl Ihz.1) Kh17 (prW_sub rfl rfl)) Kh21 (prW_sub rfl rfl))) 227 _ (Or.inr ⟨by omega, by omega⟩)]; exact h227) (fun q => by exfalso; omega)
        ·
          refine sx_aload_n dX12_readWord_152 rfl ?_
          refine sx_getS (k := 49) (t := 259) cl_12 fl_X12_118 dX12_readWord_153 s_224 (by decide) rfl (by decide) ?_
          refine sx_iconst dX12_readWord_156 ⟨by decide, by decide⟩ ?_
          refine sx_iaload dX12_readWord_157 s_259 (by decide) (by decide) ⟨by omega, by omega⟩ ?_
          refine sx_sipush dX12_readWord_158 ⟨by decide, by decide, by decide⟩ ?_
          refine sx_icmp_le (tgt := 174) dX12_readWord_161 (by decide) (fun c23 => ?_) (fun c23 => ?_)
          ·
            refine sx_aload_n dX12_readWord_174 rfl ?_
            refine sx_aload_n dX12_readWord_175 rfl ?_
            refine sx_bipush dX12_readWord_176 ⟨by decide, by decide, by decide⟩ ?_
            refine sx_callVz lk_X12_379 cl_12 s_224 (by decide) dX12_readWord_178 (vs := [_]) rfl rfl (Nat.le_of_ble_eq_true rfl) (Nat.le_of_ble_eq_true rfl) rfl (c2_X12_isSignHere _ Ihz.1 _) (fun x25 h24 zx25 ph24 => ?_)
            obtain ⟨rfl, p_x25⟩ := ph24
            clear p_x25 zx25
            refine sx_callVv lk_X12_382 cl_12 s_224 (by decide) dX12_readWord_181 (vs := [_]) rfl rfl (Nat.le_of_ble_eq_true rfl) (Nat.le_of_ble_eq_true rfl) rfl (c_X12_must _ Ihz.1 _ (by omega)) (fun h26 ph26 => ?_)
            obtain ⟨Kh26, a_h26, m_h26, g_h26⟩ := ph26
            have Ih26 := Ihz.tr Kh26 (prBW_sub rfl rfl rfl)
            have th26_224_3 := Kh26.2 224 3 rfl
            have th26_224_37 := Kh26.2 224 37 rfl
            have th26_224_52 := Kh26.2 224 52 rfl
            have th26_224_53 := Kh26.2 224 53 rfl
            have th26_224_54 := Kh26.2 224 54 rfl
            have th26_224_55 := Kh26.2 224 55 rfl
            have th26_224_56 := Kh26.2 224 56 rfl
            have th26_224_57 := Kh26.2 224 57 rfl
            exact rt3_readWord d hJ b Ih26 w y1 nm (by omega) (by omega) (by omega) hy hw (by rw [tok_rd (show mK (prW [4, 5, 6, 7, 8, 9, 10] []) hz h26 from (mK.tr (mK.refl Ihz.1) Kh26 (prW_sub rfl rfl))) 227 _ (Or.inr ⟨by omega, by omega⟩)]; exact h227) (fun q => by obtain ⟨i, hR1, hR2⟩ := hri (by omega); have hge := RI_ge hR1; have KM := (show mK (prW [4, 5, 6, 7, 8, 9, 10] []) hz h26 from (mK.tr (mK.refl Ihz.1) Kh26 (prW_sub rfl rfl))); exact ⟨i, RI_eq (tok_rd KM) hR1, by rw [tok_rd KM 233 _ (Or.inr ⟨by omega, by omega⟩)]; exact RBx_eq (by omega) (fun a k q1 q2 => tok_rd KM a k (Or.inr ⟨q1, q2⟩)) hR2, by omega, by omega⟩)
          ·
            refine sx_aload_n dX12_readWord_164 rfl ?_
            refine sx_bipush dX12_readWord_165 ⟨by decide, by decide, by decide⟩ ?_
            refine sx_aload_n dX12_readWord_167 rfl ?_
            refine sx_getI (k := 6) cl_12 fl_X12_295 dX12_readWord_168 s_224 (by decide) rfl (by decide) ?_
            have r28 : (0 : Int) ≤ hz 224 6 ∧ hz 224 6 ≤ 1700 := Ihz.1 224 6
            refine sx_callVv lk_X12_326 cl_12 s_224 (by decide) dX12_readWord_171 (vs := [_, _]) rfl rfl (Nat.le_of_ble_eq_true rfl) (Nat.le_of_ble_eq_true rfl) rfl (c_X12_fails _ Ihz.1 _ _ (by omega)) (fun h29 ph29 => ?_)
            obtain ⟨Kh29, g_h29⟩ := ph29
            have Ih29 := Ihz.tr Kh29 (prBW_sub rfl rfl rfl)
            have th29_224_3 := Kh29.2 224 3 rfl
            have th29_224_7 := Kh29.2 224 7 rfl
            have th29_224_8 := Kh29.2 224 8 rfl
            have th29_224_37 := Kh29.2 224 37 rfl
            have th29_224_52 := Kh29.2 224 52 rfl
            have th29_224_53 := Kh29.2 224 53 rfl
            have th29_224_54 := Kh29.2 224 54 rfl
            have th29_224_55 := Kh29.2 224 55 rfl
            have th29_224_56 := Kh29.2 224 56 rfl
            have th29_224_57 := Kh29.2 224 57 rfl
            refine sx_aload_n dX12_readWord_174 rfl ?_
            refine sx_aload_n dX12_readWord_175 rfl ?_
            refine sx_bipush dX12_readWord_176 ⟨by decide, by decide, by decide⟩ ?_
            refine sx_callVz lk_X12_379 cl_12 s_224 (by decide) dX12_readWord_178 (vs := [_]) rfl rfl (Nat.le_of_ble_eq_true rfl) (Nat.le_of_ble_eq_true rfl) rfl (c2_X12_isSignHere _ Ih29.1 _) (fun x32 h31 zx32 ph31 => ?_)
            obtain ⟨rfl, p_x32⟩ := ph31
            clear p_x32 zx32
            refine sx_callVv lk_X12_382 cl_12 s_224 (by decide) dX12_readWord_181 (vs := [_]) rfl rfl (Nat.le_of_ble_eq_true rfl) (Nat.le_of_ble_eq_true rfl) rfl (c_X12_must _ Ih29.1 _ (by omega)) (fun h33 ph33 => ?_)
            obtain ⟨Kh33, a_h33, m_h33, g_h33⟩ := ph33
            have Ih33 := Ih29.tr Kh33 (prBW_sub rfl rfl rfl)
            have th33_224_3 := Kh33.2 224 3 rfl
            have th33_224_37 := Kh33.2 224 37 rfl
            have th33_224_52 := Kh33.2 224 52 rfl
            have th33_224_53 := Kh33.2 224 53 rfl
            have th33_224_54 := Kh33.2 224 54 rfl
            have th33_224_55 := Kh33.2 224 55 rfl
            have th33_224_56 := Kh33.2 224 56 rfl
            have th33_224_57 := Kh33.2 224 57 rfl
            exact rt3_readWord d hJ b Ih33 w y1 nm (by omega) (by omega) (by omega) hy hw (by rw [tok_rd (show mK (prW [4, 5, 6, 7, 8, 9, 10] []) hz h33 from (mK.tr (mK.tr (mK.refl Ihz.1) Kh29 (prW_sub rfl rfl)) Kh33 (prW_sub rfl rfl))) 227 _ (Or.inr ⟨by omega, by omega⟩)]; exact h227) (fun q => by exfalso; omega)
    ·
      refine sx_aload_n dX12_readWord_134 rfl ?_
      refine sx_callVv lk_X12_337 cl_12 s_224 (by decide) dX12_readWord_135 (vs := []) rfl rfl (Nat.le_of_ble_eq_true rfl) (Nat.le_of_ble_eq_true rfl) rfl (c_X12_misplaced _ Ihz.1) (fun h35 ph35 => ?_)
      obtain ⟨Kh35, g_h35⟩ := ph35
      have Ih35 := Ihz.tr Kh35 (prBW_sub rfl rfl rfl)
      have th35_224_3 := Kh35.2 224 3 rfl
      have th35_224_7 := Kh35.2 224 7 rfl
      have th35_224_8 := Kh35.2 224 8 rfl
      have th35_224_37 := Kh35.2 224 37 rfl
      have th35_224_52 := Kh35.2 224 52 rfl
      have th35_224_53 := Kh35.2 224 53 rfl
      have th35_224_54 := Kh35.2 224 54 rfl
      have th35_224_55 := Kh35.2 224 55 rfl
      have th35_224_56 := Kh35.2 224 56 rfl
      have th35_224_57 := Kh35.2 224 57 rfl
      refine sx_aload_n dX12_readWord_138 rfl ?_
      refine sx_callVz lk_X12_330 cl_12 s_224 (by decide) dX12_readWord_139 (vs := []) rfl rfl (Nat.le_of_ble_eq_true rfl) (Nat.le_of_ble_eq_true rfl) rfl (c_X12_isGood _ Ih35.1) (fun x38 h37 zx38 ph37 => ?_)
      obtain ⟨rfl, p_x38⟩ := ph37
      refine sx_if_eq (tgt := 174) dX12_readWord_142 (by decide) (fun c39 => ?_) (fun c39 => ?_)
      ·
        replace p_x38 := mt p_x38.mpr (show ¬ (x38 = 1) by rw [c39]; decide)
        clear zx38
        refine sx_aload_n dX12_readWord_174 rfl ?_
        refine sx_aload_n dX12_readWord_175 rfl ?_
        refine sx_bipush dX12_readWord_176 ⟨by decide, by decide, by decide⟩ ?_
        refine sx_callVz lk_X12_379 cl_12 s_224 (by decide) dX12_readWord_178 (vs := [_]) rfl rfl (Nat.le_of_ble_eq_true rfl) (Nat.le_of_ble_eq_true rfl) rfl (c2_X12_isSignHere _ Ih35.1 _) (fun x41 h40 zx41 ph40 => ?_)
        obtain ⟨rfl, p_x41⟩ := ph40
        clear p_x41 zx41
        refine sx_callVv lk_X12_382 cl_12 s_224 (by decide) dX12_readWord_181 (vs := [_]) rfl rfl (Nat.le_of_ble_eq_true rfl) (Nat.le_of_ble_eq_true rfl) rfl (c_X12_must _ Ih35.1 _ (by omega)) (fun h42 ph42 => ?_)
        obtain ⟨Kh42, a_h42, m_h42, g_h42⟩ := ph42
        have Ih42 := Ih35.tr Kh42 (prBW_sub rfl rfl rfl)
        have th42_224_3 := Kh42.2 224 3 rfl
        have th42_224_37 := Kh42.2 224 37 rfl
        have th42_224_52 := Kh42.2 224 52 rfl
        have th42_224_53 := Kh42.2 224 53 rfl
        have th42_224_54 := Kh42.2 224 54 rfl
        have th42_224_55 := Kh42.2 224 55 rfl
        have th42_224_56 := Kh42.2 224 56 rfl
        have th42_224_57 := Kh42.2 224 57 rfl
        exact rt3_readWord d hJ b Ih42 w y1 nm (by omega) (by omega) (by omega) hy hw (by rw [tok_rd (show mK (prW [4, 5, 6, 7, 8, 9, 10] []) hz h42 from (mK.tr (mK.tr (mK.refl Ihz.1) Kh35 (prW_sub rfl rfl)) Kh42 (prW_sub rfl rfl))) 227 _ (Or.inr ⟨by omega, by omega⟩)]; exact h227) (fun q => by exfalso; omega)
      ·
        exfalso; omega
set_option maxRecDepth 20000 in
set_option maxHeartbeats 4000000 in
theorem c_X12_readWord {G : sw_G} (d : Nat) {h0 : sw_H} (hJ : mI h0) (b : Nat) (w : Int) (hr : h0 224 37 = 1 - (b : Int) ∧ b ≤ 1) (ht : h0 224 7 ≤ h0 224 3 ∧ (h0 224 8 = 0 → h0 224 7 = h0 224 3)) (hw : 0 ≤ w ∧ w < 6 ∧ h0 227 (1 - (b : Int)).toNat = w) (hB : RBx h0 (1 - (b : Int)) w (h0 228 (1 - (b : Int)).toNat))  : sw_E G NH SH (d + 5) mX12_readWord 0 [some (sw_r 224), none, none, none] [] h0 (sw_Qv (fun h' => mK (prB b [4, 5, 6, 7, 8, 9, 10, 52, 53, 54, 55, 56, 57, 58] [227, 228, 233, 234, 235, 236, 237, 238, 239, 240, 241, 242, 243, 246, 252, 253, 254, 255, 256, 257, 258, 259, 260]) h0 h' ∧ (h' 224 7 ≤ h' 224 3 ∧ (h' 224 8 = 0 → h' 224 7 = h' 224 3)) ∧ (h0 224 7 ≤ h' 224 7 ∧ (h0 224 8 = 0 → h' 224 8 = 0)) ∧ (h' 227 (1 - (b : Int)).toNat = w + 1) ∧ (imp (h' 224 4 = 0) (RBx h' (1 - (b : Int)) (w + 1) (h' 228 (1 - (b : Int)).toNat))))) := by
  have hI : mK (prB b [4, 5, 6, 7, 8, 9, 10, 52, 53, 54, 55, 56, 57, 58] [227, 228, 233, 234, 235, 236, 237, 238, 239, 240, 241, 242, 243, 246, 252, 253, 254, 255, 256, 257, 258, 259, 260]) h0 h0 := mK.refl hJ
  have e37 : (h0 224 37).toNat = (1 - (b : Int)).toNat := by omega
  have e27 : h0 227 (h0 224 37).toNat = h0 227 (1 - (b : Int)).toNat := by rw [e37]
  refine sx_bipush dX12_readWord_0 ⟨by decide, by decide, by decide⟩ ?_
  refine sx_aload_n dX12_readWord_2 rfl ?_
  refine sx_getI (k := 37) cl_12 fl_X12_340 dX12_readWord_3 s_224 (by decide) rfl (by decide) ?_
  have r1 : (0 : Int) ≤ h0 224 37 ∧ h0 224 37 ≤ 1 := hI.1 224 37
  refine sx_imul dX12_readWord_6 ?_
  refine sy_topw (by omega) ?_
  refine sx_aload_n dX12_readWord_7 rfl ?_
  refine sx_getS (k := 11) (t := 227) cl_12 fl_X12_20 dX12_readWord_8 s_224 (by decide) rfl (by decide) ?_
  refine sx_aload_n dX12_readWord_11 rfl ?_
  refine sx_getI (k := 37) cl_12 fl_X12_340 dX12_readWord_12 s_224 (by decide) rfl (by decide) ?_
  have r2 : (0 : Int) ≤ h0 224 37 ∧ h0 224 37 ≤ 1 := hI.1 224 37
  refine sy_iaF (F := fun z => (0 : Int) ≤ z ∧ z ≤ 6) dX12_readWord_15 s_227 (by decide) (by decide) ⟨by omega, by omega⟩ (hI.1 227 _) (fun r3 => ?_)
  refine sx_iadd dX12_readWord_16 ?_
  refine sy_topw (by omega) ?_
  refine sy_top (fun v4 ev4 => ?_)
  refine sx_istore_n dX12_readWord_17 (by decide) ?_
  have hyb : 6 * (1 - (b : Int)) ≤ v4 ∧ v4 < 6 * (1 - (b : Int)) + 6 := by omega
  have em : (v4).toNat = (6 * (1 - (b : Int)) + w).toNat := by omega
  have bb : 0 ≤ (b : Int) ∧ (b : Int) ≤ 1 := by omega
  refine sx_aload_n dX12_readWord_18 rfl ?_
  have J66_n5 : ∀ (h : sw_H) , (mK (prB b [4, 5, 6, 7, 8, 9, 10, 52, 53, 54, 55, 56, 57, 58] [227, 228, 233, 234, 235, 236, 237, 238, 239, 240, 241, 242, 243, 246, 252, 253, 254, 255, 256, 257, 258, 259, 260]) h0 h) → (mK (prW [4, 5, 6, 7, 8, 9, 10] []) h0 h) → (h 224 7 ≤ h 224 3 ∧ (h 224 8 = 0 → h 224 7 = h 224 3)) → (h0 224 7 ≤ h 224 7 ∧ (h0 224 8 = 0 → h 224 8 = 0)) → sw_E G NH SH (d + 5) mX12_readWord 66 [some (sw_r 224), some (sw_i v4), some (sw_l (h0 224 10)), none] [] h (sw_Qv (fun h' => mK (prB b [4, 5, 6, 7, 8, 9, 10, 52, 53, 54, 55, 56, 57, 58] [227, 228, 233, 234, 235, 236, 237, 238, 239, 240, 241, 242, 243, 246, 252, 253, 254, 255, 256, 257, 258, 259, 260]) h0 h' ∧ (h' 224 7 ≤ h' 224 3 ∧ (h' 224 8 = 0 → h' 224 7 = h' 224 3)) ∧ (h0 224 7 ≤ h' 224 7 ∧ (h0 224 8 = 0 → h' 224 8 = 0)) ∧ (h' 227 (1 - (b : Int)).toNat = w + 1) ∧ (imp (h' 224 4 = 0) (RBx h' (1 - (b : Int)) (w + 1) (h' 228 (1 - (b : Int)).toNat))))) := by
    intro h6 Ih6 Kh6 ja1 ja2
    have th6_224_3 := Kh6.2 224 3 rfl
    have th6_224_37 := Kh6.2 224 37 rfl
    have th6_224_52 := Kh6.2 224 52 rfl
    have th6_224_53 := Kh6.2 224 53 rfl
    have th6_224_54 := Kh6.2 224 54 rfl
    have th6_224_55 := Kh6.2 224 55 rfl
    have th6_224_56 := Kh6.2 224 56 rfl
    have th6_224_57 := Kh6.2 224 57 rfl
    have e28 : h6 228 (h6 224 37).toNat = h0 228 (1 - (b : Int)).toNat := by rw [show (h6 224 37).toNat = (1 - (b : Int)).toNat by omega]; exact Kh6.2 228 _ rfl
    refine sx_aload_n dX12_readWord_66 rfl ?_
    refine sx_getS (k := 17) (t := 233) cl_12 fl_X12_39 dX12_readWord_67 s_224 (by decide) rfl (by decide) ?_
    refine sx_iload_n dX12_readWord_70 rfl ?_
    refine sx_aload_n dX12_readWord_71 rfl ?_
    refine sx_getS (k := 12) (t := 228) cl_12 fl_X12_24 dX12_readWord_72 s_224 (by decide) rfl (by decide) ?_
    refine sx_aload_n dX12_readWord_75 rfl ?_
    refine sx_getI (k := 37) cl_12 fl_X12_340 dX12_readWord_76 s_224 (by decide) rfl (by decide) ?_
    have r7 : (0 : Int) ≤ h6 224 37 ∧ h6 224 37 ≤ 1 := Ih6.1 224 37
    refine sy_iaF (F := fun z => (0 : Int) ≤ z ∧ z ≤ 60) dX12_readWord_79 s_228 (by decide) (by decide) ⟨by omega, by omega⟩ (Ih6.1 228 _) (fun r8 => ?_)
    refine sy_iastore dX12_readWord_80 s_233 (by decide) (by decide) ⟨by omega, by omega⟩ (fun h9 eh9 => ?_)
    have Ih9 := Ih6.up eh9 (show (0 : Int) ≤ _ ∧ _ ≤ (60 : Int) from ⟨by omega, by omega⟩) (decide_eq_false (np_6 (by omega) hyb))
    have th9_224_3 := eh9.2 (224) 3 (fun q => absurd q.1 (by decide))
    have th9_224_4 := eh9.2 (224) 4 (fun q => absurd q.1 (by decide))
    have th9_224_7 := eh9.2 (224) 7 (fun q => absurd q.1 (by decide))
    have th9_224_8 := eh9.2 (224) 8 (fun q => absurd q.1 (by decide))
    have th9_224_37 := eh9.2 (224) 37 (fun q => absurd q.1 (by decide))
    have th9_224_52 := eh9.2 (224) 52 (fun q => absurd q.1 (by decide))
    have th9_224_53 := eh9.2 (224) 53 (fun q => absurd q.1 (by decide))
    have th9_224_54 := eh9.2 (224) 54 (fun q => absurd q.1 (by decide))
    have th9_224_55 := eh9.2 (224) 55 (fun q => absurd q.1 (by decide))
    have th9_224_56 := eh9.2 (224) 56 (fun q => absurd q.1 (by decide))
    have th9_224_57 := eh9.2 (224) 57 (fun q => absurd q.1 (by decide))
    have th9_224_10 := eh9.2 (224) 10 (fun q => absurd q.1 (by decide))
    refine sx_aload_n dX12_readWord_81 rfl ?_
    refine sx_getS (k := 18) (t := 234) cl_12 fl_X12_42 dX12_readWord_82 s_224 (by decide) rfl (by decide) ?_
    refine sx_iload_n dX12_readWord_85 rfl ?_
    refine sx_iconst dX12_readWord_86 ⟨by decide, by decide⟩ ?_
    refine sy_iastore dX12_readWord_87 s_234 (by decide) (by decide) ⟨by omega, by omega⟩ (fun h10 eh10 => ?_)
    have Ih10 := Ih9.up eh10 (show (0 : Int) ≤ _ ∧ _ ≤ (20 : Int) from ⟨by omega, by omega⟩) (decide_eq_false (np_6 (by omega) hyb))
    have th10_224_3 := eh10.2 (224) 3 (fun q => absurd q.1 (by decide))
    have th10_224_4 := eh10.2 (224) 4 (fun q => absurd q.1 (by decide))
    have th10_224_7 := eh10.2 (224) 7 (fun q => absurd q.1 (by decide))
    have th10_224_8 := eh10.2 (224) 8 (fun q => absurd q.1 (by decide))
    have th10_224_37 := eh10.2 (224) 37 (fun q => absurd q.1 (by decide))
    have th10_224_52 := eh10.2 (224) 52 (fun q => absurd q.1 (by decide))
    have th10_224_53 := eh10.2 (224) 53 (fun q => absurd q.1 (by decide))
    have th10_224_54 := eh10.2 (224) 54 (fun q => absurd q.1 (by decide))
    have th10_224_55 := eh10.2 (224) 55 (fun q => absurd q.1 (by decide))
    have th10_224_56 := eh10.2 (224) 56 (fun q => absurd q.1 (by decide))
    have th10_224_57 := eh10.2 (224) 57 (fun q => absurd q.1 (by decide))
    have th10_224_10 := eh10.2 (224) 10 (fun q => absurd q.1 (by decide))
    refine sx_aload_n dX12_readWord_88 rfl ?_
    refine sx_aload_n dX12_readWord_89 rfl ?_
    refine sx_getI (k := 37) cl_12 fl_X12_340 dX12_readWord_90 s_224 (by decide) rfl (by decide) ?_
    have r11 : (0 : Int) ≤ h10 224 37 ∧ h10 224 37 ≤ 1 := Ih10.1 224 37
    refine sx_callVv lk_X12_390 cl_12 s_224 (by decide) dX12_readWord_93 (vs := [_]) rfl rfl (Nat.le_of_ble_eq_true rfl) (Nat.le_of_ble_eq_true rfl) rfl (c_X12_beginLook _ Ih10.1 _ (by omega)) (fun h12 ph12 => ?_)
    obtain ⟨Kh12, b_h12⟩ := ph12
    have Ih12 := Ih10.tr Kh12 (prBW_sub rfl rfl rfl)
    have th12_224_3 := Kh12.2 224 3 rfl
    have th12_224_4 := Kh12.2 224 4 rfl
    have th12_224_7 := Kh12.2 224 7 rfl
    have th12_224_8 := Kh12.2 224 8 rfl
    have th12_224_37 := Kh12.2 224 37 rfl
    have th12_224_10 := Kh12.2 224 10 rfl
    have k33 : h12 233 (6 * (1 - (b : Int)) + w).toNat = h0 228 (1 - (b : Int)).toNat := (by rw [show h12 233 (6 * (1 - (b : Int)) + w).toNat = _ from Kh12.2 233 (6 * (1 - (b : Int)) + w).toNat rfl, eh10.2 233 (6 * (1 - (b : Int)) + w).toNat (fun q => absurd q.1 (by decide)), eh9.at 233 (6 * (1 - (b : Int)) + w).toNat, show h6 233 (6 * (1 - (b : Int)) + w).toNat = _ from Kh6.2 233 (6 * (1 - (b : Int)) + w).toNat rfl]; all_goals (try simp only [Nat.reduceEqDiff, false_and, if_false, true_and]); all_goals (try rw [if_pos (by omega)]); all_goals (first | done | rfl | (rw [e28])))
    have k34 : h12 234 (6 * (1 - (b : Int)) + w).toNat = 0 := (by rw [show h12 234 (6 * (1 - (b : Int)) + w).toNat = _ from Kh12.2 234 (6 * (1 - (b : Int)) + w).toNat rfl, eh10.at 234 (6 * (1 - (b : Int)) + w).toNat, eh9.2 234 (6 * (1 - (b : Int)) + w).toNat (fun q => absurd q.1 (by decide)), show h6 234 (6 * (1 - (b : Int)) + w).toNat = _ from Kh6.2 234 (6 * (1 - (b : Int)) + w).toNat rfl]; all_goals (try simp only [Nat.reduceEqDiff, false_and, if_false, true_and]); all_goals (try rw [if_pos (by omega)]); all_goals (first | done | rfl | omega))
    have k28 : h12 228 (1 - (b : Int)).toNat = h0 228 (1 - (b : Int)).toNat := (by rw [show h12 228 _ = _ from Kh12.2 228 _ rfl, eh10.2 228 _ (fun q => absurd q.1 (by decide)), eh9.2 228 _ (fun q => absurd q.1 (by decide)), show h6 228 _ = _ from Kh6.2 228 _ rfl])
    have r28 : (0 : Int) ≤ h0 228 (1 - (b : Int)).toNat ∧ h0 228 (1 - (b : Int)).toNat ≤ 60 := hJ 228 _
    have R0 : RI h12 (1 - (b : Int)) w 0 := RI_begin (by omega) k34 (by omega) (by omega) (by omega) (by omega) (by omega) (by omega) (by omega) (by omega)
    have B0 : RBx h12 (1 - (b : Int)) w (h12 233 (6 * (1 - (b : Int)) + w).toNat) := by rw [k33]; exact RBx_frame (by omega) ⟨fun a k q1 q2 q3 q4 => by have q : a = 233 ∨ a = 234 ∨ a = 235 ∨ a = 236 ∨ a = 237 := (by omega); rcases q with rfl | rfl | rfl | rfl | rfl; (focus (rw [show h12 233 k = _ from Kh12.2 233 k rfl, eh10.2 233 k (fun q => absurd q.1 (by decide)), eh9.at 233 k, show h6 233 k = _ from Kh6.2 233 k rfl]; all_goals (try simp only [Nat.reduceEqDiff, false_and, if_false, true_and]); all_goals (first | rfl | rw [if_neg (by omega)]))); (focus (rw [show h12 234 k = _ from Kh12.2 234 k rfl, eh10.at 234 k, eh9.2 234 k (fun q => absurd q.1 (by decide)), show h6 234 k = _ from Kh6.2 234 k rfl]; all_goals (try simp only [Nat.reduceEqDiff, false_and, if_false, true_and]); all_goals (first | rfl | rw [if_neg (by omega)]))); (focus (rw [show h12 235 k = _ from Kh12.2 235 k rfl, eh10.2 235 k (fun q => absurd q.1 (by decide)), eh9.2 235 k (fun q => absurd q.1 (by decide)), show h6 235 k = _ from Kh6.2 235 k rfl]; all_goals (try simp only [Nat.reduceEqDiff, false_and, if_false, true_and]); all_goals (first | rfl | rw [if_neg (by omega)]))); (focus (rw [show h12 236 k = _ from Kh12.2 236 k rfl, eh10.2 236 k (fun q => absurd q.1 (by decide)), eh9.2 236 k (fun q => absurd q.1 (by decide)), show h6 236 k = _ from Kh6.2 236 k rfl]; all_goals (try simp only [Nat.reduceEqDiff, false_and, if_false, true_and]); all_goals (first | rfl | rw [if_neg (by omega)]))); (focus (rw [show h12 237 k = _ from Kh12.2 237 k rfl, eh10.2 237 k (fun q => absurd q.1 (by decide)), eh9.2 237 k (fun q => absurd q.1 (by decide)), show h6 237 k = _ from Kh6.2 237 k rfl]; all_goals (try simp only [Nat.reduceEqDiff, false_and, if_false, true_and]); all_goals (first | rfl | rw [if_neg (by omega)]))), fun a k q q1 q2 => by rcases q with rfl | rfl | rfl; (focus rw [show h12 240 k = _ from Kh12.2 240 k rfl, eh10.2 240 k (fun q => absurd q.1 (by decide)), eh9.2 240 k (fun q => absurd q.1 (by decide)), show h6 240 k = _ from Kh6.2 240 k rfl]); (focus rw [show h12 241 k = _ from Kh12.2 241 k rfl, eh10.2 241 k (fun q => absurd q.1 (by decide)), eh9.2 241 k (fun q => absurd q.1 (by decide)), show h6 241 k = _ from Kh6.2 241 k rfl]); (focus rw [show h12 243 k = _ from Kh12.2 243 k rfl, eh10.2 243 k (fun q => absurd q.1 (by decide)), eh9.2 243 k (fun q => absurd q.1 (by decide)), show h6 243 k = _ from Kh6.2 243 k rfl])⟩ hB
    have k27 : h12 227 (1 - (b : Int)).toNat = w := ((by rw [show h12 227 _ = _ from Kh12.2 227 _ rfl, eh10.2 227 _ (fun q => absurd q.1 (by decide)), eh9.2 227 _ (fun q => absurd q.1 (by decide)), show h6 227 _ = _ from Kh6.2 227 _ rfl]) : h12 227 (1 - (b : Int)).toNat = h0 227 (1 - (b : Int)).toNat).trans (by omega)
    refine sx_loop0 (fun (h : sw_H) => (mK (prB b [4, 5, 6, 7, 8, 9, 10, 52, 53, 54, 55, 56, 57, 58] [227, 228, 233, 234, 235, 236, 237, 238, 239, 240, 241, 242, 243, 246, 252, 253, 254, 255, 256, 257, 258, 259, 260]) h0 h) ∧ (h 224 7 ≤ h 224 3 ∧ (h 224 8 = 0 → h 224 7 = h 224 3)) ∧ (h0 224 7 ≤ h 224 7) ∧ ((h0 224 8 = 0 → h 224 8 = 0)) ∧ (h 224 37 = 1 - (b : Int)) ∧ (h 227 (1 - (b : Int)).toNat = w) ∧ (imp (h 224 4 = 0) (∃ i : Nat, RI h (1 - (b : Int)) w i ∧ RBx h (1 - (b : Int)) w (h 233 (6 * (1 - (b : Int)) + w).toNat)))) (fun (h : sw_H) => (if h 224 4 = 0 then 21 - h 234 (6 * (1 - (b : Int)) + w).toNat else 0).toNat) (fun (h : sw_H) => sw_E G NH SH (d + 5) mX12_readWord 96 [some (sw_r 224), some (sw_i v4), some (sw_l (h0 224 10)), none] [] h (sw_Qv (fun h' => mK (prB b [4, 5, 6, 7, 8, 9, 10, 52, 53, 54, 55, 56, 57, 58] [227, 228, 233, 234, 235, 236, 237, 238, 239, 240, 241, 242, 243, 246, 252, 253, 254, 255, 256, 257, 258, 259, 260]) h0 h' ∧ (h' 224 7 ≤ h' 224 3 ∧ (h' 224 8 = 0 → h' 224 7 = h' 224 3)) ∧ (h0 224 7 ≤ h' 224 7 ∧ (h0 224 8 = 0 → h' 224 8 = 0)) ∧ (h' 227 (1 - (b : Int)).toNat = w + 1) ∧ (imp (h' 224 4 = 0) (RBx h' (1 - (b : Int)) (w + 1) (h' 228 (1 - (b : Int)).toNat)))))) ?_ _ ?_
    · rintro h14 ⟨Ih14, j1, j2, j3, j4, j5, jr⟩ ihh14
      try dsimp only at ihh14
      refine sx_aload_n dX12_readWord_96 rfl ?_
      refine sx_callVz lk_X12_330 cl_12 s_224 (by decide) dX12_readWord_97 (vs := []) rfl rfl (Nat.le_of_ble_eq_true rfl) (Nat.le_of_ble_eq_true rfl) rfl (c_X12_isGood _ Ih14.1) (fun x16 h15 zx16 ph15 => ?_)
      obtain ⟨rfl, p_x16⟩ := ph15
      refine sx_if_eq (tgt := 120) dX12_readWord_100 (by decide) (fun c17 => ?_) (fun c17 => ?_)
      ·
        replace p_x16 := mt p_x16.mpr (show ¬ (x16 = 1) by rw [c17]; decide)
        clear zx16
        exact rt2_readWord d hJ b Ih14 w _ _ (by omega) (by omega) (by omega) (by omega) (by omega) (by omega) jr
      ·
        have vx16 : x16 = 1 := by rcases zx16 with q | q; (exact absurd q c17); exact q
        replace p_x16 := p_x16.mp vx16
        clear zx16
        refine sx_aload_n dX12_readWord_103 rfl ?_
        refine sx_bipush dX12_readWord_104 ⟨by decide, by decide, by decide⟩ ?_
        refine sx_callVz lk_X12_379 cl_12 s_224 (by decide) dX12_readWord_106 (vs := [_]) rfl rfl (Nat.le_of_ble_eq_true rfl) (Nat.le_of_ble_eq_true rfl) rfl (c2_X12_isSignHere _ Ih14.1 _) (fun x19 h18 zx19 ph18 => ?_)
        obtain ⟨rfl, p_x19⟩ := ph18
        refine sx_if_ne (tgt := 120) dX12_readWord_109 (by decide) (fun c20 => ?_) (fun c20 => ?_)
        ·
          have vx19 : x19 = 1 := by rcases zx19 with q | q; (exact absurd q c20); exact q
          replace p_x19 := p_x19 vx19
          clear zx19
          exact rt2_readWord d hJ b Ih14 w _ _ (by omega) (by omega) (by omega) (by omega) (by omega) (by omega) jr
        ·
          clear p_x19
          clear zx19
          obtain ⟨i, hRI, hB1⟩ := jr (by omega)
          refine sx_aload_n dX12_readWord_112 rfl ?_
          refine sx_iload_n dX12_readWord_113 rfl ?_
          refine sx_callVv lk_X12_394 cl_12 s_224 (by decide) dX12_readWord_114 (vs := [_]) rfl rfl (Nat.le_of_ble_eq_true rfl) (Nat.le_of_ble_eq_true rfl) rfl (c_X12_readItem _ Ih14.1 b w i _ (by omega) (by omega) (by omega) (by omega) (by omega) hRI hB1) (fun h21 ph21 => ?_)
          obtain ⟨Kh21, a_h21, m_h21, r_h21⟩ := ph21
          have Ih21 := Ih14.tr Kh21 (prB_sub rfl rfl)
          have th21_224_3 := Kh21.2 224 3 rfl
          have th21_224_37 := Kh21.2 224 37 rfl
          have th21_224_52 := Kh21.2 224 52 rfl
          refine sx_goto (tgt := 96) dX12_readWord_117 (by decide) ?_
          exact ihh14 _ ⟨Ih21, by omega, by omega, by omega, by omega, (by rw [Kh21.2 227 _ rfl]; omega), fun q => ⟨i + 1, r_h21 q⟩⟩ (by have i1 := hRI.2.1; rw [if_pos (show h14 224 4 = 0 by omega)]; by_cases q : h21 224 4 = 0; (rw [if_pos q]; have i2 := (r_h21 q).1.2.1; have i3 := (r_h21 q).1.2.2.1; omega); (rw [if_neg q]; have i3 := hRI.2.2.1; omega))
    · exact ⟨Ih12, by omega, by omega, by omega, by omega, by exact k27, by exact fun _ => ⟨0, R0, B0⟩⟩
  refine sx_callVi lk_X12_386 cl_12 s_224 (by decide) dX12_readWord_19 (vs := []) rfl rfl (Nat.le_of_ble_eq_true rfl) (Nat.le_of_ble_eq_true rfl) rfl (c_X12_here _ hI.1) (fun x24 h23 ph23 => ?_)
  obtain ⟨rfl, p_x24, a_x24, b_x24⟩ := ph23
  clear a_x24 b_x24
  refine sx_if_lt (tgt := 34) dX12_readWord_22 (by decide) (fun c25 => ?_) (fun c25 => ?_)
  ·
    refine sx_aload_n dX12_readWord_34 rfl ?_
    refine sx_getL (k := 10) cl_12 fl_X12_309 dX12_readWord_35 s_224 (by decide) rfl (by decide) ?_
    refine sx_lstore_n dX12_readWord_38 (by decide) ?_
    refine sx_aload_n dX12_readWord_39 rfl ?_
    refine sx_aload_n dX12_readWord_40 rfl ?_
    refine sx_getI (k := 8) cl_12 fl_X12_302 dX12_readWord_41 s_224 (by decide) rfl (by decide) ?_
    have r26 : (0 : Int) ≤ h0 224 8 ∧ h0 224 8 ≤ 5 := hI.1 224 8
    refine sx_iconst dX12_readWord_44 ⟨by decide, by decide⟩ ?_
    refine sx_icmp_ne (tgt := 52) dX12_readWord_45 (by decide) (fun c27 => ?_) (fun c27 => ?_)
    ·
      refine sx_iconst dX12_readWord_52 ⟨by decide, by decide⟩ ?_
      refine sx_callVv lk_X12_382 cl_12 s_224 (by decide) dX12_readWord_53 (vs := [_]) rfl rfl (Nat.le_of_ble_eq_true rfl) (Nat.le_of_ble_eq_true rfl) rfl (c_X12_must _ hI.1 _ (by omega)) (fun h28 ph28 => ?_)
      obtain ⟨Kh28, a_h28, m_h28, g_h28⟩ := ph28
      have Ih28 := hI.tr Kh28 (prBW_sub rfl rfl rfl)
      have th28_224_3 := Kh28.2 224 3 rfl
      have th28_224_37 := Kh28.2 224 37 rfl
      have th28_224_52 := Kh28.2 224 52 rfl
      have th28_224_53 := Kh28.2 224 53 rfl
      have th28_224_54 := Kh28.2 224 54 rfl
      have th28_224_55 := Kh28.2 224 55 rfl
      have th28_224_56 := Kh28.2 224 56 rfl
      have th28_224_57 := Kh28.2 224 57 rfl
      clear g_h28
      refine sx_aload_n dX12_readWord_56 rfl ?_
      refine sx_aload_n dX12_readWord_57 rfl ?_
      refine sx_bipush dX12_readWord_58 ⟨by decide, by decide, by decide⟩ ?_
      refine sx_callVz lk_X12_379 cl_12 s_224 (by decide) dX12_readWord_60 (vs := [_]) rfl rfl (Nat.le_of_ble_eq_true rfl) (Nat.le_of_ble_eq_true rfl) rfl (c2_X12_isSignHere _ Ih28.1 _) (fun x31 h30 zx31 ph30 => ?_)
      obtain ⟨rfl, p_x31⟩ := ph30
      clear p_x31 zx31
      refine sx_callVv lk_X12_382 cl_12 s_224 (by decide) dX12_readWord_63 (vs := [_]) rfl rfl (Nat.le_of_ble_eq_true rfl) (Nat.le_of_ble_eq_true rfl) rfl (c_X12_must _ Ih28.1 _ (by omega)) (fun h32 ph32 => ?_)
      obtain ⟨Kh32, a_h32, m_h32, g_h32⟩ := ph32
      have Ih32 := Ih28.tr Kh32 (prBW_sub rfl rfl rfl)
      have th32_224_3 := Kh32.2 224 3 rfl
      have th32_224_37 := Kh32.2 224 37 rfl
      have th32_224_52 := Kh32.2 224 52 rfl
      have th32_224_53 := Kh32.2 224 53 rfl
      have th32_224_54 := Kh32.2 224 54 rfl
      have th32_224_55 := Kh32.2 224 55 rfl
      have th32_224_56 := Kh32.2 224 56 rfl
      have th32_224_57 := Kh32.2 224 57 rfl
      clear g_h32
      exact J66_n5 _ Ih32 (mK.tr (mK.tr (mK.refl hJ) Kh28 (prW_sub rfl rfl)) Kh32 (prW_sub rfl rfl)) (by omega) (by omega)
    ·
      refine sx_iconst dX12_readWord_48 ⟨by decide, by decide⟩ ?_
      refine sx_goto (tgt := 53) dX12_readWord_49 (by decide) ?_
      refine sx_callVv lk_X12_382 cl_12 s_224 (by decide) dX12_readWord_53 (vs := [_]) rfl rfl (Nat.le_of_ble_eq_true rfl) (Nat.le_of_ble_eq_true rfl) rfl (c_X12_must _ hI.1 _ (by omega)) (fun h34 ph34 => ?_)
      obtain ⟨Kh34, a_h34, m_h34, g_h34⟩ := ph34
      have Ih34 := hI.tr Kh34 (prBW_sub rfl rfl rfl)
      have th34_224_3 := Kh34.2 224 3 rfl
      have th34_224_37 := Kh34.2 224 37 rfl
      have th34_224_52 := Kh34.2 224 52 rfl
      have th34_224_53 := Kh34.2 224 53 rfl
      have th34_224_54 := Kh34.2 224 54 rfl
      have th34_224_55 := Kh34.2 224 55 rfl
      have th34_224_56 := Kh34.2 224 56 rfl
      have th34_224_57 := Kh34.2 224 57 rfl
      clear g_h34
      refine sx_aload_n dX12_readWord_56 rfl ?_
      refine sx_aload_n dX12_readWord_57 rfl ?_
      refine sx_bipush dX12_readWord_58 ⟨by decide, by decide, by decide⟩ ?_
      refine sx_callVz lk_X12_379 cl_12 s_224 (by decide) dX12_readWord_60 (vs := [_]) rfl rfl (Nat.le_of_ble_eq_true rfl) (Nat.le_of_ble_eq_true rfl) rfl (c2_X12_isSignHere _ Ih34.1 _) (fun x37 h36 zx37 ph36 => ?_)
      obtain ⟨rfl, p_x37⟩ := ph36
      clear p_x37 zx37
      refine sx_callVv lk_X12_382 cl_12 s_224 (by decide) dX12_readWord_63 (vs := [_]) rfl rfl (Nat.le_of_ble_eq_true rfl) (Nat.le_of_ble_eq_true rfl) rfl (c_X12_must _ Ih34.1 _ (by omega)) (fun h38 ph38 => ?_)
      obtain ⟨Kh38, a_h38, m_h38, g_h38⟩ := ph38
      have Ih38 := Ih34.tr Kh38 (prBW_sub rfl rfl rfl)
      have th38_224_3 := Kh38.2 224 3 rfl
      have th38_224_37 := Kh38.2 224 37 rfl
      have th38_224_52 := Kh38.2 224 52 rfl
      have th38_224_53 := Kh38.2 224 53 rfl
      have th38_224_54 := Kh38.2 224 54 rfl
      have th38_224_55 := Kh38.2 224 55 rfl
      have th38_224_56 := Kh38.2 224 56 rfl
      have th38_224_57 := Kh38.2 224 57 rfl
      clear g_h38
      exact J66_n5 _ Ih38 (mK.tr (mK.tr (mK.refl hJ) Kh34 (prW_sub rfl rfl)) Kh38 (prW_sub rfl rfl)) (by omega) (by omega)
  ·
    refine sx_aload_n dX12_readWord_25 rfl ?_
    refine sx_iconst dX12_readWord_26 ⟨by decide, by decide⟩ ?_
    refine sx_aload_n dX12_readWord_27 rfl ?_
    refine sx_getI (k := 6) cl_12 fl_X12_295 dX12_readWord_28 s_224 (by decide) rfl (by decide) ?_
    have r40 : (0 : Int) ≤ h0 224 6 ∧ h0 224 6 ≤ 1700 := hI.1 224 6
    refine sx_callVv lk_X12_326 cl_12 s_224 (by decide) dX12_readWord_31 (vs := [_, _]) rfl rfl (Nat.le_of_ble_eq_true rfl) (Nat.le_of_ble_eq_true rfl) rfl (c_X12_fails _ hI.1 _ _ (by omega)) (fun h41 ph41 => ?_)
    obtain ⟨Kh41, g_h41⟩ := ph41
    have Ih41 := hI.tr Kh41 (prBW_sub rfl rfl rfl)
    have th41_224_3 := Kh41.2 224 3 rfl
    have th41_224_7 := Kh41.2 224 7 rfl
    have th41_224_8 := Kh41.2 224 8 rfl
    have th41_224_37 := Kh41.2 224 37 rfl
    have th41_224_52 := Kh41.2 224 52 rfl
    have th41_224_53 := Kh41.2 224 53 rfl
    have th41_224_54 := Kh41.2 224 54 rfl
    have th41_224_55 := Kh41.2 224 55 rfl
    have th41_224_56 := Kh41.2 224 56 rfl
    have th41_224_57 := Kh41.2 224 57 rfl
    have th41_224_10 := Kh41.2 224 10 rfl
    refine sx_aload_n dX12_readWord_34 rfl ?_
    refine sx_getL (k := 10) cl_12 fl_X12_309 dX12_readWord_35 s_224 (by decide) rfl (by decide) ?_
    rw [show h41 224 10 = h0 224 10 by omega]
    refine sx_lstore_n dX12_readWord_38 (by decide) ?_
    refine sx_aload_n dX12_readWord_39 rfl ?_
    refine sx_aload_n dX12_readWord_40 rfl ?_
    refine sx_getI (k := 8) cl_12 fl_X12_302 dX12_readWord_41 s_224 (by decide) rfl (by decide) ?_
    have r43 : (0 : Int) ≤ h41 224 8 ∧ h41 224 8 ≤ 5 := Ih41.1 224 8
    refine sx_iconst dX12_readWord_44 ⟨by decide, by decide⟩ ?_
    refine sx_icmp_ne (tgt := 52) dX12_readWord_45 (by decide) (fun c44 => ?_) (fun c44 => ?_)
    ·
      refine sx_iconst dX12_readWord_52 ⟨by decide, by decide⟩ ?_
      refine sx_callVv lk_X12_382 cl_12 s_224 (by decide) dX12_readWord_53 (vs := [_]) rfl rfl (Nat.le_of_ble_eq_true rfl) (Nat.le_of_ble_eq_true rfl) rfl (c_X12_must _ Ih41.1 _ (by omega)) (fun h45 ph45 => ?_)
      obtain ⟨Kh45, a_h45, m_h45, g_h45⟩ := ph45
      have Ih45 := Ih41.tr Kh45 (prBW_sub rfl rfl rfl)
      have th45_224_3 := Kh45.2 224 3 rfl
      have th45_224_37 := Kh45.2 224 37 rfl
      have th45_224_52 := Kh45.2 224 52 rfl
      have th45_224_53 := Kh45.2 224 53 rfl
      have th45_224_54 := Kh45.2 224 54 rfl
      have th45_224_55 := Kh45.2 224 55 rfl
      have th45_224_56 := Kh45.2 224 56 rfl
      have th45_224_57 := Kh45.2 224 57 rfl
      clear g_h45
      refine sx_aload_n dX12_readWord_56 rfl ?_
      refine sx_aload_n dX12_readWord_57 rfl ?_
      refine sx_bipush dX12_readWord_58 ⟨by decide, by decide, by decide⟩ ?_
      refine sx_callVz lk_X12_379 cl_12 s_224 (by decide) dX12_readWord_60 (vs := [_]) rfl rfl (Nat.le_of_ble_eq_true rfl) (Nat.le_of_ble_eq_true rfl) rfl (c2_X12_isSignHere _ Ih45.1 _) (fun x48 h47 zx48 ph47 => ?_)
      obtain ⟨rfl, p_x48⟩ := ph47
      clear p_x48 zx48
      refine sx_callVv lk_X12_382 cl_12 s_224 (by decide) dX12_readWord_63 (vs := [_]) rfl rfl (Nat.le_of_ble_eq_true rfl) (Nat.le_of_ble_eq_true rfl) rfl (c_X12_must _ Ih45.1 _ (by omega)) (fun h49 ph49 => ?_)
      obtain ⟨Kh49, a_h49, m_h49, g_h49⟩ := ph49
      have Ih49 := Ih45.tr Kh49 (prBW_sub rfl rfl rfl)
      have th49_224_3 := Kh49.2 224 3 rfl
      have th49_224_37 := Kh49.2 224 37 rfl
      have th49_224_52 := Kh49.2 224 52 rfl
      have th49_224_53 := Kh49.2 224 53 rfl
      have th49_224_54 := Kh49.2 224 54 rfl
      have th49_224_55 := Kh49.2 224 55 rfl
      have th49_224_56 := Kh49.2 224 56 rfl
      have th49_224_57 := Kh49.2 224 57 rfl
      clear g_h49
      exact J66_n5 _ Ih49 (mK.tr (mK.tr (mK.tr (mK.refl hJ) Kh41 (prW_sub rfl rfl)) Kh45 (prW_sub rfl rfl)) Kh49 (prW_sub rfl rfl)) (by omega) (by omega)
    ·
      refine sx_iconst dX12_readWord_48 ⟨by decide, by decide⟩ ?_
      refine sx_goto (tgt := 53) dX12_readWord_49 (by decide) ?_
      refine sx_callVv lk_X12_382 cl_12 s_224 (by decide) dX12_readWord_53 (vs := [_]) rfl rfl (Nat.le_of_ble_eq_true rfl) (Nat.le_of_ble_eq_true rfl) rfl (c_X12_must _ Ih41.1 _ (by omega)) (fun h51 ph51 => ?_)
      obtain ⟨Kh51, a_h51, m_h51, g_h51⟩ := ph51
      have Ih51 := Ih41.tr Kh51 (prBW_sub rfl rfl rfl)
      have th51_224_3 := Kh51.2 224 3 rfl
      have th51_224_37 := Kh51.2 224 37 rfl
      have th51_224_52 := Kh51.2 224 52 rfl
      have th51_224_53 := Kh51.2 224 53 rfl
      have th51_224_54 := Kh51.2 224 54 rfl
      have th51_224_55 := Kh51.2 224 55 rfl
      have th51_224_56 := Kh51.2 224 56 rfl
      have th51_224_57 := Kh51.2 224 57 rfl
      clear g_h51
      refine sx_aload_n dX12_readWord_56 rfl ?_
      refine sx_aload_n dX12_readWord_57 rfl ?_
      refine sx_bipush dX12_readWord_58 ⟨by decide, by decide, by decide⟩ ?_
      refine sx_callVz lk_X12_379 cl_12 s_224 (by decide) dX12_readWord_60 (vs := [_]) rfl rfl (Nat.le_of_ble_eq_true rfl) (Nat.le_of_ble_eq_true rfl) rfl (c2_X12_isSignHere _ Ih51.1 _) (fun x54 h53 zx54 ph53 => ?_)
      obtain ⟨rfl, p_x54⟩ := ph53
      clear p_x54 zx54
      refine sx_callVv lk_X12_382 cl_12 s_224 (by decide) dX12_readWord_63 (vs := [_]) rfl rfl (Nat.le_of_ble_eq_true rfl) (Nat.le_of_ble_eq_true rfl) rfl (c_X12_must _ Ih51.1 _ (by omega)) (fun h55 ph55 => ?_)
      obtain ⟨Kh55, a_h55, m_h55, g_h55⟩ := ph55
      have Ih55 := Ih51.tr Kh55 (prBW_sub rfl rfl rfl)
      have th55_224_3 := Kh55.2 224 3 rfl
      have th55_224_37 := Kh55.2 224 37 rfl
      have th55_224_52 := Kh55.2 224 52 rfl
      have th55_224_53 := Kh55.2 224 53 rfl
      have th55_224_54 := Kh55.2 224 54 rfl
      have th55_224_55 := Kh55.2 224 55 rfl
      have th55_224_56 := Kh55.2 224 56 rfl
      have th55_224_57 := Kh55.2 224 57 rfl
      clear g_h55
      exact J66_n5 _ Ih55 (mK.tr (mK.tr (mK.tr (mK.refl hJ) Kh41 (prW_sub rfl rfl)) Kh51 (prW_sub rfl rfl)) Kh55 (prW_sub rfl rfl)) (by omega) (by omega)

-- ===== the reading of a CODE =====
theorem RBx_fr {h h1 : sw_H} {r w X : Int} (hr : 0 ≤ r) (e1 : ∀ a k, 233 ≤ a → a ≤ 237 → h1 a k = h a k) (e2 : ∀ a k, a = 240 ∨ a = 241 ∨ a = 243 → h1 a k = h a k) (R : RBx h r w X) : RBx h1 r w X := RBx_frame hr ⟨fun a k q1 q2 _ _ => e1 a k q1 q2, fun a k q _ _ => e2 a k q⟩ R
def LnI (h : sw_H) (r : Int) : Prop := RBx h r (h 227 r.toNat) (h 228 r.toNat) ∧ 560 * r ≤ h 224 38 ∧ h 224 38 - 560 * r ≤ 9 * h 229 r.toNat
theorem RR_eq {h h1 : sw_H} {r : Int} (hr : 0 ≤ r) (e4 : h1 244 r.toNat = h 244 r.toNat) (e5 : h1 245 r.toNat = h 245 r.toNat) (e7 : ∀ k : Nat, 560 * r ≤ k → (k : Int) < 560 * r + 560 → h1 247 k = h 247 k) (k : RR h r) : RR h1 r := by
  unfold RR
  rw [e4, e5]
  intro q
  obtain ⟨k1, k2, k3⟩ := k q
  exact ⟨k1, k2, dOK_congr (fun j hj => (e7 _ (by omega) (by omega)).symm) k3⟩
theorem prB_bk {b : Nat} {fs as : List Nat} {a k : Nat} (h : bk b a k = true) : prB b fs as a k = true := by
  unfold prB
  rw [h, Bool.or_true]
theorem bk_1 {b a : Nat} (h : (227 ≤ a ∧ a ≤ 232) ∨ a = 244 ∨ a = 245) : bk b a b = true := by
  unfold bk
  rw [if_neg (by omega)]
  rcases h with h | h | h
  · rw [if_pos (by omega)]; exact beq_self_eq_true b
  · rw [if_neg (by omega), if_neg (by omega), if_neg (by omega), if_pos (by omega)]; exact beq_self_eq_true b
  · rw [if_neg (by omega), if_neg (by omega), if_neg (by omega), if_pos (by omega)]; exact beq_self_eq_true b
theorem bk_6 {b a k : Nat} (h : 233 ≤ a ∧ a ≤ 239) (hk : 6 * b ≤ k ∧ k < 6 * b + 6) : bk b a k = true := by
  unfold bk
  rw [if_neg (by omega), if_neg (by omega), if_pos (by omega)]
  exact decide_eq_true hk
theorem bk_60 {b a k : Nat} (h : 240 ≤ a ∧ a ≤ 243) (hk : 60 * b ≤ k ∧ k < 60 * b + 60) : bk b a k = true := by
  unfold bk
  rw [if_neg (by omega), if_neg (by omega), if_neg (by omega), if_pos (by omega)]
  exact decide_eq_true hk
theorem bk_560 {b k : Nat} (hk : 560 * b ≤ k ∧ k < 560 * b + 560) : bk b 247 k = true := by
  unfold bk
  rw [if_neg (by omega), if_neg (by omega), if_neg (by omega), if_neg (by omega), if_neg (by omega), if_neg (by omega), if_pos (by omega)]
  exact decide_eq_true hk
/-- the CODE: both rows of codes, the WORDS of the bank in use -/
def mC (h : sw_H) : Prop := RR h 0 ∧ RR h 1 ∧ RBx h (h 224 36) (h 227 (h 224 36).toNat) (h 228 (h 224 36).toNat)
/-- what holds between calls -/
def mB (h : sw_H) : Prop := mC h ∧ h 224 71 = -1 ∧ h 224 73 + h 224 74 ≤ 40 ∧ h 224 85 = -1
/-- the bank in use stays while the other one is read -/
theorem mC_keep {b : Nat} {fs as : List Nat} {h h1 : sw_H} (K : mK (prB b fs as) h h1) (hJ : mI h) (hb : b ≤ 1) (R : RBx h b (h 227 b) (h 228 b)) (Q : RR h b) : RBx h1 b (h1 227 b) (h1 228 b) ∧ RR h1 b := by
  have e1 : ∀ a, ((227 ≤ a ∧ a ≤ 232) ∨ a = 244 ∨ a = 245) → h1 a b = h a b := fun a q => K.2 a b (prB_bk (bk_1 q))
  have r7 : (0 : Int) ≤ h 227 b ∧ h 227 b ≤ 6 := hJ 227 b
  have r8 : (0 : Int) ≤ h 228 b ∧ h 228 b ≤ 60 := hJ 228 b
  rw [e1 227 (by omega), e1 228 (by omega)]
  refine ⟨RBx_frame (by omega) ⟨fun a k q1 q2 q3 q4 => K.2 a k (prB_bk (bk_6 (by omega) (by omega))), fun a k q q3 q4 => K.2 a k (prB_bk (bk_60 (by omega) (by omega)))⟩ R, ?_⟩
  refine RR_eq (by omega) ?_ ?_ (fun k q1 q2 => K.2 247 k (prB_bk (bk_560 (by omega)))) Q
  · rw [show (b : Int).toNat = b by omega]; exact e1 244 (by omega)
  · rw [show (b : Int).toNat = b by omega]; exact e1 245 (by omega)
theorem mC_cd {h h1 : sw_H} (e : ∀ a k, (a = 224 ∧ k = 36) ∨ (227 ≤ a ∧ a ≤ 248) → h1 a k = h a k) (hJ : mI h) (k : mC h) : mC h1 := by
  obtain ⟨k1, k2, k3⟩ := k
  have r : (0 : Int) ≤ h 224 36 ∧ h 224 36 ≤ 1 := hJ 224 36
  refine ⟨RR_eq (by decide) (e _ _ (by omega)) (e _ _ (by omega)) (fun j _ _ => e _ _ (by omega)) k1, RR_eq (by decide) (e _ _ (by omega)) (e _ _ (by omega)) (fun j _ _ => e _ _ (by omega)) k2, ?_⟩
  rw [e 224 36 (by omega), e 227 _ (by omega), e 228 _ (by omega)]
  exact RBx_fr (by omega) (fun a k q1 q2 => e a k (by omega)) (fun a k q => e a k (by omega)) k3
/-- a method that leaves the CODE as it is -/
theorem mC_mK {fs as : List Nat} {h h1 : sw_H} (K : mK (prW fs as) h h1) (hf : fs.all (fun x => !(x == 36)) = true) (ha : as.all (fun x => decide (x ≠ 224 ∧ (x < 227 ∨ 248 < x))) = true) (hJ : mI h) (k : mC h) : mC h1 := by
  refine mC_cd (fun a j q => K.2 a j ?_) hJ k
  rw [List.all_eq_true] at hf ha
  simp only [prW, Bool.not_eq_true', Bool.or_eq_false_iff, Bool.and_eq_false_iff, beq_eq_false_iff_ne, ne_eq]
  refine ⟨?_, ?_⟩
  · by_cases e : a = 224
    · right
      cases c : fs.contains j with
      | false => rfl
      | true =>
        have := hf j (List.contains_iff_mem.mp c)
        simp only [Bool.not_eq_true', beq_eq_false_iff_ne, ne_eq] at this
        omega
    · exact Or.inl e
  · cases c : as.contains a with
    | false => rfl
    | true => have := of_decide_eq_true (ha a (List.contains_iff_mem.mp c)); omega
theorem mB_mK {fs as : List Nat} {h h1 : sw_H} (K : mK (prW fs as) h h1) (hf : fs.all (fun x => !(x == 36 || x == 71 || x == 73 || x == 74 || x == 85)) = true) (ha : as.all (fun x => decide (x ≠ 224 ∧ (x < 227 ∨ 248 < x))) = true) (hJ : mI h) (k : mB h) : mB h1 := by
  have p : ∀ j, j = 36 ∨ j = 71 ∨ j = 73 ∨ j = 74 ∨ j = 85 → h1 224 j = h 224 j := by
    intro j hj
    refine K.2 224 j ?_
    rw [List.all_eq_true] at hf ha
    simp only [prW, Bool.not_eq_true', Bool.or_eq_false_iff, Bool.and_eq_false_iff, beq_eq_false_iff_ne, ne_eq]
    refine ⟨Or.inr ?_, ?_⟩
    · cases c : fs.contains j with
      | false => rfl
      | true =>
        have := hf j (List.contains_iff_mem.mp c)
        simp only [Bool.not_eq_true', Bool.or_eq_false_iff, beq_eq_false_iff_ne, ne_eq] at this
        omega
    · cases c : as.contains 224 with
      | false => rfl
      | true => have := of_decide_eq_true (ha 224 (List.contains_iff_mem.mp c)); omega
  refine ⟨mC_mK K ?_ ha hJ k.1, by rw [p 71 (by omega)]; exact k.2.1, by rw [p 73 (by omega), p 74 (by omega)]; exact k.2.2.1, by rw [p 85 (by omega)]; exact k.2.2.2⟩
  rw [List.all_eq_true] at hf ⊢
  intro x hx
  have := hf x hx
  simp only [Bool.not_eq_true', Bool.or_eq_false_iff, beq_eq_false_iff_ne, ne_eq] at this ⊢
  exact this.1.1.1.1

set_option maxRecDepth 20000 in
set_option maxHeartbeats 4000000 in
theorem rt2_readWord {G : sw_G} (d : Nat) {h0 hz : sw_H} (hJ : mI h0) (b : Nat) (Ihz : mK (prB b [4, 5, 6, 7, 8, 9, 10, 52, 53, 54, 55, 56, 57, 58] [227, 228, 233, 234, 235, 236, 237, 238, 239, 240, 241, 242, 243, 246, 252, 253, 254, 255, 256, 257, 258, 259, 260]) h0 hz) (w : Int) (y1 nm : Int) (hr : hz 224 37 = 1 - (b : Int) ∧ b ≤ 1) (ja1 : hz 224 7 ≤ hz 224 3 ∧ (hz 224 8 = 0 → hz 224 7 = hz 224 3)) (ja2 : h0 224 7 ≤ hz 224 7 ∧ (h0 224 8 = 0 → hz 224 8 = 0)) (hy : y1 = 6 * (1 - (b : Int)) + w) (hw : 0 ≤ w ∧ w < 6) (h227 : hz 227 (1 - (b : Int)).toNat = w) (hri : imp (hz 224 4 = 0) (∃ i : Nat, RI hz (1 - (b : Int)) w i ∧ RBx hz (1 - (b : Int)) w (hz 233 (6 * (1 - (b : Int)) + w).toNat))) : sw_E G NH SH (d + 5) mX12_readWord 120 [some (sw_r 224), some (sw_i y1), some (sw_l nm), none] [] hz (sw_Qv (fun h' => mK (prB b [4, 5, 6, 7, 8, 9, 10, 52, 53, 54, 55, 56, 57, 58] [227, 228, 233, 234, 235, 236, 237, 238, 239, 240, 241, 242, 243, 246, 252, 253, 254, 255, 256, 257, 258, 259, 260]) h0 h' ∧ (h' 224 7 ≤ h' 224 3 ∧ (h' 224 8 = 0 → h' 224 7 = h' 224 3)) ∧ (h0 224 7 ≤ h' 224 7 ∧ (h0 224 8 = 0 → h' 224 8 = 0)) ∧ (h' 227 (1 - (b : Int)).toNat = w + 1) ∧ (imp (h' 224 4 = 0) (RBx h' (1 - (b : Int)) (w + 1) (h' 228 (1 - (b : Int)).toNat))))) := by
  have hyb : 6 * (1 - (b : Int)) ≤ y1 ∧ y1 < 6 * (1 - (b : Int)) + 6 := by omega
  have em : y1.toNat = (6 * (1 - (b : Int)) + w).toNat := by omega
  have bb : 0 ≤ (b : Int) ∧ (b : Int) ≤ 1 := by omega
  refine sx_aload_n dX12_readWord_120 rfl ?_
  refine sx_callVz lk_X12_330 cl_12 s_224 (by decide) dX12_readWord_121 (vs := []) rfl rfl (Nat.le_of_ble_eq_true rfl) (Nat.le_of_ble_eq_true rfl) rfl (c_X12_isGood _ Ihz.1) (fun x2 h1 zx2 ph1 => ?_)
  obtain ⟨rfl, p_x2⟩ := ph1
  refine sx_if_eq (tgt := 138) dX12_readWord_124 (by decide) (fun c3 => ?_) (fun c3 => ?_)
  ·
    replace p_x2 := mt p_x2.mpr (show ¬ (x2 = 1) by rw [c3]; decide)
    clear zx2
    refine sx_aload_n dX12_readWord_138 rfl ?_
    refine sx_callVz lk_X12_330 cl_12 s_224 (by decide) dX12_readWord_139 (vs := []) rfl rfl (Nat.le_of_ble_eq_true rfl) (Nat.le_of_ble_eq_true rfl) rfl (c_X12_isGood _ Ihz.1) (fun x5 h4 zx5 ph4 => ?_)
    obtain ⟨rfl, p_x5⟩ := ph4
    refine sx_if_eq (tgt := 174) dX12_readWord_142 (by decide) (fun c6 => ?_) (fun c6 => ?_)
    ·
      replace p_x5 := mt p_x5.mpr (show ¬ (x5 = 1) by rw [c6]; decide)
      clear zx5
      refine sx_aload_n dX12_readWord_174 rfl ?_
      refine sx_aload_n dX12_readWord_175 rfl ?_
      refine sx_bipush dX12_readWord_176 ⟨by decide, by decide, by decide⟩ ?_
      refine sx_callVz lk_X12_379 cl_12 s_224 (by decide) dX12_readWord_178 (vs := [_]) rfl rfl (Nat.le_of_ble_eq_true rfl) (Nat.le_of_ble_eq_true rfl) rfl (c2_X12_isSignHere _ Ihz.1 _) (fun x8 h7 zx8 ph7 => ?_)
      obtain ⟨rfl, p_x8⟩ := ph7
      refine sx_callVv lk_X12_382 cl_12 s_224 (by decide) dX12_readWord_181 (vs := [_]) rfl rfl (Nat.le_of_ble_eq_true rfl) (Nat.le_of_ble_eq_true rfl) rfl (c_X12_must _ Ihz.1 _ (by omega)) (fun h9 ph9 => ?_)
      obtain ⟨Kh9, a_h9, m_h9, g_h9⟩ := ph9
      have Ih9 := Ihz.tr Kh9 (prBW_sub rfl rfl rfl)
      have th9_224_3 := Kh9.2 224 3 rfl
      have th9_224_37 := Kh9.2 224 37 rfl
      have th9_224_52 := Kh9.2 224 52 rfl
      have th9_224_53 := Kh9.2 224 53 rfl
      have th9_224_54 := Kh9.2 224 54 rfl
      have th9_224_55 := Kh9.2 224 55 rfl
      have th9_224_56 := Kh9.2 224 56 rfl
      have th9_224_57 := Kh9.2 224 57 rfl
      refine sx_aload_n dX12_readWord_184 rfl ?_
      refine sx_getS (k := 30) (t := 246) cl_12 fl_X12_78 dX12_readWord_185 s_224 (by decide) rfl (by decide) ?_
      refine sx_iload_n dX12_readWord_188 rfl ?_
      refine sx_lload_n dX12_readWord_189 rfl ?_
      refine sy_lastore dX12_readWord_190 s_246 (by decide) (by decide) ⟨by omega, by omega⟩ (fun h11 eh11 => ?_)
      have Ih11 := Ih9.up eh11 trivial (decide_eq_false (np_6 (by omega) hyb))
      have th11_224_3 := eh11.2 (224) 3 (fun q => absurd q.1 (by decide))
      have th11_224_4 := eh11.2 (224) 4 (fun q => absurd q.1 (by decide))
      have th11_224_7 := eh11.2 (224) 7 (fun q => absurd q.1 (by decide))
      have th11_224_8 := eh11.2 (224) 8 (fun q => absurd q.1 (by decide))
      have th11_224_37 := eh11.2 (224) 37 (fun q => absurd q.1 (by decide))
      have th11_224_52 := eh11.2 (224) 52 (fun q => absurd q.1 (by decide))
      have th11_224_53 := eh11.2 (224) 53 (fun q => absurd q.1 (by decide))
      have th11_224_54 := eh11.2 (224) 54 (fun q => absurd q.1 (by decide))
      have th11_224_55 := eh11.2 (224) 55 (fun q => absurd q.1 (by decide))
      have th11_224_56 := eh11.2 (224) 56 (fun q => absurd q.1 (by decide))
      have th11_224_57 := eh11.2 (224) 57 (fun q => absurd q.1 (by decide))
      refine sx_aload_n dX12_readWord_191 rfl ?_
      refine sx_getS (k := 19) (t := 235) cl_12 fl_X12_45 dX12_readWord_192 s_224 (by decide) rfl (by decide) ?_
      refine sx_iload_n dX12_readWord_195 rfl ?_
      refine sx_aload_n dX12_readWord_196 rfl ?_
      refine sx_getI (k := 56) cl_12 fl_X12_403 dX12_readWord_197 s_224 (by decide) rfl (by decide) ?_
      refine sy_iastore dX12_readWord_200 s_235 (by decide) (by decide) ⟨by omega, by omega⟩ (fun h12 eh12 => ?_)
      have Ih12 := Ih11.up eh12 trivial (decide_eq_false (np_6 (by omega) hyb))
      have th12_224_3 := eh12.2 (224) 3 (fun q => absurd q.1 (by decide))
      have th12_224_4 := eh12.2 (224) 4 (fun q => absurd q.1 (by decide))
      have th12_224_7 := eh12.2 (224) 7 (fun q => absurd q.1 (by decide))
      have th12_224_8 := eh12.2 (224) 8 (fun q => absurd q.1 (by decide))
      have th12_224_37 := eh12.2 (224) 37 (fun q => absurd q.1 (by decide))
      have th12_224_52 := eh12.2 (224) 52 (fun q => absurd q.1 (by decide))
      have th12_224_53 := eh12.2 (224) 53 (fun q => absurd q.1 (by decide))
      have th12_224_54 := eh12.2 (224) 54 (fun q => absurd q.1 (by decide))
      have th12_224_55 := eh12.2 (224) 55 (fun q => absurd q.1 (by decide))
      have th12_224_56 := eh12.2 (224) 56 (fun q => absurd q.1 (by decide))
      have th12_224_57 := eh12.2 (224) 57 (fun q => absurd q.1 (by decide))
      refine sx_aload_n dX12_readWord_201 rfl ?_
      refine sx_getS (k := 20) (t := 236) cl_12 fl_X12_48 dX12_readWord_202 s_224 (by decide) rfl (by decide) ?_
      refine sx_iload_n dX12_readWord_205 rfl ?_
      refine sx_aload_n dX12_readWord_206 rfl ?_
      refine sx_getI (k := 53) cl_12 fl_X12_406 dX12_readWord_207 s_224 (by decide) rfl (by decide) ?_
      refine sy_iastore dX12_readWord_210 s_236 (by decide) (by decide) ⟨by omega, by omega⟩ (fun h13 eh13 => ?_)
      have Ih13 := Ih12.up eh13 trivial (decide_eq_false (np_6 (by omega) hyb))
      have th13_224_3 := eh13.2 (224) 3 (fun q => absurd q.1 (by decide))
      have th13_224_4 := eh13.2 (224) 4 (fun q => absurd q.1 (by decide))
      have th13_224_7 := eh13.2 (224) 7 (fun q => absurd q.1 (by decide))
      have th13_224_8 := eh13.2 (224) 8 (fun q => absurd q.1 (by decide))
      have th13_224_37 := eh13.2 (224) 37 (fun q => absurd q.1 (by decide))
      have th13_224_52 := eh13.2 (224) 52 (fun q => absurd q.1 (by decide))
      have th13_224_53 := eh13.2 (224) 53 (fun q => absurd q.1 (by decide))
      have th13_224_54 := eh13.2 (224) 54 (fun q => absurd q.1 (by decide))
      have th13_224_55 := eh13.2 (224) 55 (fun q => absurd q.1 (by decide))
      have th13_224_56 := eh13.2 (224) 56 (fun q => absurd q.1 (by decide))
      have th13_224_57 := eh13.2 (224) 57 (fun q => absurd q.1 (by decide))
      refine sx_aload_n dX12_readWord_211 rfl ?_
      refine sx_getS (k := 21) (t := 237) cl_12 fl_X12_51 dX12_readWord_212 s_224 (by decide) rfl (by decide) ?_
      refine sx_iload_n dX12_readWord_215 rfl ?_
      refine sx_aload_n dX12_readWord_216 rfl ?_
      refine sx_getI (k := 57) cl_12 fl_X12_409 dX12_readWord_217 s_224 (by decide) rfl (by decide) ?_
      refine sy_iastore dX12_readWord_220 s_237 (by decide) (by decide) ⟨by omega, by omega⟩ (fun h14 eh14 => ?_)
      have Ih14 := Ih13.up eh14 trivial (decide_eq_false (np_6 (by omega) hyb))
      have th14_224_3 := eh14.2 (224) 3 (fun q => absurd q.1 (by decide))
      have th14_224_4 := eh14.2 (224) 4 (fun q => absurd q.1 (by decide))
      have th14_224_7 := eh14.2 (224) 7 (fun q => absurd q.1 (by decide))
      have th14_224_8 := eh14.2 (224) 8 (fun q => absurd q.1 (by decide))
      have th14_224_37 := eh14.2 (224) 37 (fun q => absurd q.1 (by decide))
      have th14_224_52 := eh14.2 (224) 52 (fun q => absurd q.1 (by decide))
      have th14_224_53 := eh14.2 (224) 53 (fun q => absurd q.1 (by decide))
      have th14_224_54 := eh14.2 (224) 54 (fun q => absurd q.1 (by decide))
      have th14_224_55 := eh14.2 (224) 55 (fun q => absurd q.1 (by decide))
      have th14_224_56 := eh14.2 (224) 56 (fun q => absurd q.1 (by decide))
      have th14_224_57 := eh14.2 (224) 57 (fun q => absurd q.1 (by decide))
      refine sx_aload_n dX12_readWord_221 rfl ?_
      refine sx_getS (k := 22) (t := 238) cl_12 fl_X12_54 dX12_readWord_222 s_224 (by decide) rfl (by decide) ?_
      refine sx_iload_n dX12_readWord_225 rfl ?_
      refine sx_aload_n dX12_readWord_226 rfl ?_
      refine sx_getI (k := 58) cl_12 fl_X12_412 dX12_readWord_227 s_224 (by decide) rfl (by decide) ?_
      refine sy_iastore dX12_readWord_230 s_238 (by decide) (by decide) ⟨by omega, by omega⟩ (fun h15 eh15 => ?_)
      have Ih15 := Ih14.up eh15 trivial (decide_eq_false (np_6 (by omega) hyb))
      have th15_224_3 := eh15.2 (224) 3 (fun q => absurd q.1 (by decide))
      have th15_224_4 := eh15.2 (224) 4 (fun q => absurd q.1 (by decide))
      have th15_224_7 := eh15.2 (224) 7 (fun q => absurd q.1 (by decide))
      have th15_224_8 := eh15.2 (224) 8 (fun q => absurd q.1 (by decide))
      have th15_224_37 := eh15.2 (224) 37 (fun q => absurd q.1 (by decide))
      have th15_224_52 := eh15.2 (224) 52 (fun q => absurd q.1 (by decide))
      have th15_224_53 := eh15.2 (224) 53 (fun q => absurd q.1 (by decide))
      have th15_224_54 := eh15.2 (224) 54 (fun q => absurd q.1 (by decide))
      have th15_224_55 := eh15.2 (224) 55 (fun q => absurd q.1 (by decide))
      have th15_224_56 := eh15.2 (224) 56 (fun q => absurd q.1 (by decide))
      have th15_224_57 := eh15.2 (224) 57 (fun q => absurd q.1 (by decide))
      refine sx_aload_n dX12_readWord_231 rfl ?_
      refine sx_getS (k := 23) (t := 239) cl_12 fl_X12_57 dX12_readWord_232 s_224 (by decide) rfl (by decide) ?_
      refine sx_iload_n dX12_readWord_235 rfl ?_
      refine sx_aload_n dX12_readWord_236 rfl ?_
      refine sx_getS (k := 49) (t := 259) cl_12 fl_X12_118 dX12_readWord_237 s_224 (by decide) rfl (by decide) ?_
      refine sx_iconst dX12_readWord_240 ⟨by decide, by decide⟩ ?_
      refine sx_iaload dX12_readWord_241 s_259 (by decide) (by decide) ⟨by omega, by omega⟩ ?_
      refine sy_iastore dX12_readWord_242 s_239 (by decide) (by decide) ⟨by omega, by omega⟩ (fun h16 eh16 => ?_)
      have Ih16 := Ih15.up eh16 trivial (decide_eq_false (np_6 (by omega) hyb))
      have th16_224_3 := eh16.2 (224) 3 (fun q => absurd q.1 (by decide))
      have th16_224_4 := eh16.2 (224) 4 (fun q => absurd q.1 (by decide))
      have th16_224_7 := eh16.2 (224) 7 (fun q => absurd q.1 (by decide))
      have th16_224_8 := eh16.2 (224) 8 (fun q => absurd q.1 (by decide))
      have th16_224_37 := eh16.2 (224) 37 (fun q => absurd q.1 (by decide))
      have th16_224_52 := eh16.2 (224) 52 (fun q => absurd q.1 (by decide))
      have th16_224_53 := eh16.2 (224) 53 (fun q => absurd q.1 (by decide))
      have th16_224_54 := eh16.2 (224) 54 (fun q => absurd q.1 (by decide))
      have th16_224_55 := eh16.2 (224) 55 (fun q => absurd q.1 (by decide))
      have th16_224_56 := eh16.2 (224) 56 (fun q => absurd q.1 (by decide))
      have th16_224_57 := eh16.2 (224) 57 (fun q => absurd q.1 (by decide))
      refine sx_aload_n dX12_readWord_243 rfl ?_
      refine sx_getS (k := 11) (t := 227) cl_12 fl_X12_20 dX12_readWord_244 s_224 (by decide) rfl (by decide) ?_
      refine sx_aload_n dX12_readWord_247 rfl ?_
      refine sx_getI (k := 37) cl_12 fl_X12_340 dX12_readWord_248 s_224 (by decide) rfl (by decide) ?_
      have r17 : (0 : Int) ≤ h16 224 37 ∧ h16 224 37 ≤ 1 := Ih16.1 224 37
      refine sx_dup2 dX12_readWord_251 ?_
      have e27 : h16 227 (h16 224 37).toNat = w := by rw [show (h16 224 37).toNat = (1 - (b : Int)).toNat by omega]; all_goals rw [eh16.2 227 _ (fun q => absurd q.1 (by decide)), eh15.2 227 _ (fun q => absurd q.1 (by decide)), eh14.2 227 _ (fun q => absurd q.1 (by decide)), eh13.2 227 _ (fun q => absurd q.1 (by decide)), eh12.2 227 _ (fun q => absurd q.1 (by decide)), eh11.2 227 _ (fun q => absurd q.1 (by decide)), show h9 227 _ = _ from Kh9.2 227 _ rfl]; all_goals exact h227
      refine sy_iaF (F := fun z => (0 : Int) ≤ z ∧ z ≤ 6) dX12_readWord_252 s_227 (by decide) (by decide) ⟨by omega, by omega⟩ (Ih16.1 227 _) (fun r18 => ?_)
      refine sx_iconst dX12_readWord_253 ⟨by decide, by decide⟩ ?_
      refine sx_iadd dX12_readWord_254 ?_
      refine sy_topw (by omega) ?_
      refine sy_iastore dX12_readWord_255 s_227 (by decide) (by decide) ⟨by omega, by omega⟩ (fun h19 eh19 => ?_)
      have Ih19 := Ih16.up eh19 (show (0 : Int) ≤ _ ∧ _ ≤ (6 : Int) from ⟨by omega, by omega⟩) (beq_eq_false_iff_ne.mpr (show _ ≠ _ by omega))
      have th19_224_3 := eh19.2 (224) 3 (fun q => absurd q.1 (by decide))
      have th19_224_4 := eh19.2 (224) 4 (fun q => absurd q.1 (by decide))
      have th19_224_7 := eh19.2 (224) 7 (fun q => absurd q.1 (by decide))
      have th19_224_8 := eh19.2 (224) 8 (fun q => absurd q.1 (by decide))
      have th19_224_37 := eh19.2 (224) 37 (fun q => absurd q.1 (by decide))
      have th19_224_52 := eh19.2 (224) 52 (fun q => absurd q.1 (by decide))
      have th19_224_53 := eh19.2 (224) 53 (fun q => absurd q.1 (by decide))
      have th19_224_54 := eh19.2 (224) 54 (fun q => absurd q.1 (by decide))
      have th19_224_55 := eh19.2 (224) 55 (fun q => absurd q.1 (by decide))
      have th19_224_56 := eh19.2 (224) 56 (fun q => absurd q.1 (by decide))
      have th19_224_57 := eh19.2 (224) 57 (fun q => absurd q.1 (by decide))
      refine sx_ret dX12_readWord_256 ?_
      have KM : mK (prW [4, 5, 6, 7, 8, 9, 10] []) hz h9 := (mK.tr (mK.refl Ihz.1) Kh9 (prW_sub rfl rfl))
      exact ⟨rfl, ⟨Ih19, by omega, by omega, (by rw [eh19.at 227 (1 - (b : Int)).toNat, eh16.2 227 (1 - (b : Int)).toNat (fun q => absurd q.1 (by decide)), eh15.2 227 (1 - (b : Int)).toNat (fun q => absurd q.1 (by decide)), eh14.2 227 (1 - (b : Int)).toNat (fun q => absurd q.1 (by decide)), eh13.2 227 (1 - (b : Int)).toNat (fun q => absurd q.1 (by decide)), eh12.2 227 (1 - (b : Int)).toNat (fun q => absurd q.1 (by decide)), eh11.2 227 (1 - (b : Int)).toNat (fun q => absurd q.1 (by decide)), show h9 227 (1 - (b : Int)).toNat = _ from Kh9.2 227 (1 - (b : Int)).toNat rfl]; all_goals (try simp only [Nat.reduceEqDiff, false_and, if_false, true_and]); all_goals (try rw [if_pos (by omega)]); all_goals (try rw [e27]); all_goals omega), fun q => by first | (exfalso; omega) | (have hR := hri (by omega); obtain ⟨i, hR1, hR2⟩ := hR; exact RI_done (h := h9) (by omega) (by omega) (RI_eq (tok_rd KM) hR1) (by rw [tok_rd KM 233 _ (Or.inr ⟨by omega, by omega⟩)]; exact RBx_eq (by omega) (fun a k q1 q2 => tok_rd KM a k (Or.inr ⟨q1, q2⟩)) hR2) (by omega) (by omega) (by rw [eh19.2 235 (6 * (1 - (b : Int)) + w).toNat (fun q => absurd q.1 (by decide)), eh16.2 235 (6 * (1 - (b : Int)) + w).toNat (fun q => absurd q.1 (by decide)), eh15.2 235 (6 * (1 - (b : Int)) + w).toNat (fun q => absurd q.1 (by decide)), eh14.2 235 (6 * (1 - (b : Int)) + w).toNat (fun q => absurd q.1 (by decide)), eh13.2 235 (6 * (1 - (b : Int)) + w).toNat (fun q => absurd q.1 (by decide)), eh12.at 235 (6 * (1 - (b : Int)) + w).toNat, eh11.2 235 (6 * (1 - (b : Int)) + w).toNat (fun q => absurd q.1 (by decide))]; all_goals (try simp only [Nat.reduceEqDiff, false_and, if_false, true_and]); all_goals (try rw [if_pos (by omega)]); all_goals (first | done | rfl | omega)) (by rw [eh19.2 236 (6 * (1 - (b : Int)) + w).toNat (fun q => absurd q.1 (by decide)), eh16.2 236 (6 * (1 - (b : Int)) + w).toNat (fun q => absurd q.1 (by decide)), eh15.2 236 (6 * (1 - (b : Int)) + w).toNat (fun q => absurd q.1 (by decide)), eh14.2 236 (6 * (1 - (b : Int)) + w).toNat (fun q => absurd q.1 (by decide)), eh13.at 236 (6 * (1 - (b : Int)) + w).toNat, eh12.2 236 (6 * (1 - (b : Int)) + w).toNat (fun q => absurd q.1 (by decide)), eh11.2 236 (6 * (1 - (b : Int)) + w).toNat (fun q => absurd q.1 (by decide))]; all_goals (try simp only [Nat.reduceEqDiff, false_and, if_false, true_and]); all_goals (try rw [if_pos (by omega)]); all_goals (first | done | rfl | omega)) (by rw [eh19.2 237 (6 * (1 - (b : Int)) + w).toNat (fun q => absurd q.1 (by decide)), eh16.2 237 (6 * (1 - (b : Int)) + w).toNat (fun q => absurd q.1 (by decide)), eh15.2 237 (6 * (1 - (b : Int)) + w).toNat (fun q => absurd q.1 (by decide)), eh14.at 237 (6 * (1 - (b : Int)) + w).toNat, eh13.2 237 (6 * (1 - (b : Int)) + w).toNat (fun q => absurd q.1 (by decide)), eh12.2 237 (6 * (1 - (b : Int)) + w).toNat (fun q => absurd q.1 (by decide)), eh11.2 237 (6 * (1 - (b : Int)) + w).toNat (fun q => absurd q.1 (by decide))]; all_goals (try simp only [Nat.reduceEqDiff, false_and, if_false, true_and]); all_goals (try rw [if_pos (by omega)]); all_goals (first | done | rfl | omega)) (fun a k q => by rcases q with rfl | rfl | rfl | rfl | rfl; (focus rw [eh19.2 233 k (fun q => absurd q.1 (by decide)), eh16.2 233 k (fun q => absurd q.1 (by decide)), eh15.2 233 k (fun q => absurd q.1 (by decide)), eh14.2 233 k (fun q => absurd q.1 (by decide)), eh13.2 233 k (fun q => absurd q.1 (by decide)), eh12.2 233 k (fun q => absurd q.1 (by decide)), eh11.2 233 k (fun q => absurd q.1 (by decide))]); (focus rw [eh19.2 234 k (fun q => absurd q.1 (by decide)), eh16.2 234 k (fun q => absurd q.1 (by decide)), eh15.2 234 k (fun q => absurd q.1 (by decide)), eh14.2 234 k (fun q => absurd q.1 (by decide)), eh13.2 234 k (fun q => absurd q.1 (by decide)), eh12.2 234 k (fun q => absurd q.1 (by decide)), eh11.2 234 k (fun q => absurd q.1 (by decide))]); (focus rw [eh19.2 240 k (fun q => absurd q.1 (by decide)), eh16.2 240 k (fun q => absurd q.1 (by decide)), eh15.2 240 k (fun q => absurd q.1 (by decide)), eh14.2 240 k (fun q => absurd q.1 (by decide)), eh13.2 240 k (fun q => absurd q.1 (by decide)), eh12.2 240 k (fun q => absurd q.1 (by decide)), eh11.2 240 k (fun q => absurd q.1 (by decide))]); (focus rw [eh19.2 241 k (fun q => absurd q.1 (by decide)), eh16.2 241 k (fun q => absurd q.1 (by decide)), eh15.2 241 k (fun q => absurd q.1 (by decide)), eh14.2 241 k (fun q => absurd q.1 (by decide)), eh13.2 241 k (fun q => absurd q.1 (by decide)), eh12.2 241 k (fun q => absurd q.1 (by decide)), eh11.2 241 k (fun q => absurd q.1 (by decide))]); (focus rw [eh19.2 243 k (fun q => absurd q.1 (by decide)), eh16.2 243 k (fun q => absurd q.1 (by decide)), eh15.2 243 k (fun q => absurd q.1 (by decide)), eh14.2 243 k (fun q => absurd q.1 (by decide)), eh13.2 243 k (fun q => absurd q.1 (by decide)), eh12.2 243 k (fun q => absurd q.1 (by decide)), eh11.2 243 k (fun q => absurd q.1 (by decide))])) (fun a k q1 q2 q3 => by have q : a = 235 ∨ a = 236 ∨ a = 237 := (by omega); rcases q with rfl | rfl | rfl; (focus (rw [eh19.2 235 k (fun q => absurd q.1 (by decide)), eh16.2 235 k (fun q => absurd q.1 (by decide)), eh15.2 235 k (fun q => absurd q.1 (by decide)), eh14.2 235 k (fun q => absurd q.1 (by decide)), eh13.2 235 k (fun q => absurd q.1 (by decide)), eh12.at 235 k, eh11.2 235 k (fun q => absurd q.1 (by decide))]; all_goals (try simp only [Nat.reduceEqDiff, false_and, if_false, true_and]); all_goals (first | rfl | rw [if_neg (by omega)]))); (focus (rw [eh19.2 236 k (fun q => absurd q.1 (by decide)), eh16.2 236 k (fun q => absurd q.1 (by decide)), eh15.2 236 k (fun q => absurd q.1 (by decide)), eh14.2 236 k (fun q => absurd q.1 (by decide)), eh13.at 236 k, eh12.2 236 k (fun q => absurd q.1 (by decide)), eh11.2 236 k (fun q => absurd q.1 (by decide))]; all_goals (try simp only [Nat.reduceEqDiff, false_and, if_false, true_and]); all_goals (first | rfl | rw [if_neg (by omega)]))); (focus (rw [eh19.2 237 k (fun q => absurd q.1 (by decide)), eh16.2 237 k (fun q => absurd q.1 (by decide)), eh15.2 237 k (fun q => absurd q.1 (by decide)), eh14.at 237 k, eh13.2 237 k (fun q => absurd q.1 (by decide)), eh12.2 237 k (fun q => absurd q.1 (by decide)), eh11.2 237 k (fun q => absurd q.1 (by decide))]; all_goals (try simp only [Nat.reduceEqDiff, false_and, if_false, true_and]); all_goals (first | rfl | rw [if_neg (by omega)])))) (by rw [eh19.2 228 _ (fun q => absurd q.1 (by decide)), eh16.2 228 _ (fun q => absurd q.1 (by decide)), eh15.2 228 _ (fun q => absurd q.1 (by decide)), eh14.2 228 _ (fun q => absurd q.1 (by decide)), eh13.2 228 _ (fun q => absurd q.1 (by decide)), eh12.2 228 _ (fun q => absurd q.1 (by decide)), eh11.2 228 _ (fun q => absurd q.1 (by decide))]))⟩⟩
    ·
      exfalso; omega
  ·
    have vx2 : x2 = 1 := by rcases zx2 with q | q; (exact absurd q c3); exact q
    replace p_x2 := p_x2.mp vx2
    clear zx2
    refine sx_aload_n dX12_readWord_127 rfl ?_
    refine sx_getI (k := 55) cl_12 fl_X12_397 dX12_readWord_128 s_224 (by decide) rfl (by decide) ?_
    refine sx_if_le (tgt := 138) dX12_readWord_131 (by decide) (fun c20 => ?_) (fun c20 => ?_)
    ·
      refine sx_aload_n dX12_readWord_138 rfl ?_
      refine sx_callVz lk_X12_330 cl_12 s_224 (by decide) dX12_readWord_139 (vs := []) rfl rfl (Nat.le_of_ble_eq_true rfl) (Nat.le_of_ble_eq_true rfl) rfl (c_X12_isGood _ Ihz.1) (fun x22 h21 zx22 ph21 => ?_)
      obtain ⟨rfl, p_x22⟩ := ph21
      refine sx_if_eq (tgt := 174) dX12_readWord_142 (by decide) (fun c23 => ?_) (fun c23 => ?_)
      ·
        exfalso; omega
      ·
        have vx22 : x22 = 1 := by rcases zx22 with q | q; (exact absurd q c23); exact q
        replace p_x22 := p_x22.mp vx22
        clear zx22
        refine sx_aload_n dX12_readWord_145 rfl ?_
        refine sx_getI (k := 54) cl_12 fl_X12_400 dX12_readWord_146 s_224 (by decide) rfl (by decide) ?_
        refine sx_if_gt (tgt := 164) dX12_readWord_149 (by decide) (fun c24 => ?_) (fun c24 => ?_)
        ·
          refine sx_aload_n dX12_readWord_164 rfl ?_
          refine sx_bipush dX12_readWord_165 ⟨by decide, by decide, by decide⟩ ?_
          refine sx_aload_n dX12_readWord_167 rfl ?_
          refine sx_getI (k := 6) cl_12 fl_X12_295 dX12_readWord_168 s_224 (by decide) rfl (by decide) ?_
          have r25 : (0 : Int) ≤ hz 224 6 ∧ hz 224 6 ≤ 1700 := Ihz.1 224 6
          refine sx_callVv lk_X12_326 cl_12 s_224 (by decide) dX12_readWord_171 (vs := [_, _]) rfl rfl (Nat.le_of_ble_eq_true rfl) (Nat.le_of_ble_eq_true rfl) rfl (c_X12_fails _ Ihz.1 _ _ (by omega)) (fun h26 ph26 => ?_)
          obtain ⟨Kh26, g_h26⟩ := ph26
          have Ih26 := Ihz.tr Kh26 (prBW_sub rfl rfl rfl)
          have th26_224_3 := Kh26.2 224 3 rfl
          have th26_224_7 := Kh26.2 224 7 rfl
          have th26_224_8 := Kh26.2 224 8 rfl
          have th26_224_37 := Kh26.2 224 37 rfl
          have th26_224_52 := Kh26.2 224 52 rfl
          have th26_224_53 := Kh26.2 224 53 rfl
          have th26_224_54 := Kh26.2 224 54 rfl
          have th26_224_55 := Kh26.2 224 55 rfl
          have th26_224_56 := Kh26.2 224 56 rfl
          have th26_224_57 := Kh26.2 224 57 rfl
          refine sx_aload_n dX12_readWord_174 rfl ?_
          refine sx_aload_n dX12_readWord_175 rfl ?_
          refine sx_bipush dX12_readWord_176 ⟨by decide, by decide, by decide⟩ ?_
          refine sx_callVz lk_X12_379 cl_12 s_224 (by decide) dX12_readWord_178 (vs := [_]) rfl rfl (Nat.le_of_ble_eq_true rfl) (Nat.le_of_ble_eq_true rfl) rfl (c2_X12_isSignHere _ Ih26.1 _) (fun x29 h28 zx29 ph28 => ?_)
          obtain ⟨rfl, p_x29⟩ := ph28
          refine sx_callVv lk_X12_382 cl_12 s_224 (by decide) dX12_readWord_181 (vs := [_]) rfl rfl (Nat.le_of_ble_eq_true rfl) (Nat.le_of_ble_eq_true rfl) rfl (c_X12_must _ Ih26.1 _ (by omega)) (fun h30 ph30 => ?_)
          obtain ⟨Kh30, a_h30, m_h30, g_h30⟩ := ph30
          have Ih30 := Ih26.tr Kh30 (prBW_sub rfl rfl rfl)
          have th30_224_3 := Kh30.2 224 3 rfl
          have th30_224_37 := Kh30.2 224 37 rfl
          have th30_224_52 := Kh30.2 224 52 rfl
          have th30_224_53 := Kh30.2 224 53 rfl
          have th30_224_54 := Kh30.2 224 54 rfl
          have th30_224_55 := Kh30.2 224 55 rfl
          have th30_224_56 := Kh30.2 224 56 rfl
          have th30_224_57 := Kh30.2 224 57 rfl
          refine sx_aload_n dX12_readWord_184 rfl ?_
          refine sx_getS (k := 30) (t := 246) cl_12 fl_X12_78 dX12_readWord_185 s_224 (by decide) rfl (by decide) ?_
          refine sx_iload_n dX12_readWord_188 rfl ?_
          refine sx_lload_n dX12_readWord_189 rfl ?_
          refine sy_lastore dX12_readWord_190 s_246 (by decide) (by decide) ⟨by omega, by omega⟩ (fun h32 eh32 => ?_)
          have Ih32 := Ih30.up eh32 trivial (decide_eq_false (np_6 (by omega) hyb))
          have th32_224_3 := eh32.2 (224) 3 (fun q => absurd q.1 (by decide))
          have th32_224_4 := eh32.2 (224) 4 (fun q => absurd q.1 (by decide))
          have th32_224_7 := eh32.2 (224) 7 (fun q => absurd q.1 (by decide))
          have th32_224_8 := eh32.2 (224) 8 (fun q => absurd q.1 (by decide))
          have th32_224_37 := eh32.2 (224) 37 (fun q => absurd q.1 (by decide))
          have th32_224_52 := eh32.2 (224) 52 (fun q => absurd q.1 (by decide))
          have th32_224_53 := eh32.2 (224) 53 (fun q => absurd q.1 (by decide))
          have th32_224_54 := eh32.2 (224) 54 (fun q => absurd q.1 (by decide))
          have th32_224_55 := eh32.2 (224) 55 (fun q => absurd q.1 (by decide))
          have th32_224_56 := eh32.2 (224) 56 (fun q => absurd q.1 (by decide))
          have th32_224_57 := eh32.2 (224) 57 (fun q => absurd q.1 (by decide))
          refine sx_aload_n dX12_readWord_191 rfl ?_
          refine sx_getS (k := 19) (t := 235) cl_12 fl_X12_45 dX12_readWord_192 s_224 (by decide) rfl (by decide) ?_
          refine sx_iload_n dX12_readWord_195 rfl ?_
          refine sx_aload_n dX12_readWord_196 rfl ?_
          refine sx_getI (k := 56) cl_12 fl_X12_403 dX12_readWord_197 s_224 (by decide) rfl (by decide) ?_
          refine sy_iastore dX12_readWord_200 s_235 (by decide) (by decide) ⟨by omega, by omega⟩ (fun h33 eh33 => ?_)
          have Ih33 := Ih32.up eh33 trivial (decide_eq_false (np_6 (by omega) hyb))
          have th33_224_3 := eh33.2 (224) 3 (fun q => absurd q.1 (by decide))
          have th33_224_4 := eh33.2 (224) 4 (fun q => absurd q.1 (by decide))
          have th33_224_7 := eh33.2 (224) 7 (fun q => absurd q.1 (by decide))
          have th33_224_8 := eh33.2 (224) 8 (fun q => absurd q.1 (by decide))
          have th33_224_37 := eh33.2 (224) 37 (fun q => absurd q.1 (by decide))
          have th33_224_52 := eh33.2 (224) 52 (fun q => absurd q.1 (by decide))
          have th33_224_53 := eh33.2 (224) 53 (fun q => absurd q.1 (by decide))
          have th33_224_54 := eh33.2 (224) 54 (fun q => absurd q.1 (by decide))
          have th33_224_55 := eh33.2 (224) 55 (fun q => absurd q.1 (by decide))
          have th33_224_56 := eh33.2 (224) 56 (fun q => absurd q.1 (by decide))
          have th33_224_57 := eh33.2 (224) 57 (fun q => absurd q.1 (by decide))
          refine sx_aload_n dX12_readWord_201 rfl ?_
          refine sx_getS (k := 20) (t := 236) cl_12 fl_X12_48 dX12_readWord_202 s_224 (by decide) rfl (by decide) ?_
          refine sx_iload_n dX12_readWord_205 rfl ?_
          refine sx_aload_n dX12_readWord_206 rfl ?_
          refine sx_getI (k := 53) cl_12 fl_X12_406 dX12_readWord_207 s_224 (by decide) rfl (by decide) ?_
          refine sy_iastore dX12_readWord_210 s_236 (by decide) (by decide) ⟨by omega, by omega⟩ (fun h34 eh34 => ?_)
          have Ih34 := Ih33.up eh34 trivial (decide_eq_false (np_6 (by omega) hyb))
          have th34_224_3 := eh34.2 (224) 3 (fun q => absurd q.1 (by decide))
          have th34_224_4 := eh34.2 (224) 4 (fun q => absurd q.1 (by decide))
          have th34_224_7 := eh34.2 (224) 7 (fun q => absurd q.1 (by decide))
          have th34_224_8 := eh34.2 (224) 8 (fun q => absurd q.1 (by decide))
          have th34_224_37 := eh34.2 (224) 37 (fun q => absurd q.1 (by decide))
          have th34_224_52 := eh34.2 (224) 52 (fun q => absurd q.1 (by decide))
          have th34_224_53 := eh34.2 (224) 53 (fun q => absurd q.1 (by decide))
          have th34_224_54 := eh34.2 (224) 54 (fun q => absurd q.1 (by decide))
          have th34_224_55 := eh34.2 (224) 55 (fun q => absurd q.1 (by decide))
          have th34_224_56 := eh34.2 (224) 56 (fun q => absurd q.1 (by decide))
          have th34_224_57 := eh34.2 (224) 57 (fun q => absurd q.1 (by decide))
          refine sx_aload_n dX12_readWord_211 rfl ?_
          refine sx_getS (k := 21) (t := 237) cl_12 fl_X12_51 dX12_readWord_212 s_224 (by decide) rfl (by decide) ?_
          refine sx_iload_n dX12_readWord_215 rfl ?_
          refine sx_aload_n dX12_readWord_216 rfl ?_
          refine sx_getI (k := 57) cl_12 fl_X12_409 dX12_readWord_217 s_224 (by decide) rfl (by decide) ?_
          refine sy_iastore dX12_readWord_220 s_237 (by decide) (by decide) ⟨by omega, by omega⟩ (fun h35 eh35 => ?_)
          have Ih35 := Ih34.up eh35 trivial (decide_eq_false (np_6 (by omega) hyb))
          have th35_224_3 := eh35.2 (224) 3 (fun q => absurd q.1 (by decide))
          have th35_224_4 := eh35.2 (224) 4 (fun q => absurd q.1 (by decide))
          have th35_224_7 := eh35.2 (224) 7 (fun q => absurd q.1 (by decide))
          have th35_224_8 := eh35.2 (224) 8 (fun q => absurd q.1 (by decide))
          have th35_224_37 := eh35.2 (224) 37 (fun q => absurd q.1 (by decide))
          have th35_224_52 := eh35.2 (224) 52 (fun q => absurd q.1 (by decide))
          have th35_224_53 := eh35.2 (224) 53 (fun q => absurd q.1 (by decide))
          have th35_224_54 := eh35.2 (224) 54 (fun q => absurd q.1 (by decide))
          have th35_224_55 := eh35.2 (224) 55 (fun q => absurd q.1 (by decide))
          have th35_224_56 := eh35.2 (224) 56 (fun q => absurd q.1 (by decide))
          have th35_224_57 := eh35.2 (224) 57 (fun q => absurd q.1 (by decide))
          refine sx_aload_n dX12_readWord_221 rfl ?_
          refine sx_getS (k := 22) (t := 238) cl_12 fl_X12_54 dX12_readWord_222 s_224 (by decide) rfl (by decide) ?_
          refine sx_iload_n dX12_readWord_225 rfl ?_
          refine sx_aload_n dX12_readWord_226 rfl ?_
          refine sx_getI (k := 58) cl_12 fl_X12_412 dX12_readWord_227 s_224 (by decide) rfl (by decide) ?_
          refine sy_iastore dX12_readWord_230 s_238 (by decide) (by decide) ⟨by omega, by omega⟩ (fun h36 eh36 => ?_)
          have Ih36 := Ih35.up eh36 trivial (decide_eq_false (np_6 (by omega) hyb))
          have th36_224_3 := eh36.2 (224) 3 (fun q => absurd q.1 (by decide))
          have th36_224_4 := eh36.2 (224) 4 (fun q => absurd q.1 (by decide))
          have th36_224_7 := eh36.2 (224) 7 (fun q => absurd q.1 (by decide))
          have th36_224_8 := eh36.2 (224) 8 (fun q => absurd q.1 (by decide))
          have th36_224_37 := eh36.2 (224) 37 (fun q => absurd q.1 (by decide))
          have th36_224_52 := eh36.2 (224) 52 (fun q => absurd q.1 (by decide))
          have th36_224_53 := eh36.2 (224) 53 (fun q => absurd q.1 (by decide))
          have th36_224_54 := eh36.2 (224) 54 (fun q => absurd q.1 (by decide))
          have th36_224_55 := eh36.2 (224) 55 (fun q => absurd q.1 (by decide))
          have th36_224_56 := eh36.2 (224) 56 (fun q => absurd q.1 (by decide))
          have th36_224_57 := eh36.2 (224) 57 (fun q => absurd q.1 (by decide))
          refine sx_aload_n dX12_readWord_231 rfl ?_
          refine sx_getS (k := 23) (t := 239) cl_12 fl_X12_57 dX12_readWord_232 s_224 (by decide) rfl (by decide) ?_
          refine sx_iload_n dX12_readWord_235 rfl ?_
          refine sx_aload_n dX12_readWord_236 rfl ?_
          refine sx_getS (k := 49) (t := 259) cl_12 fl_X12_118 dX12_readWord_237 s_224 (by decide) rfl (by decide) ?_
          refine sx_iconst dX12_readWord_240 ⟨by decide, by decide⟩ ?_
          refine sx_iaload dX12_readWord_241 s_259 (by decide) (by decide) ⟨by omega, by omega⟩ ?_
          refine sy_iastore dX12_readWord_242 s_239 (by decide) (by decide) ⟨by omega, by omega⟩ (fun h37 eh37 => ?_)
          have Ih37 := Ih36.up eh37 trivial (decide_eq_false (np_6 (by omega) hyb))
          have th37_224_3 := eh37.2 (224) 3 (fun q => absurd q.1 (by decide))
          have th37_224_4 := eh37.2 (224) 4 (fun q => absurd q.1 (by decide))
          have th37_224_7 := eh37.2 (224) 7 (fun q => absurd q.1 (by decide))
          have th37_224_8 := eh37.2 (224) 8 (fun q => absurd q.1 (by decide))
          have th37_224_37 := eh37.2 (224) 37 (fun q => absurd q.1 (by decide))
          have th37_224_52 := eh37.2 (224) 52 (fun q => absurd q.1 (by decide))
          have th37_224_53 := eh37.2 (224) 53 (fun q => absurd q.1 (by decide))
          have th37_224_54 := eh37.2 (224) 54 (fun q => absurd q.1 (by decide))
          have th37_224_55 := eh37.2 (224) 55 (fun q => absurd q.1 (by decide))
          have th37_224_56 := eh37.2 (224) 56 (fun q => absurd q.1 (by decide))
          have th37_224_57 := eh37.2 (224) 57 (fun q => absurd q.1 (by decide))
          refine sx_aload_n dX12_readWord_243 rfl ?_
          refine sx_getS (k := 11) (t := 227) cl_12 fl_X12_20 dX12_readWord_244 s_224 (by decide) rfl (by decide) ?_
          refine sx_aload_n dX12_readWord_247 rfl ?_
          refine sx_getI (k := 37) cl_12 fl_X12_340 dX12_readWord_248 s_224 (by decide) rfl (by decide) ?_
          have r38 : (0 : Int) ≤ h37 224 37 ∧ h37 224 37 ≤ 1 := Ih37.1 224 37
          refine sx_dup2 dX12_readWord_251 ?_
          have e27 : h37 227 (h37 224 37).toNat = w := by rw [show (h37 224 37).toNat = (1 - (b : Int)).toNat by omega]; all_goals rw [eh37.2 227 _ (fun q => absurd q.1 (by decide)), eh36.2 227 _ (fun q => absurd q.1 (by decide)), eh35.2 227 _ (fun q => absurd q.1 (by decide)), eh34.2 227 _ (fun q => absurd q.1 (by decide)), eh33.2 227 _ (fun q => absurd q.1 (by decide)), eh32.2 227 _ (fun q => absurd q.1 (by decide)), show h30 227 _ = _ from Kh30.2 227 _ rfl, show h26 227 _ = _ from Kh26.2 227 _ rfl]; all_goals exact h227
          refine sy_iaF (F := fun z => (0 : Int) ≤ z ∧ z ≤ 6) dX12_readWord_252 s_227 (by decide) (by decide) ⟨by omega, by omega⟩ (Ih37.1 227 _) (fun r39 => ?_)
          refine sx_iconst dX12_readWord_253 ⟨by decide, by decide⟩ ?_
          refine sx_iadd dX12_readWord_254 ?_
          refine sy_topw (by omega) ?_
          refine sy_iastore dX12_readWord_255 s_227 (by decide) (by decide) ⟨by omega, by omega⟩ (fun h40 eh40 => ?_)
          have Ih40 := Ih37.up eh40 (show (0 : Int) ≤ _ ∧ _ ≤ (6 : Int) from ⟨by omega, by omega⟩) (beq_eq_false_iff_ne.mpr (show _ ≠ _ by omega))
          have th40_224_3 := eh40.2 (224) 3 (fun q => absurd q.1 (by decide))
          have th40_224_4 := eh40.2 (224) 4 (fun q => absurd q.1 (by decide))
          have th40_224_7 := eh40.2 (224) 7 (fun q => absurd q.1 (by decide))
          have th40_224_8 := eh40.2 (224) 8 (fun q => absurd q.1 (by decide))
          have th40_224_37 := eh40.2 (224) 37 (fun q => absurd q.1 (by decide))
          have th40_224_52 := eh40.2 (224) 52 (fun q => absurd q.1 (by decide))
          have th40_224_53 := eh40.2 (224) 53 (fun q => absurd q.1 (by decide))
          have th40_224_54 := eh40.2 (224) 54 (fun q => absurd q.1 (by decide))
          have th40_224_55 := eh40.2 (224) 55 (fun q => absurd q.1 (by decide))
          have th40_224_56 := eh40.2 (224) 56 (fun q => absurd q.1 (by decide))
          have th40_224_57 := eh40.2 (224) 57 (fun q => absurd q.1 (by decide))
          refine sx_ret dX12_readWord_256 ?_
          have KM : mK (prW [4, 5, 6, 7, 8, 9, 10] []) hz h30 := (mK.tr (mK.tr (mK.refl Ihz.1) Kh26 (prW_sub rfl rfl)) Kh30 (prW_sub rfl rfl))
          exact ⟨rfl, ⟨Ih40, by omega, by omega, (by rw [eh40.at 227 (1 - (b : Int)).toNat, eh37.2 227 (1 - (b : Int)).toNat (fun q => absurd q.1 (by decide)), eh36.2 227 (1 - (b : Int)).toNat (fun q => absurd q.1 (by decide)), eh35.2 227 (1 - (b : Int)).toNat (fun q => absurd q.1 (by decide)), eh34.2 227 (1 - (b : Int)).toNat (fun q => absurd q.1 (by decide)), eh33.2 227 (1 - (b : Int)).toNat (fun q => absurd q.1 (by decide)), eh32.2 227 (1 - (b : Int)).toNat (fun q => absurd q.1 (by decide)), show h30 227 (1 - (b : Int)).toNat = _ from Kh30.2 227 (1 - (b : Int)).toNat rfl, show h26 227 (1 - (b : Int)).toNat = _ from Kh26.2 227 (1 - (b : Int)).toNat rfl]; all_goals (try simp only [Nat.reduceEqDiff, false_and, if_false, true_and]); all_goals (try rw [if_pos (by omega)]); all_goals (try rw [e27]); all_goals omega), fun q => by first | (exfalso; omega) | (have hR := hri (by omega); obtain ⟨i, hR1, hR2⟩ := hR; exact RI_done (h := h30) (by omega) (by omega) (RI_eq (tok_rd KM) hR1) (by rw [tok_rd KM 233 _ (Or.inr ⟨by omega, by omega⟩)]; exact RBx_eq (by omega) (fun a k q1 q2 => tok_rd KM a k (Or.inr ⟨q1, q2⟩)) hR2) (by omega) (by omega) (by rw [eh40.2 235 (6 * (1 - (b : Int)) + w).toNat (fun q => absurd q.1 (by decide)), eh37.2 235 (6 * (1 - (b : Int)) + w).toNat (fun q => absurd q.1 (by decide)), eh36.2 235 (6 * (1 - (b : Int)) + w).toNat (fun q => absurd q.1 (by decide)), eh35.2 235 (6 * (1 - (b : Int)) + w).toNat (fun q => absurd q.1 (by decide)), eh34.2 235 (6 * (1 - (b : Int)) + w).toNat (fun q => absurd q.1 (by decide)), eh33.at 235 (6 * (1 - (b : Int)) + w).toNat, eh32.2 235 (6 * (1 - (b : Int)) + w).toNat (fun q => absurd q.1 (by decide))]; all_goals (try simp only [Nat.reduceEqDiff, false_and, if_false, true_and]); all_goals (try rw [if_pos (by omega)]); all_goals (first | done | rfl | omega)) (by rw [eh40.2 236 (6 * (1 - (b : Int)) + w).toNat (fun q => absurd q.1 (by decide)), eh37.2 236 (6 * (1 - (b : Int)) + w).toNat (fun q => absurd q.1 (by decide)), eh36.2 236 (6 * (1 - (b : Int)) + w).toNat (fun q => absurd q.1 (by decide)), eh35.2 236 (6 * (1 - (b : Int)) + w).toNat (fun q => absurd q.1 (by decide)), eh34.at 236 (6 * (1 - (b : Int)) + w).toNat, eh33.2 236 (6 * (1 - (b : Int)) + w).toNat (fun q => absurd q.1 (by decide)), eh32.2 236 (6 * (1 - (b : Int)) + w).toNat (fun q => absurd q.1 (by decide))]; all_goals (try simp only [Nat.reduceEqDiff, false_and, if_false, true_and]); all_goals (try rw [if_pos (by omega)]); all_goals (first | done | rfl | omega)) (by rw [eh40.2 237 (6 * (1 - (b : Int)) + w).toNat (fun q => absurd q.1 (by decide)), eh37.2 237 (6 * (1 - (b : Int)) + w).toNat (fun q => absurd q.1 (by decide)), eh36.2 237 (6 * (1 - (b : Int)) + w).toNat (fun q => absurd q.1 (by decide)), eh35.at 237 (6 * (1 - (b : Int)) + w).toNat, eh34.2 237 (6 * (1 - (b : Int)) + w).toNat (fun q => absurd q.1 (by decide)), eh33.2 237 (6 * (1 - (b : Int)) + w).toNat (fun q => absurd q.1 (by decide)), eh32.2 237 (6 * (1 - (b : Int)) + w).toNat (fun q => absurd q.1 (by decide))]; all_goals (try simp only [Nat.reduceEqDiff, false_and, if_false, true_and]); all_goals (try rw [if_pos (by omega)]); all_goals (first | done | rfl | omega)) (fun a k q => by rcases q with rfl | rfl | rfl | rfl | rfl; (focus rw [eh40.2 233 k (fun q => absurd q.1 (by decide)), eh37.2 233 k (fun q => absurd q.1 (by decide)), eh36.2 233 k (fun q => absurd q.1 (by decide)), eh35.2 233 k (fun q => absurd q.1 (by decide)), eh34.2 233 k (fun q => absurd q.1 (by decide)), eh33.2 233 k (fun q => absurd q.1 (by decide)), eh32.2 233 k (fun q => absurd q.1 (by decide))]); (focus rw [eh40.2 234 k (fun q => absurd q.1 (by decide)), eh37.2 234 k (fun q => absurd q.1 (by decide)), eh36.2 234 k (fun q => absurd q.1 (by decide)), eh35.2 234 k (fun q => absurd q.1 (by decide)), eh34.2 234 k (fun q => absurd q.1 (by decide)), eh33.2 234 k (fun q => absurd q.1 (by decide)), eh32.2 234 k (fun q => absurd q.1 (by decide))]); (focus rw [eh40.2 240 k (fun q => absurd q.1 (by decide)), eh37.2 240 k (fun q => absurd q.1 (by decide)), eh36.2 240 k (fun q => absurd q.1 (by decide)), eh35.2 240 k (fun q => absurd q.1 (by decide)), eh34.2 240 k (fun q => absurd q.1 (by decide)), eh33.2 240 k (fun q => absurd q.1 (by decide)), eh32.2 240 k (fun q => absurd q.1 (by decide))]); (focus rw [eh40.2 241 k (fun q => absurd q.1 (by decide)), eh37.2 241 k (fun q => absurd q.1 (by decide)), eh36.2 241 k (fun q => absurd q.1 (by decide)), eh35.2 241 k (fun q => absurd q.1 (by decide)), eh34.2 241 k (fun q => absurd q.1 (by decide)), eh33.2 241 k (fun q => absurd q.1 (by decide)), eh32.2 241 k (fun q => absurd q.1 (by decide))]); (focus rw [eh40.2 243 k (fun q => absurd q.1 (by decide)), eh37.2 243 k (fun q => absurd q.1 (by decide)), eh36.2 243 k (fun q => absurd q.1 (by decide)), eh35.2 243 k (fun q => absurd q.1 (by decide)), eh34.2 243 k (fun q => absurd q.1 (by decide)), eh33.2 243 k (fun q => absurd q.1 (by decide)), eh32.2 243 k (fun q => absurd q.1 (by decide))])) (fun a k q1 q2 q3 => by have q : a = 235 ∨ a = 236 ∨ a = 237 := (by omega); rcases q with rfl | rfl | rfl; (focus (rw [eh40.2 235 k (fun q => absurd q.1 (by decide)), eh37.2 235 k (fun q => absurd q.1 (by decide)), eh36.2 235 k (fun q => absurd q.1 (by decide)), eh35.2 235 k (fun q => absurd q.1 (by decide)), eh34.2 235 k (fun q => absurd q.1 (by decide)), eh33.at 235 k, eh32.2 235 k (fun q => absurd q.1 (by decide))]; all_goals (try simp only [Nat.reduceEqDiff, false_and, if_false, true_and]); all_goals (first | rfl | rw [if_neg (by omega)]))); (focus (rw [eh40.2 236 k (fun q => absurd q.1 (by decide)), eh37.2 236 k (fun q => absurd q.1 (by decide)), eh36.2 236 k (fun q => absurd q.1 (by decide)), eh35.2 236 k (fun q => absurd q.1 (by decide)), eh34.at 236 k, eh33.2 236 k (fun q => absurd q.1 (by decide)), eh32.2 236 k (fun q => absurd q.1 (by decide))]; all_goals (try simp only [Nat.reduceEqDiff, false_and, if_false, true_and]); all_goals (first | rfl | rw [if_neg (by omega)]))); (focus (rw [eh40.2 237 k (fun q => absurd q.1 (by decide)), eh37.2 237 k (fun q => absurd q.1 (by decide)), eh36.2 237 k (fun q => absurd q.1 (by decide)), eh35.at 237 k, eh34.2 237 k (fun q => absurd q.1 (by decide)), eh33.2 237 k (fun q => absurd q.1 (by decide)), eh32.2 237 k (fun q => absurd q.1 (by decide))]; all_goals (try simp only [Nat.reduceEqDiff, false_and, if_false, true_and]); all_goals (first | rfl | rw [if_neg (by omega)])))) (by rw [eh40.2 228 _ (fun q => absurd q.1 (by decide)), eh37.2 228 _ (fun q => absurd q.1 (by decide)), eh36.2 228 _ (fun q => absurd q.1 (by decide)), eh35.2 228 _ (fun q => absurd q.1 (by decide)), eh34.2 228 _ (fun q => absurd q.1 (by decide)), eh33.2 228 _ (fun q => absurd q.1 (by decide)), eh32.2 228 _ (fun q => absurd q.1 (by decide))]))⟩⟩
        ·
          refine sx_aload_n dX12_readWord_152 rfl ?_
          refine sx_getS (k := 49) (t := 259) cl_12 fl_X12_118 dX12_readWord_153 s_224 (by decide) rfl (by decide) ?_
          refine sx_iconst dX12_readWord_156 ⟨by decide, by decide⟩ ?_
          refine sx_iaload dX12_readWord_157 s_259 (by decide) (by decide) ⟨by omega, by omega⟩ ?_
          refine sx_sipush dX12_readWord_158 ⟨by decide, by decide, by decide⟩ ?_
          refine sx_icmp_le (tgt := 174) dX12_readWord_161 (by decide) (fun c41 => ?_) (fun c41 => ?_)
          ·
            refine sx_aload_n dX12_readWord_174 rfl ?_
            refine sx_aload_n dX12_readWord_175 rfl ?_
            refine sx_bipush dX12_readWord_176 ⟨by decide, by decide, by decide⟩ ?_
            refine sx_callVz lk_X12_379 cl_12 s_224 (by decide) dX12_readWord_178 (vs := [_]) rfl rfl (Nat.le_of_ble_eq_true rfl) (Nat.le_of_ble_eq_true rfl) rfl (c2_X12_isSignHere _ Ihz.1 _) (fun x43 h42 zx43 ph42 => ?_)
            obtain ⟨rfl, p_x43⟩ := ph42
            refine sx_callVv lk_X12_382 cl_12 s_224 (by decide) dX12_readWord_181 (vs := [_]) rfl rfl (Nat.le_of_ble_eq_true rfl) (Nat.le_of_ble_eq_true rfl) rfl (c_X12_must _ Ihz.1 _ (by omega)) (fun h44 ph44 => ?_)
            obtain ⟨Kh44, a_h44, m_h44, g_h44⟩ := ph44
            have Ih44 := Ihz.tr Kh44 (prBW_sub rfl rfl rfl)
            have th44_224_3 := Kh44.2 224 3 rfl
            have th44_224_37 := Kh44.2 224 37 rfl
            have th44_224_52 := Kh44.2 224 52 rfl
            have th44_224_53 := Kh44.2 224 53 rfl
            have th44_224_54 := Kh44.2 224 54 rfl
            have th44_224_55 := Kh44.2 224 55 rfl
            have th44_224_56 := Kh44.2 224 56 rfl
            have th44_224_57 := Kh44.2 224 57 rfl
            refine sx_aload_n dX12_readWord_184 rfl ?_
            refine sx_getS (k := 30) (t := 246) cl_12 fl_X12_78 dX12_readWord_185 s_224 (by decide) rfl (by decide) ?_
            refine sx_iload_n dX12_readWord_188 rfl ?_
            refine sx_lload_n dX12_readWord_189 rfl ?_
            refine sy_lastore dX12_readWord_190 s_246 (by decide) (by decide) ⟨by omega, by omega⟩ (fun h46 eh46 => ?_)
            have Ih46 := Ih44.up eh46 trivial (decide_eq_false (np_6 (by omega) hyb))
            have th46_224_3 := eh46.2 (224) 3 (fun q => absurd q.1 (by decide))
            have th46_224_4 := eh46.2 (224) 4 (fun q => absurd q.1 (by decide))
            have th46_224_7 := eh46.2 (224) 7 (fun q => absurd q.1 (by decide))
            have th46_224_8 := eh46.2 (224) 8 (fun q => absurd q.1 (by decide))
            have th46_224_37 := eh46.2 (224) 37 (fun q => absurd q.1 (by decide))
            have th46_224_52 := eh46.2 (224) 52 (fun q => absurd q.1 (by decide))
            have th46_224_53 := eh46.2 (224) 53 (fun q => absurd q.1 (by decide))
            have th46_224_54 := eh46.2 (224) 54 (fun q => absurd q.1 (by decide))
            have th46_224_55 := eh46.2 (224) 55 (fun q => absurd q.1 (by decide))
            have th46_224_56 := eh46.2 (224) 56 (fun q => absurd q.1 (by decide))
            have th46_224_57 := eh46.2 (224) 57 (fun q => absurd q.1 (by decide))
            refine sx_aload_n dX12_readWord_191 rfl ?_
            refine sx_getS (k := 19) (t := 235) cl_12 fl_X12_45 dX12_readWord_192 s_224 (by decide) rfl (by decide) ?_
            refine sx_iload_n dX12_readWord_195 rfl ?_
            refine sx_aload_n dX12_readWord_196 rfl ?_
            refine sx_getI (k := 56) cl_12 fl_X12_403 dX12_readWord_197 s_224 (by decide) rfl (by decide) ?_
            refine sy_iastore dX12_readWord_200 s_235 (by decide) (by decide) ⟨by omega, by omega⟩ (fun h47 eh47 => ?_)
            have Ih47 := Ih46.up eh47 trivial (decide_eq_false (np_6 (by omega) hyb))
            have th47_224_3 := eh47.2 (224) 3 (fun q => absurd q.1 (by decide))
            have th47_224_4 := eh47.2 (224) 4 (fun q => absurd q.1 (by decide))
            have th47_224_7 := eh47.2 (224) 7 (fun q => absurd q.1 (by decide))
            have th47_224_8 := eh47.2 (224) 8 (fun q => absurd q.1 (by decide))
            have th47_224_37 := eh47.2 (224) 37 (fun q => absurd q.1 (by decide))
            have th47_224_52 := eh47.2 (224) 52 (fun q => absurd q.1 (by decide))
            have th47_224_53 := eh47.2 (224) 53 (fun q => absurd q.1 (by decide))
            have th47_224_54 := eh47.2 (224) 54 (fun q => absurd q.1 (by decide))
            have th47_224_55 := eh47.2 (224) 55 (fun q => absurd q.1 (by decide))
            have th47_224_56 := eh47.2 (224) 56 (fun q => absurd q.1 (by decide))
            have th47_224_57 := eh47.2 (224) 57 (fun q => absurd q.1 (by decide))
            refine sx_aload_n dX12_readWord_201 rfl ?_
            refine sx_getS (k := 20) (t := 236) cl_12 fl_X12_48 dX12_readWord_202 s_224 (by decide) rfl (by decide) ?_
            refine sx_iload_n dX12_readWord_205 rfl ?_
            refine sx_aload_n dX12_readWord_206 rfl ?_
            refine sx_getI (k := 53) cl_12 fl_X12_406 dX12_readWord_207 s_224 (by decide) rfl (by decide) ?_
            refine sy_iastore dX12_readWord_210 s_236 (by decide) (by decide) ⟨by omega, by omega⟩ (fun h48 eh48 => ?_)
            have Ih48 := Ih47.up eh48 trivial (decide_eq_false (np_6 (by omega) hyb))
            have th48_224_3 := eh48.2 (224) 3 (fun q => absurd q.1 (by decide))
            have th48_224_4 := eh48.2 (224) 4 (fun q => absurd q.1 (by decide))
            have th48_224_7 := eh48.2 (224) 7 (fun q => absurd q.1 (by decide))
            have th48_224_8 := eh48.2 (224) 8 (fun q => absurd q.1 (by decide))
            have th48_224_37 := eh48.2 (224) 37 (fun q => absurd q.1 (by decide))
            have th48_224_52 := eh48.2 (224) 52 (fun q => absurd q.1 (by decide))
            have th48_224_53 := eh48.2 (224) 53 (fun q => absurd q.1 (by decide))
            have th48_224_54 := eh48.2 (224) 54 (fun q => absurd q.1 (by decide))
            have th48_224_55 := eh48.2 (224) 55 (fun q => absurd q.1 (by decide))
            have th48_224_56 := eh48.2 (224) 56 (fun q => absurd q.1 (by decide))
            have th48_224_57 := eh48.2 (224) 57 (fun q => absurd q.1 (by decide))
            refine sx_aload_n dX12_readWord_211 rfl ?_
            refine sx_getS (k := 21) (t := 237) cl_12 fl_X12_51 dX12_readWord_212 s_224 (by decide) rfl (by decide) ?_
            refine sx_iload_n dX12_readWord_215 rfl ?_
            refine sx_aload_n dX12_readWord_216 rfl ?_
            refine sx_getI (k := 57) cl_12 fl_X12_409 dX12_readWord_217 s_224 (by decide) rfl (by decide) ?_
            refine sy_iastore dX12_readWord_220 s_237 (by decide) (by decide) ⟨by omega, by omega⟩ (fun h49 eh49 => ?_)
            have Ih49 := Ih48.up eh49 trivial (decide_eq_false (np_6 (by omega) hyb))
            have th49_224_3 := eh49.2 (224) 3 (fun q => absurd q.1 (by decide))
            have th49_224_4 := eh49.2 (224) 4 (fun q => absurd q.1 (by decide))
            have th49_224_7 := eh49.2 (224) 7 (fun q => absurd q.1 (by decide))
            have th49_224_8 := eh49.2 (224) 8 (fun q => absurd q.1 (by decide))
            have th49_224_37 := eh49.2 (224) 37 (fun q => absurd q.1 (by decide))
            have th49_224_52 := eh49.2 (224) 52 (fun q => absurd q.1 (by decide))
            have th49_224_53 := eh49.2 (224) 53 (fun q => absurd q.1 (by decide))
            have th49_224_54 := eh49.2 (224) 54 (fun q => absurd q.1 (by decide))
            have th49_224_55 := eh49.2 (224) 55 (fun q => absurd q.1 (by decide))
            have th49_224_56 := eh49.2 (224) 56 (fun q => absurd q.1 (by decide))
            have th49_224_57 := eh49.2 (224) 57 (fun q => absurd q.1 (by decide))
            refine sx_aload_n dX12_readWord_221 rfl ?_
            refine sx_getS (k := 22) (t := 238) cl_12 fl_X12_54 dX12_readWord_222 s_224 (by decide) rfl (by decide) ?_
            refine sx_iload_n dX12_readWord_225 rfl ?_
            refine sx_aload_n dX12_readWord_226 rfl ?_
            refine sx_getI (k := 58) cl_12 fl_X12_412 dX12_readWord_227 s_224 (by decide) rfl (by decide) ?_
            refine sy_iastore dX12_readWord_230 s_238 (by decide) (by decide) ⟨by omega, by omega⟩ (fun h50 eh50 => ?_)
            have Ih50 := Ih49.up eh50 trivial (decide_eq_false (np_6 (by omega) hyb))
            have th50_224_3 := eh50.2 (224) 3 (fun q => absurd q.1 (by decide))
            have th50_224_4 := eh50.2 (224) 4 (fun q => absurd q.1 (by decide))
            have th50_224_7 := eh50.2 (224) 7 (fun q => absurd q.1 (by decide))
            have th50_224_8 := eh50.2 (224) 8 (fun q => absurd q.1 (by decide))
            have th50_224_37 := eh50.2 (224) 37 (fun q => absurd q.1 (by decide))
            have th50_224_52 := eh50.2 (224) 52 (fun q => absurd q.1 (by decide))
            have th50_224_53 := eh50.2 (224) 53 (fun q => absurd q.1 (by decide))
            have th50_224_54 := eh50.2 (224) 54 (fun q => absurd q.1 (by decide))
            have th50_224_55 := eh50.2 (224) 55 (fun q => absurd q.1 (by decide))
            have th50_224_56 := eh50.2 (224) 56 (fun q => absurd q.1 (by decide))
            have th50_224_57 := eh50.2 (224) 57 (fun q => absurd q.1 (by decide))
            refine sx_aload_n dX12_readWord_231 rfl ?_
            refine sx_getS (k := 23) (t := 239) cl_12 fl_X12_57 dX12_readWord_232 s_224 (by decide) rfl (by decide) ?_
            refine sx_iload_n dX12_readWord_235 rfl ?_
            refine sx_aload_n dX12_readWord_236 rfl ?_
            refine sx_getS (k := 49) (t := 259) cl_12 fl_X12_118 dX12_readWord_237 s_224 (by decide) rfl (by decide) ?_
            refine sx_iconst dX12_readWord_240 ⟨by decide, by decide⟩ ?_
            refine sx_iaload dX12_readWord_241 s_259 (by decide) (by decide) ⟨by omega, by omega⟩ ?_
            refine sy_iastore dX12_readWord_242 s_239 (by decide) (by decide) ⟨by omega, by omega⟩ (fun h51 eh51 => ?_)
            have Ih51 := Ih50.up eh51 trivial (decide_eq_false (np_6 (by omega) hyb))
            have th51_224_3 := eh51.2 (224) 3 (fun q => absurd q.1 (by decide))
            have th51_224_4 := eh51.2 (224) 4 (fun q => absurd q.1 (by decide))
            have th51_224_7 := eh51.2 (224) 7 (fun q => absurd q.1 (by decide))
            have th51_224_8 := eh51.2 (224) 8 (fun q => absurd q.1 (by decide))
            have th51_224_37 := eh51.2 (224) 37 (fun q => absurd q.1 (by decide))
            have th51_224_52 := eh51.2 (224) 52 (fun q => absurd q.1 (by decide))
            have th51_224_53 := eh51.2 (224) 53 (fun q => absurd q.1 (by decide))
            have th51_224_54 := eh51.2 (224) 54 (fun q => absurd q.1 (by decide))
            have th51_224_55 := eh51.2 (224) 55 (fun q => absurd q.1 (by decide))
            have th51_224_56 := eh51.2 (224) 56 (fun q => absurd q.1 (by decide))
            have th51_224_57 := eh51.2 (224) 57 (fun q => absurd q.1 (by decide))
            refine sx_aload_n dX12_readWord_243 rfl ?_
            refine sx_getS (k := 11) (t := 227) cl_12 fl_X12_20 dX12_readWord_244 s_224 (by decide) rfl (by decide) ?_
            refine sx_aload_n dX12_readWord_247 rfl ?_
            refine sx_getI (k := 37) cl_12 fl_X12_340 dX12_readWord_248 s_224 (by decide) rfl (by decide) ?_
            have r52 : (0 : Int) ≤ h51 224 37 ∧ h51 224 37 ≤ 1 := Ih51.1 224 37
            refine sx_dup2 dX12_readWord_251 ?_
            have e27 : h51 227 (h51 224 37).toNat = w := by rw [show (h51 224 37).toNat = (1 - (b : Int)).toNat by omega]; all_goals rw [eh51.2 227 _ (fun q => absurd q.1 (by decide)), eh50.2 227 _ (fun q => absurd q.1 (by decide)), eh49.2 227 _ (fun q => absurd q.1 (by decide)), eh48.2 227 _ (fun q => absurd q.1 (by decide)), eh47.2 227 _ (fun q => absurd q.1 (by decide)), eh46.2 227 _ (fun q => absurd q.1 (by decide)), show h44 227 _ = _ from Kh44.2 227 _ rfl]; all_goals exact h227
            refine sy_iaF (F := fun z => (0 : Int) ≤ z ∧ z ≤ 6) dX12_readWord_252 s_227 (by decide) (by decide) ⟨by omega, by omega⟩ (Ih51.1 227 _) (fun r53 => ?_)
            refine sx_iconst dX12_readWord_253 ⟨by decide, by decide⟩ ?_
            refine sx_iadd dX12_readWord_254 ?_
            refine sy_topw (by omega) ?_
            refine sy_iastore dX12_readWord_255 s_227 (by decide) (by decide) ⟨by omega, by omega⟩ (fun h54 eh54 => ?_)
            have Ih54 := Ih51.up eh54 (show (0 : Int) ≤ _ ∧ _ ≤ (6 : Int) from ⟨by omega, by omega⟩) (beq_eq_false_iff_ne.mpr (show _ ≠ _ by omega))
            have th54_224_3 := eh54.2 (224) 3 (fun q => absurd q.1 (by decide))
            have th54_224_4 := eh54.2 (224) 4 (fun q => absurd q.1 (by decide))
            have th54_224_7 := eh54.2 (224) 7 (fun q => absurd q.1 (by decide))
            have th54_224_8 := eh54.2 (224) 8 (fun q => absurd q.1 (by decide))
            have th54_224_37 := eh54.2 (224) 37 (fun q => absurd q.1 (by decide))
            have th54_224_52 := eh54.2 (224) 52 (fun q => absurd q.1 (by decide))
            have th54_224_53 := eh54.2 (224) 53 (fun q => absurd q.1 (by decide))
            have th54_224_54 := eh54.2 (224) 54 (fun q => absurd q.1 (by decide))
            have th54_224_55 := eh54.2 (224) 55 (fun q => absurd q.1 (by decide))
            have th54_224_56 := eh54.2 (224) 56 (fun q => absurd q.1 (by decide))
            have th54_224_57 := eh54.2 (224) 57 (fun q => absurd q.1 (by decide))
            refine sx_ret dX12_readWord_256 ?_
            have KM : mK (prW [4, 5, 6, 7, 8, 9, 10] []) hz h44 := (mK.tr (mK.refl Ihz.1) Kh44 (prW_sub rfl rfl))
            exact ⟨rfl, ⟨Ih54, by omega, by omega, (by rw [eh54.at 227 (1 - (b : Int)).toNat, eh51.2 227 (1 - (b : Int)).toNat (fun q => absurd q.1 (by decide)), eh50.2 227 (1 - (b : Int)).toNat (fun q => absurd q.1 (by decide)), eh49.2 227 (1 - (b : Int)).toNat (fun q => absurd q.1 (by decide)), eh48.2 227 (1 - (b : Int)).toNat (fun q => absurd q.1 (by decide)), eh47.2 227 (1 - (b : Int)).toNat (fun q => absurd q.1 (by decide)), eh46.2 227 (1 - (b : Int)).toNat (fun q => absurd q.1 (by decide)), show h44 227 (1 - (b : Int)).toNat = _ from Kh44.2 227 (1 - (b : Int)).toNat rfl]; all_goals (try simp only [Nat.reduceEqDiff, false_and, if_false, true_and]); all_goals (try rw [if_pos (by omega)]); all_goals (try rw [e27]); all_goals omega), fun q => by first | (exfalso; omega) | (have hR := hri (by omega); obtain ⟨i, hR1, hR2⟩ := hR; exact RI_done (h := h44) (by omega) (by omega) (RI_eq (tok_rd KM) hR1) (by rw [tok_rd KM 233 _ (Or.inr ⟨by omega, by omega⟩)]; exact RBx_eq (by omega) (fun a k q1 q2 => tok_rd KM a k (Or.inr ⟨q1, q2⟩)) hR2) (by omega) (by omega) (by rw [eh54.2 235 (6 * (1 - (b : Int)) + w).toNat (fun q => absurd q.1 (by decide)), eh51.2 235 (6 * (1 - (b : Int)) + w).toNat (fun q => absurd q.1 (by decide)), eh50.2 235 (6 * (1 - (b : Int)) + w).toNat (fun q => absurd q.1 (by decide)), eh49.2 235 (6 * (1 - (b : Int)) + w).toNat (fun q => absurd q.1 (by decide)), eh48.2 235 (6 * (1 - (b : Int)) + w).toNat (fun q => absurd q.1 (by decide)), eh47.at 235 (6 * (1 - (b : Int)) + w).toNat, eh46.2 235 (6 * (1 - (b : Int)) + w).toNat (fun q => absurd q.1 (by decide))]; all_goals (try simp only [Nat.reduceEqDiff, false_and, if_false, true_and]); all_goals (try rw [if_pos (by omega)]); all_goals (first | done | rfl | omega)) (by rw [eh54.2 236 (6 * (1 - (b : Int)) + w).toNat (fun q => absurd q.1 (by decide)), eh51.2 236 (6 * (1 - (b : Int)) + w).toNat (fun q => absurd q.1 (by decide)), eh50.2 236 (6 * (1 - (b : Int)) + w).toNat (fun q => absurd q.1 (by decide)), eh49.2 236 (6 * (1 - (b : Int)) + w).toNat (fun q => absurd q.1 (by decide)), eh48.at 236 (6 * (1 - (b : Int)) + w).toNat, eh47.2 236 (6 * (1 - (b : Int)) + w).toNat (fun q => absurd q.1 (by decide)), eh46.2 236 (6 * (1 - (b : Int)) + w).toNat (fun q => absurd q.1 (by decide))]; all_goals (try simp only [Nat.reduceEqDiff, false_and, if_false, true_and]); all_goals (try rw [if_pos (by omega)]); all_goals (first | done | rfl | omega)) (by rw [eh54.2 237 (6 * (1 - (b : Int)) + w).toNat (fun q => absurd q.1 (by decide)), eh51.2 237 (6 * (1 - (b : Int)) + w).toNat (fun q => absurd q.1 (by decide)), eh50.2 237 (6 * (1 - (b : Int)) + w).toNat (fun q => absurd q.1 (by decide)), eh49.at 237 (6 * (1 - (b : Int)) + w).toNat, eh48.2 237 (6 * (1 - (b : Int)) + w).toNat (fun q => absurd q.1 (by decide)), eh47.2 237 (6 * (1 - (b : Int)) + w).toNat (fun q => absurd q.1 (by decide)), eh46.2 237 (6 * (1 - (b : Int)) + w).toNat (fun q => absurd q.1 (by decide))]; all_goals (try simp only [Nat.reduceEqDiff, false_and, if_false, true_and]); all_goals (try rw [if_pos (by omega)]); all_goals (first | done | rfl | omega)) (fun a k q => by rcases q with rfl | rfl | rfl | rfl | rfl; (focus rw [eh54.2 233 k (fun q => absurd q.1 (by decide)), eh51.2 233 k (fun q => absurd q.1 (by decide)), eh50.2 233 k (fun q => absurd q.1 (by decide)), eh49.2 233 k (fun q => absurd q.1 (by decide)), eh48.2 233 k (fun q => absurd q.1 (by decide)), eh47.2 233 k (fun q => absurd q.1 (by decide)), eh46.2 233 k (fun q => absurd q.1 (by decide))]); (focus rw [eh54.2 234 k (fun q => absurd q.1 (by decide)), eh51.2 234 k (fun q => absurd q.1 (by decide)), eh50.2 234 k (fun q => absurd q.1 (by decide)), eh49.2 234 k (fun q => absurd q.1 (by decide)), eh48.2 234 k (fun q => absurd q.1 (by decide)), eh47.2 234 k (fun q => absurd q.1 (by decide)), eh46.2 234 k (fun q => absurd q.1 (by decide))]); (focus rw [eh54.2 240 k (fun q => absurd q.1 (by decide)), eh51.2 240 k (fun q => absurd q.1 (by decide)), eh50.2 240 k (fun q => absurd q.1 (by decide)), eh49.2 240 k (fun q => absurd q.1 (by decide)), eh48.2 240 k (fun q => absurd q.1 (by decide)), eh47.2 240 k (fun q => absurd q.1 (by decide)), eh46.2 240 k (fun q => absurd q.1 (by decide))]); (focus rw [eh54.2 241 k (fun q => absurd q.1 (by decide)), eh51.2 241 k (fun q => absurd q.1 (by decide)), eh50.2 241 k (fun q => absurd q.1 (by decide)), eh49.2 241 k (fun q => absurd q.1 (by decide)), eh48.2 241 k (fun q => absurd q.1 (by decide)), eh47.2 241 k (fun q => absurd q.1 (by decide)), eh46.2 241 k (fun q => absurd q.1 (by decide))]); (focus rw [eh54.2 243 k (fun q => absurd q.1 (by decide)), eh51.2 243 k (fun q => absurd q.1 (by decide)), eh50.2 243 k (fun q => absurd q.1 (by decide)), eh49.2 243 k (fun q => absurd q.1 (by decide)), eh48.2 243 k (fun q => absurd q.1 (by decide)), eh47.2 243 k (fun q => absurd q.1 (by decide)), eh46.2 243 k (fun q => absurd q.1 (by decide))])) (fun a k q1 q2 q3 => by have q : a = 235 ∨ a = 236 ∨ a = 237 := (by omega); rcases q with rfl | rfl | rfl; (focus (rw [eh54.2 235 k (fun q => absurd q.1 (by decide)), eh51.2 235 k (fun q => absurd q.1 (by decide)), eh50.2 235 k (fun q => absurd q.1 (by decide)), eh49.2 235 k (fun q => absurd q.1 (by decide)), eh48.2 235 k (fun q => absurd q.1 (by decide)), eh47.at 235 k, eh46.2 235 k (fun q => absurd q.1 (by decide))]; all_goals (try simp only [Nat.reduceEqDiff, false_and, if_false, true_and]); all_goals (first | rfl | rw [if_neg (by omega)]))); (focus (rw [eh54.2 236 k (fun q => absurd q.1 (by decide)), eh51.2 236 k (fun q => absurd q.1 (by decide)), eh50.2 236 k (fun q => absurd q.1 (by decide)), eh49.2 236 k (fun q => absurd q.1 (by decide)), eh48.at 236 k, eh47.2 236 k (fun q => absurd q.1 (by decide)), eh46.2 236 k (fun q => absurd q.1 (by decide))]; all_goals (try simp only [Nat.reduceEqDiff, false_and, if_false, true_and]); all_goals (first | rfl | rw [if_neg (by omega)]))); (focus (rw [eh54.2 237 k (fun q => absurd q.1 (by decide)), eh51.2 237 k (fun q => absurd q.1 (by decide)), eh50.2 237 k (fun q => absurd q.1 (by decide)), eh49.at 237 k, eh48.2 237 k (fun q => absurd q.1 (by decide)), eh47.2 237 k (fun q => absurd q.1 (by decide)), eh46.2 237 k (fun q => absurd q.1 (by decide))]; all_goals (try simp only [Nat.reduceEqDiff, false_and, if_false, true_and]); all_goals (first | rfl | rw [if_neg (by omega)])))) (by rw [eh54.2 228 _ (fun q => absurd q.1 (by decide)), eh51.2 228 _ (fun q => absurd q.1 (by decide)), eh50.2 228 _ (fun q => absurd q.1 (by decide)), eh49.2 228 _ (fun q => absurd q.1 (by decide)), eh48.2 228 _ (fun q => absurd q.1 (by decide)), eh47.2 228 _ (fun q => absurd q.1 (by decide)), eh46.2 228 _ (fun q => absurd q.1 (by decide))]))⟩⟩
          ·
            refine sx_aload_n dX12_readWord_164 rfl ?_
            refine sx_bipush dX12_readWord_165 ⟨by decide, by decide, by decide⟩ ?_
            refine sx_aload_n dX12_readWord_167 rfl ?_
            refine sx_getI (k := 6) cl_12 fl_X12_295 dX12_readWord_168 s_224 (by decide) rfl (by decide) ?_
            have r55 : (0 : Int) ≤ hz 224 6 ∧ hz 224 6 ≤ 1700 := Ihz.1 224 6
            refine sx_callVv lk_X12_326 cl_12 s_224 (by decide) dX12_readWord_171 (vs := [_, _]) rfl rfl (Nat.le_of_ble_eq_true rfl) (Nat.le_of_ble_eq_true rfl) rfl (c_X12_fails _ Ihz.1 _ _ (by omega)) (fun h56 ph56 => ?_)
            obtain ⟨Kh56, g_h56⟩ := ph56
            have Ih56 := Ihz.tr Kh56 (prBW_sub rfl rfl rfl)
            have th56_224_3 := Kh56.2 224 3 rfl
            have th56_224_7 := Kh56.2 224 7 rfl
            have th56_224_8 := Kh56.2 224 8 rfl
            have th56_224_37 := Kh56.2 224 37 rfl
            have th56_224_52 := Kh56.2 224 52 rfl
            have th56_224_53 := Kh56.2 224 53 rfl
            have th56_224_54 := Kh56.2 224 54 rfl
            have th56_224_55 := Kh56.2 224 55 rfl
            have th56_224_56 := Kh56.2 224 56 rfl
            have th56_224_57 := Kh56.2 224 57 rfl
            refine sx_aload_n dX12_readWord_174 rfl ?_
            refine sx_aload_n dX12_readWord_175 rfl ?_
            refine sx_bipush dX12_readWord_176 ⟨by decide, by decide, by decide⟩ ?_
            refine sx_callVz lk_X12_379 cl_12 s_224 (by decide) dX12_readWord_178 (vs := [_]) rfl rfl (Nat.le_of_ble_eq_true rfl) (Nat.le_of_ble_eq_true rfl) rfl (c2_X12_isSignHere _ Ih56.1 _) (fun x59 h58 zx59 ph58 => ?_)
            obtain ⟨rfl, p_x59⟩ := ph58
            refine sx_callVv lk_X12_382 cl_12 s_224 (by decide) dX12_readWord_181 (vs := [_]) rfl rfl (Nat.le_of_ble_eq_true rfl) (Nat.le_of_ble_eq_true rfl) rfl (c_X12_must _ Ih56.1 _ (by omega)) (fun h60 ph60 => ?_)
            obtain ⟨Kh60, a_h60, m_h60, g_h60⟩ := ph60
            have Ih60 := Ih56.tr Kh60 (prBW_sub rfl rfl rfl)
            have th60_224_3 := Kh60.2 224 3 rfl
            have th60_224_37 := Kh60.2 224 37 rfl
            have th60_224_52 := Kh60.2 224 52 rfl
            have th60_224_53 := Kh60.2 224 53 rfl
            have th60_224_54 := Kh60.2 224 54 rfl
            have th60_224_55 := Kh60.2 224 55 rfl
            have th60_224_56 := Kh60.2 224 56 rfl
            have th60_224_57 := Kh60.2 224 57 rfl
            refine sx_aload_n dX12_readWord_184 rfl ?_
            refine sx_getS (k := 30) (t := 246) cl_12 fl_X12_78 dX12_readWord_185 s_224 (by decide) rfl (by decide) ?_
            refine sx_iload_n dX12_readWord_188 rfl ?_
            refine sx_lload_n dX12_readWord_189 rfl ?_
            refine sy_lastore dX12_readWord_190 s_246 (by decide) (by decide) ⟨by omega, by omega⟩ (fun h62 eh62 => ?_)
            have Ih62 := Ih60.up eh62 trivial (decide_eq_false (np_6 (by omega) hyb))
            have th62_224_3 := eh62.2 (224) 3 (fun q => absurd q.1 (by decide))
            have th62_224_4 := eh62.2 (224) 4 (fun q => absurd q.1 (by decide))
            have th62_224_7 := eh62.2 (224) 7 (fun q => absurd q.1 (by decide))
            have th62_224_8 := eh62.2 (224) 8 (fun q => absurd q.1 (by decide))
            have th62_224_37 := eh62.2 (224) 37 (fun q => absurd q.1 (by decide))
            have th62_224_52 := eh62.2 (224) 52 (fun q => absurd q.1 (by decide))
            have th62_224_53 := eh62.2 (224) 53 (fun q => absurd q.1 (by decide))
            have th62_224_54 := eh62.2 (224) 54 (fun q => absurd q.1 (by decide))
            have th62_224_55 := eh62.2 (224) 55 (fun q => absurd q.1 (by decide))
            have th62_224_56 := eh62.2 (224) 56 (fun q => absurd q.1 (by decide))
            have th62_224_57 := eh62.2 (224) 57 (fun q => absurd q.1 (by decide))
            refine sx_aload_n dX12_readWord_191 rfl ?_
            refine sx_getS (k := 19) (t := 235) cl_12 fl_X12_45 dX12_readWord_192 s_224 (by decide) rfl (by decide) ?_
            refine sx_iload_n dX12_readWord_195 rfl ?_
            refine sx_aload_n dX12_readWord_196 rfl ?_
            refine sx_getI (k := 56) cl_12 fl_X12_403 dX12_readWord_197 s_224 (by decide) rfl (by decide) ?_
            refine sy_iastore dX12_readWord_200 s_235 (by decide) (by decide) ⟨by omega, by omega⟩ (fun h63 eh63 => ?_)
            have Ih63 := Ih62.up eh63 trivial (decide_eq_false (np_6 (by omega) hyb))
            have th63_224_3 := eh63.2 (224) 3 (fun q => absurd q.1 (by decide))
            have th63_224_4 := eh63.2 (224) 4 (fun q => absurd q.1 (by decide))
            have th63_224_7 := eh63.2 (224) 7 (fun q => absurd q.1 (by decide))
            have th63_224_8 := eh63.2 (224) 8 (fun q => absurd q.1 (by decide))
            have th63_224_37 := eh63.2 (224) 37 (fun q => absurd q.1 (by decide))
            have th63_224_52 := eh63.2 (224) 52 (fun q => absurd q.1 (by decide))
            have th63_224_53 := eh63.2 (224) 53 (fun q => absurd q.1 (by decide))
            have th63_224_54 := eh63.2 (224) 54 (fun q => absurd q.1 (by decide))
            have th63_224_55 := eh63.2 (224) 55 (fun q => absurd q.1 (by decide))
            have th63_224_56 := eh63.2 (224) 56 (fun q => absurd q.1 (by decide))
            have th63_224_57 := eh63.2 (224) 57 (fun q => absurd q.1 (by decide))
            refine sx_aload_n dX12_readWord_201 rfl ?_
            refine sx_getS (k := 20) (t := 236) cl_12 fl_X12_48 dX12_readWord_202 s_224 (by decide) rfl (by decide) ?_
            refine sx_iload_n dX12_readWord_205 rfl ?_
            refine sx_aload_n dX12_readWord_206 rfl ?_
            refine sx_getI (k := 53) cl_12 fl_X12_406 dX12_readWord_207 s_224 (by decide) rfl (by decide) ?_
            refine sy_iastore dX12_readWord_210 s_236 (by decide) (by decide) ⟨by omega, by omega⟩ (fun h64 eh64 => ?_)
            have Ih64 := Ih63.up eh64 trivial (decide_eq_false (np_6 (by omega) hyb))
            have th64_224_3 := eh64.2 (224) 3 (fun q => absurd q.1 (by decide))
            have th64_224_4 := eh64.2 (224) 4 (fun q => absurd q.1 (by decide))
            have th64_224_7 := eh64.2 (224) 7 (fun q => absurd q.1 (by decide))
            have th64_224_8 := eh64.2 (224) 8 (fun q => absurd q.1 (by decide))
            have th64_224_37 := eh64.2 (224) 37 (fun q => absurd q.1 (by decide))
            have th64_224_52 := eh64.2 (224) 52 (fun q => absurd q.1 (by decide))
            have th64_224_53 := eh64.2 (224) 53 (fun q => absurd q.1 (by decide))
            have th64_224_54 := eh64.2 (224) 54 (fun q => absurd q.1 (by decide))
            have th64_224_55 := eh64.2 (224) 55 (fun q => absurd q.1 (by decide))
            have th64_224_56 := eh64.2 (224) 56 (fun q => absurd q.1 (by decide))
            have th64_224_57 := eh64.2 (224) 57 (fun q => absurd q.1 (by decide))
            refine sx_aload_n dX12_readWord_211 rfl ?_
            refine sx_getS (k := 21) (t := 237) cl_12 fl_X12_51 dX12_readWord_212 s_224 (by decide) rfl (by decide) ?_
            refine sx_iload_n dX12_readWord_215 rfl ?_
            refine sx_aload_n dX12_readWord_216 rfl ?_
            refine sx_getI (k := 57) cl_12 fl_X12_409 dX12_readWord_217 s_224 (by decide) rfl (by decide) ?_
            refine sy_iastore dX12_readWord_220 s_237 (by decide) (by decide) ⟨by omega, by omega⟩ (fun h65 eh65 => ?_)
            have Ih65 := Ih64.up eh65 trivial (decide_eq_false (np_6 (by omega) hyb))
            have th65_224_3 := eh65.2 (224) 3 (fun q => absurd q.1 (by decide))
            have th65_224_4 := eh65.2 (224) 4 (fun q => absurd q.1 (by decide))
            have th65_224_7 := eh65.2 (224) 7 (fun q => absurd q.1 (by decide))
            have th65_224_8 := eh65.2 (224) 8 (fun q => absurd q.1 (by decide))
            have th65_224_37 := eh65.2 (224) 37 (fun q => absurd q.1 (by decide))
            have th65_224_52 := eh65.2 (224) 52 (fun q => absurd q.1 (by decide))
            have th65_224_53 := eh65.2 (224) 53 (fun q => absurd q.1 (by decide))
            have th65_224_54 := eh65.2 (224) 54 (fun q => absurd q.1 (by decide))
            have th65_224_55 := eh65.2 (224) 55 (fun q => absurd q.1 (by decide))
            have th65_224_56 := eh65.2 (224) 56 (fun q => absurd q.1 (by decide))
            have th65_224_57 := eh65.2 (224) 57 (fun q => absurd q.1 (by decide))
            refine sx_aload_n dX12_readWord_221 rfl ?_
            refine sx_getS (k := 22) (t := 238) cl_12 fl_X12_54 dX12_readWord_222 s_224 (by decide) rfl (by decide) ?_
            refine sx_iload_n dX12_readWord_225 rfl ?_
            refine sx_aload_n dX12_readWord_226 rfl ?_
            refine sx_getI (k := 58) cl_12 fl_X12_412 dX12_readWord_227 s_224 (by decide) rfl (by decide) ?_
            refine sy_iastore dX12_readWord_230 s_238 (by decide) (by decide) ⟨by omega, by omega⟩ (fun h66 eh66 => ?_)
            have Ih66 := Ih65.up eh66 trivial (decide_eq_false (np_6 (by omega) hyb))
            have th66_224_3 := eh66.2 (224) 3 (fun q => absurd q.1 (by decide))
            have th66_224_4 := eh66.2 (224) 4 (fun q => absurd q.1 (by decide))
            have th66_224_7 := eh66.2 (224) 7 (fun q => absurd q.1 (by decide))
            have th66_224_8 := eh66.2 (224) 8 (fun q => absurd q.1 (by decide))
            have th66_224_37 := eh66.2 (224) 37 (fun q => absurd q.1 (by decide))
            have th66_224_52 := eh66.2 (224) 52 (fun q => absurd q.1 (by decide))
            have th66_224_53 := eh66.2 (224) 53 (fun q => absurd q.1 (by decide))
            have th66_224_54 := eh66.2 (224) 54 (fun q => absurd q.1 (by decide))
            have th66_224_55 := eh66.2 (224) 55 (fun q => absurd q.1 (by decide))
            have th66_224_56 := eh66.2 (224) 56 (fun q => absurd q.1 (by decide))
            have th66_224_57 := eh66.2 (224) 57 (fun q => absurd q.1 (by decide))
            refine sx_aload_n dX12_readWord_231 rfl ?_
            refine sx_getS (k := 23) (t := 239) cl_12 fl_X12_57 dX12_readWord_232 s_224 (by decide) rfl (by decide) ?_
            refine sx_iload_n dX12_readWord_235 rfl ?_
            refine sx_aload_n dX12_readWord_236 rfl ?_
            refine sx_getS (k := 49) (t := 259) cl_12 fl_X12_118 dX12_readWord_237 s_224 (by decide) rfl (by decide) ?_
            refine sx_iconst dX12_readWord_240 ⟨by decide, by decide⟩ ?_
            refine sx_iaload dX12_readWord_241 s_259 (by decide) (by decide) ⟨by omega, by omega⟩ ?_
            refine sy_iastore dX12_readWord_242 s_239 (by decide) (by decide) ⟨by omega, by omega⟩ (fun h67 eh67 => ?_)
            have Ih67 := Ih66.up eh67 trivial (decide_eq_false (np_6 (by omega) hyb))
            have th67_224_3 := eh67.2 (224) 3 (fun q => absurd q.1 (by decide))
            have th67_224_4 := eh67.2 (224) 4 (fun q => absurd q.1 (by decide))
            have th67_224_7 := eh67.2 (224) 7 (fun q => absurd q.1 (by decide))
            have th67_224_8 := eh67.2 (224) 8 (fun q => absurd q.1 (by decide))
            have th67_224_37 := eh67.2 (224) 37 (fun q => absurd q.1 (by decide))
            have th67_224_52 := eh67.2 (224) 52 (fun q => absurd q.1 (by decide))
            have th67_224_53 := eh67.2 (224) 53 (fun q => absurd q.1 (by decide))
            have th67_224_54 := eh67.2 (224) 54 (fun q => absurd q.1 (by decide))
            have th67_224_55 := eh67.2 (224) 55 (fun q => absurd q.1 (by decide))
            have th67_224_56 := eh67.2 (224) 56 (fun q => absurd q.1 (by decide))
            have th67_224_57 := eh67.2 (224) 57 (fun q => absurd q.1 (by decide))
            refine sx_aload_n dX12_readWord_243 rfl ?_
            refine sx_getS (k := 11) (t := 227) cl_12 fl_X12_20 dX12_readWord_244 s_224 (by decide) rfl (by decide) ?_
            refine sx_aload_n dX12_readWord_247 rfl ?_
            refine sx_getI (k := 37) cl_12 fl_X12_340 dX12_readWord_248 s_224 (by decide) rfl (by decide) ?_
            have r68 : (0 : Int) ≤ h67 224 37 ∧ h67 224 37 ≤ 1 := Ih67.1 224 37
            refine sx_dup2 dX12_readWord_251 ?_
            have e27 : h67 227 (h67 224 37).toNat = w := by rw [show (h67 224 37).toNat = (1 - (b : Int)).toNat by omega]; all_goals rw [eh67.2 227 _ (fun q => absurd q.1 (by decide)), eh66.2 227 _ (fun q => absurd q.1 (by decide)), eh65.2 227 _ (fun q => absurd q.1 (by decide)), eh64.2 227 _ (fun q => absurd q.1 (by decide)), eh63.2 227 _ (fun q => absurd q.1 (by decide)), eh62.2 227 _ (fun q => absurd q.1 (by decide)), show h60 227 _ = _ from Kh60.2 227 _ rfl, show h56 227 _ = _ from Kh56.2 227 _ rfl]; all_goals exact h227
            refine sy_iaF (F := fun z => (0 : Int) ≤ z ∧ z ≤ 6) dX12_readWord_252 s_227 (by decide) (by decide) ⟨by omega, by omega⟩ (Ih67.1 227 _) (fun r69 => ?_)
            refine sx_iconst dX12_readWord_253 ⟨by decide, by decide⟩ ?_
            refine sx_iadd dX12_readWord_254 ?_
            refine sy_topw (by omega) ?_
            refine sy_iastore dX12_readWord_255 s_227 (by decide) (by decide) ⟨by omega, by omega⟩ (fun h70 eh70 => ?_)
            have Ih70 := Ih67.up eh70 (show (0 : Int) ≤ _ ∧ _ ≤ (6 : Int) from ⟨by omega, by omega⟩) (beq_eq_false_iff_ne.mpr (show _ ≠ _ by omega))
            have th70_224_3 := eh70.2 (224) 3 (fun q => absurd q.1 (by decide))
            have th70_224_4 := eh70.2 (224) 4 (fun q => absurd q.1 (by decide))
            have th70_224_7 := eh70.2 (224) 7 (fun q => absurd q.1 (by decide))
            have th70_224_8 := eh70.2 (224) 8 (fun q => absurd q.1 (by decide))
            have th70_224_37 := eh70.2 (224) 37 (fun q => absurd q.1 (by decide))
            have th70_224_52 := eh70.2 (224) 52 (fun q => absurd q.1 (by decide))
            have th70_224_53 := eh70.2 (224) 53 (fun q => absurd q.1 (by decide))
            have th70_224_54 := eh70.2 (224) 54 (fun q => absurd q.1 (by decide))
            have th70_224_55 := eh70.2 (224) 55 (fun q => absurd q.1 (by decide))
            have th70_224_56 := eh70.2 (224) 56 (fun q => absurd q.1 (by decide))
            have th70_224_57 := eh70.2 (224) 57 (fun q => absurd q.1 (by decide))
            refine sx_ret dX12_readWord_256 ?_
            have KM : mK (prW [4, 5, 6, 7, 8, 9, 10] []) hz h60 := (mK.tr (mK.tr (mK.refl Ihz.1) Kh56 (prW_sub rfl rfl)) Kh60 (prW_sub rfl rfl))
            exact ⟨rfl, ⟨Ih70, by omega, by omega, (by rw [eh70.at 227 (1 - (b : Int)).toNat, eh67.2 227 (1 - (b : Int)).toNat (fun q => absurd q.1 (by decide)), eh66.2 227 (1 - (b : Int)).toNat (fun q => absurd q.1 (by decide)), eh65.2 227 (1 - (b : Int)).toNat (fun q => absurd q.1 (by decide)), eh64.2 227 (1 - (b : Int)).toNat (fun q => absurd q.1 (by decide)), eh63.2 227 (1 - (b : Int)).toNat (fun q => absurd q.1 (by decide)), eh62.2 227 (1 - (b : Int)).toNat (fun q => absurd q.1 (by decide)), show h60 227 (1 - (b : Int)).toNat = _ from Kh60.2 227 (1 - (b : Int)).toNat rfl, show h56 227 (1 - (b : Int)).toNat = _ from Kh56.2 227 (1 - (b : Int)).toNat rfl]; all_goals (try simp only [Nat.reduceEqDiff, false_and, if_false, true_and]); all_goals (try rw [if_pos (by omega)]); all_goals (try rw [e27]); all_goals omega), fun q => by first | (exfalso; omega) | (have hR := hri (by omega); obtain ⟨i, hR1, hR2⟩ := hR; exact RI_done (h := h60) (by omega) (by omega) (RI_eq (tok_rd KM) hR1) (by rw [tok_rd KM 233 _ (Or.inr ⟨by omega, by omega⟩)]; exact RBx_eq (by omega) (fun a k q1 q2 => tok_rd KM a k (Or.inr ⟨q1, q2⟩)) hR2) (by omega) (by omega) (by rw [eh70.2 235 (6 * (1 - (b : Int)) + w).toNat (fun q => absurd q.1 (by decide)), eh67.2 235 (6 * (1 - (b : Int)) + w).toNat (fun q => absurd q.1 (by decide)), eh66.2 235 (6 * (1 - (b : Int)) + w).toNat (fun q => absurd q.1 (by decide)), eh65.2 235 (6 * (1 - (b : Int)) + w).toNat (fun q => absurd q.1 (by decide)), eh64.2 235 (6 * (1 - (b : Int)) + w).toNat (fun q => absurd q.1 (by decide)), eh63.at 235 (6 * (1 - (b : Int)) + w).toNat, eh62.2 235 (6 * (1 - (b : Int)) + w).toNat (fun q => absurd q.1 (by decide))]; all_goals (try simp only [Nat.reduceEqDiff, false_and, if_false, true_and]); all_goals (try rw [if_pos (by omega)]); all_goals (first | done | rfl | omega)) (by rw [eh70.2 236 (6 * (1 - (b : Int)) + w).toNat (fun q => absurd q.1 (by decide)), eh67.2 236 (6 * (1 - (b : Int)) + w).toNat (fun q => absurd q.1 (by decide)), eh66.2 236 (6 * (1 - (b : Int)) + w).toNat (fun q => absurd q.1 (by decide)), eh65.2 236 (6 * (1 - (b : Int)) + w).toNat (fun q => absurd q.1 (by decide)), eh64.at 236 (6 * (1 - (b : Int)) + w).toNat, eh63.2 236 (6 * (1 - (b : Int)) + w).toNat (fun q => absurd q.1 (by decide)), eh62.2 236 (6 * (1 - (b : Int)) + w).toNat (fun q => absurd q.1 (by decide))]; all_goals (try simp only [Nat.reduceEqDiff, false_and, if_false, true_and]); all_goals (try rw [if_pos (by omega)]); all_goals (first | done | rfl | omega)) (by rw [eh70.2 237 (6 * (1 - (b : Int)) + w).toNat (fun q => absurd q.1 (by decide)), eh67.2 237 (6 * (1 - (b : Int)) + w).toNat (fun q => absurd q.1 (by decide)), eh66.2 237 (6 * (1 - (b : Int)) + w).toNat (fun q => absurd q.1 (by decide)), eh65.at 237 (6 * (1 - (b : Int)) + w).toNat, eh64.2 237 (6 * (1 - (b : Int)) + w).toNat (fun q => absurd q.1 (by decide)), eh63.2 237 (6 * (1 - (b : Int)) + w).toNat (fun q => absurd q.1 (by decide)), eh62.2 237 (6 * (1 - (b : Int)) + w).toNat (fun q => absurd q.1 (by decide))]; all_goals (try simp only [Nat.reduceEqDiff, false_and, if_false, true_and]); all_goals (try rw [if_pos (by omega)]); all_goals (first | done | rfl | omega)) (fun a k q => by rcases q with rfl | rfl | rfl | rfl | rfl; (focus rw [eh70.2 233 k (fun q => absurd q.1 (by decide)), eh67.2 233 k (fun q => absurd q.1 (by decide)), eh66.2 233 k (fun q => absurd q.1 (by decide)), eh65.2 233 k (fun q => absurd q.1 (by decide)), eh64.2 233 k (fun q => absurd q.1 (by decide)), eh63.2 233 k (fun q => absurd q.1 (by decide)), eh62.2 233 k (fun q => absurd q.1 (by decide))]); (focus rw [eh70.2 234 k (fun q => absurd q.1 (by decide)), eh67.2 234 k (fun q => absurd q.1 (by decide)), eh66.2 234 k (fun q => absurd q.1 (by decide)), eh65.2 234 k (fun q => absurd q.1 (by decide)), eh64.2 234 k (fun q => absurd q.1 (by decide)), eh63.2 234 k (fun q => absurd q.1 (by decide)), eh62.2 234 k (fun q => absurd q.1 (by decide))]); (focus rw [eh70.2 240 k (fun q => absurd q.1 (by decide)), eh67.2 240 k (fun q => absurd q.1 (by decide)), eh66.2 240 k (fun q => absurd q.1 (by decide)), eh65.2 240 k (fun q => absurd q.1 (by decide)), eh64.2 240 k (fun q => absurd q.1 (by decide)), eh63.2 240 k (fun q => absurd q.1 (by decide)), eh62.2 240 k (fun q => absurd q.1 (by decide))]); (focus rw [eh70.2 241 k (fun q => absurd q.1 (by decide)), eh67.2 241 k (fun q => absurd q.1 (by decide)), eh66.2 241 k (fun q => absurd q.1 (by decide)), eh65.2 241 k (fun q => absurd q.1 (by decide)), eh64.2 241 k (fun q => absurd q.1 (by decide)), eh63.2 241 k (fun q => absurd q.1 (by decide)), eh62.2 241 k (fun q => absurd q.1 (by decide))]); (focus rw [eh70.2 243 k (fun q => absurd q.1 (by decide)), eh67.2 243 k (fun q => absurd q.1 (by decide)), eh66.2 243 k (fun q => absurd q.1 (by decide)), eh65.2 243 k (fun q => absurd q.1 (by decide)), eh64.2 243 k (fun q => absurd q.1 (by decide)), eh63.2 243 k (fun q => absurd q.1 (by decide)), eh62.2 243 k (fun q => absurd q.1 (by decide))])) (fun a k q1 q2 q3 => by have q : a = 235 ∨ a = 236 ∨ a = 237 := (by omega); rcases q with rfl | rfl | rfl; (focus (rw [eh70.2 235 k (fun q => absurd q.1 (by decide)), eh67.2 235 k (fun q => absurd q.1 (by decide)), eh66.2 235 k (fun q => absurd q.1 (by decide)), eh65.2 235 k (fun q => absurd q.1 (by decide)), eh64.2 235 k (fun q => absurd q.1 (by decide)), eh63.at 235 k, eh62.2 235 k (fun q => absurd q.1 (by decide))]; all_goals (try simp only [Nat.reduceEqDiff, false_and, if_false, true_and]); all_goals (first | rfl | rw [if_neg (by omega)]))); (focus (rw [eh70.2 236 k (fun q => absurd q.1 (by decide)), eh67.2 236 k (fun q => absurd q.1 (by decide)), eh66.2 236 k (fun q => absurd q.1 (by decide)), eh65.2 236 k (fun q => absurd q.1 (by decide)), eh64.at 236 k, eh63.2 236 k (fun q => absurd q.1 (by decide)), eh62.2 236 k (fun q => absurd q.1 (by decide))]; all_goals (try simp only [Nat.reduceEqDiff, false_and, if_false, true_and]); all_goals (first | rfl | rw [if_neg (by omega)]))); (focus (rw [eh70.2 237 k (fun q => absurd q.1 (by decide)), eh67.2 237 k (fun q => absurd q.1 (by decide)), eh66.2 237 k (fun q => absurd q.1 (by decide)), eh65.at 237 k, eh64.2 237 k (fun q => absurd q.1 (by decide)), eh63.2 237 k (fun q => absurd q.1 (by decide)), eh62.2 237 k (fun q => absurd q.1 (by decide))]; all_goals (try simp only [Nat.reduceEqDiff, false_and, if_false, true_and]); all_goals (first | rfl | rw [if_neg (by omega)])))) (by rw [eh70.2 228 _ (fun q => absurd q.1 (by decide)), eh67.2 228 _ (fun q => absurd q.1 (by decide)), eh66.2 228 _ (fun q => absurd q.1 (by decide)), eh65.2 228 _ (fun q => absurd q.1 (by decide)), eh64.2 228 _ (fun q => absurd q.1 (by decide)), eh63.2 228 _ (fun q => absurd q.1 (by decide)), eh62.2 228 _ (fun q => absurd q.1 (by decide))]))⟩⟩
    ·
      refine sx_aload_n dX12_readWord_134 rfl ?_
      refine sx_callVv lk_X12_337 cl_12 s_224 (by decide) dX12_readWord_135 (vs := []) rfl rfl (Nat.le_of_ble_eq_true rfl) (Nat.le_of_ble_eq_true rfl) rfl (c_X12_misplaced _ Ihz.1) (fun h71 ph71 => ?_)
      obtain ⟨Kh71, g_h71⟩ := ph71
      have Ih71 := Ihz.tr Kh71 (prBW_sub rfl rfl rfl)
      have th71_224_3 := Kh71.2 224 3 rfl
      have th71_224_7 := Kh71.2 224 7 rfl
      have th71_224_8 := Kh71.2 224 8 rfl
      have th71_224_37 := Kh71.2 224 37 rfl
      have th71_224_52 := Kh71.2 224 52 rfl
      have th71_224_53 := Kh71.2 224 53 rfl
      have th71_224_54 := Kh71.2 224 54 rfl
      have th71_224_55 := Kh71.2 224 55 rfl
      have th71_224_56 := Kh71.2 224 56 rfl
      have th71_224_57 := Kh71.2 224 57 rfl
      refine sx_aload_n dX12_readWord_138 rfl ?_
      refine sx_callVz lk_X12_330 cl_12 s_224 (by decide) dX12_readWord_139 (vs := []) rfl rfl (Nat.le_of_ble_eq_true rfl) (Nat.le_of_ble_eq_true rfl) rfl (c_X12_isGood _ Ih71.1) (fun x74 h73 zx74 ph73 => ?_)
      obtain ⟨rfl, p_x74⟩ := ph73
      refine sx_if_eq (tgt := 174) dX12_readWord_142 (by decide) (fun c75 => ?_) (fun c75 => ?_)
      ·
        replace p_x74 := mt p_x74.mpr (show ¬ (x74 = 1) by rw [c75]; decide)
        clear zx74
        refine sx_aload_n dX12_readWord_174 rfl ?_
        refine sx_aload_n dX12_readWord_175 rfl ?_
        refine sx_bipush dX12_readWord_176 ⟨by decide, by decide, by decide⟩ ?_
        refine sx_callVz lk_X12_379 cl_12 s_224 (by decide) dX12_readWord_178 (vs := [_]) rfl rfl (Nat.le_of_ble_eq_true rfl) (Nat.le_of_ble_eq_true rfl) rfl (c2_X12_isSignHere _ Ih71.1 _) (fun x77 h76 zx77 ph76 => ?_)
        obtain ⟨rfl, p_x77⟩ := ph76
        refine sx_callVv lk_X12_382 cl_12 s_224 (by decide) dX12_readWord_181 (vs := [_]) rfl rfl (Nat.le_of_ble_eq_true rfl) (Nat.le_of_ble_eq_true rfl) rfl (c_X12_must _ Ih71.1 _ (by omega)) (fun h78 ph78 => ?_)
        obtain ⟨Kh78, a_h78, m_h78, g_h78⟩ := ph78
        have Ih78 := Ih71.tr Kh78 (prBW_sub rfl rfl rfl)
        have th78_224_3 := Kh78.2 224 3 rfl
        have th78_224_37 := Kh78.2 224 37 rfl
        have th78_224_52 := Kh78.2 224 52 rfl
        have th78_224_53 := Kh78.2 224 53 rfl
        have th78_224_54 := Kh78.2 224 54 rfl
        have th78_224_55 := Kh78.2 224 55 rfl
        have th78_224_56 := Kh78.2 224 56 rfl
        have th78_224_57 := Kh78.2 224 57 rfl
        refine sx_aload_n dX12_readWord_184 rfl ?_
        refine sx_getS (k := 30) (t := 246) cl_12 fl_X12_78 dX12_readWord_185 s_224 (by decide) rfl (by decide) ?_
        refine sx_iload_n dX12_readWord_188 rfl ?_
        refine sx_lload_n dX12_readWord_189 rfl ?_
        refine sy_lastore dX12_readWord_190 s_246 (by decide) (by decide) ⟨by omega, by omega⟩ (fun h80 eh80 => ?_)
        have Ih80 := Ih78.up eh80 trivial (decide_eq_false (np_6 (by omega) hyb))
        have th80_224_3 := eh80.2 (224) 3 (fun q => absurd q.1 (by decide))
        have th80_224_4 := eh80.2 (224) 4 (fun q => absurd q.1 (by decide))
        have th80_224_7 := eh80.2 (224) 7 (fun q => absurd q.1 (by decide))
        have th80_224_8 := eh80.2 (224) 8 (fun q => absurd q.1 (by decide))
        have th80_224_37 := eh80.2 (224) 37 (fun q => absurd q.1 (by decide))
        have th80_224_52 := eh80.2 (224) 52 (fun q => absurd q.1 (by decide))
        have th80_224_53 := eh80.2 (224) 53 (fun q => absurd q.1 (by decide))
        have th80_224_54 := eh80.2 (224) 54 (fun q => absurd q.1 (by decide))
        have th80_224_55 := eh80.2 (224) 55 (fun q => absurd q.1 (by decide))
        have th80_224_56 := eh80.2 (224) 56 (fun q => absurd q.1 (by decide))
        have th80_224_57 := eh80.2 (224) 57 (fun q => absurd q.1 (by decide))
        refine sx_aload_n dX12_readWord_191 rfl ?_
        refine sx_getS (k := 19) (t := 235) cl_12 fl_X12_45 dX12_readWord_192 s_224 (by decide) rfl (by decide) ?_
        refine sx_iload_n dX12_readWord_195 rfl ?_
        refine sx_aload_n dX12_readWord_196 rfl ?_
        refine sx_getI (k := 56) cl_12 fl_X12_403 dX12_readWord_197 s_224 (by decide) rfl (by decide) ?_
        refine sy_iastore dX12_readWord_200 s_235 (by decide) (by decide) ⟨by omega, by omega⟩ (fun h81 eh81 => ?_)
        have Ih81 := Ih80.up eh81 trivial (decide_eq_false (np_6 (by omega) hyb))
        have th81_224_3 := eh81.2 (224) 3 (fun q => absurd q.1 (by decide))
        have th81_224_4 := eh81.2 (224) 4 (fun q => absurd q.1 (by decide))
        have th81_224_7 := eh81.2 (224) 7 (fun q => absurd q.1 (by decide))
        have th81_224_8 := eh81.2 (224) 8 (fun q => absurd q.1 (by decide))
        have th81_224_37 := eh81.2 (224) 37 (fun q => absurd q.1 (by decide))
        have th81_224_52 := eh81.2 (224) 52 (fun q => absurd q.1 (by decide))
        have th81_224_53 := eh81.2 (224) 53 (fun q => absurd q.1 (by decide))
        have th81_224_54 := eh81.2 (224) 54 (fun q => absurd q.1 (by decide))
        have th81_224_55 := eh81.2 (224) 55 (fun q => absurd q.1 (by decide))
        have th81_224_56 := eh81.2 (224) 56 (fun q => absurd q.1 (by decide))
        have th81_224_57 := eh81.2 (224) 57 (fun q => absurd q.1 (by decide))
        refine sx_aload_n dX12_readWord_201 rfl ?_
        refine sx_getS (k := 20) (t := 236) cl_12 fl_X12_48 dX12_readWord_202 s_224 (by decide) rfl (by decide) ?_
        refine sx_iload_n dX12_readWord_205 rfl ?_
        refine sx_aload_n dX12_readWord_206 rfl ?_
        refine sx_getI (k := 53) cl_12 fl_X12_406 dX12_readWord_207 s_224 (by decide) rfl (by decide) ?_
        refine sy_iastore dX12_readWord_210 s_236 (by decide) (by decide) ⟨by omega, by omega⟩ (fun h82 eh82 => ?_)
        have Ih82 := Ih81.up eh82 trivial (decide_eq_false (np_6 (by omega) hyb))
        have th82_224_3 := eh82.2 (224) 3 (fun q => absurd q.1 (by decide))
        have th82_224_4 := eh82.2 (224) 4 (fun q => absurd q.1 (by decide))
        have th82_224_7 := eh82.2 (224) 7 (fun q => absurd q.1 (by decide))
        have th82_224_8 := eh82.2 (224) 8 (fun q => absurd q.1 (by decide))
        have th82_224_37 := eh82.2 (224) 37 (fun q => absurd q.1 (by decide))
        have th82_224_52 := eh82.2 (224) 52 (fun q => absurd q.1 (by decide))
        have th82_224_53 := eh82.2 (224) 53 (fun q => absurd q.1 (by decide))
        have th82_224_54 := eh82.2 (224) 54 (fun q => absurd q.1 (by decide))
        have th82_224_55 := eh82.2 (224) 55 (fun q => absurd q.1 (by decide))
        have th82_224_56 := eh82.2 (224) 56 (fun q => absurd q.1 (by decide))
        have th82_224_57 := eh82.2 (224) 57 (fun q => absurd q.1 (by decide))
        refine sx_aload_n dX12_readWord_211 rfl ?_
        refine sx_getS (k := 21) (t := 237) cl_12 fl_X12_51 dX12_readWord_212 s_224 (by decide) rfl (by decide) ?_
        refine sx_iload_n dX12_readWord_215 rfl ?_
        refine sx_aload_n dX12_readWord_216 rfl ?_
        refine sx_getI (k := 57) cl_12 fl_X12_409 dX12_readWord_217 s_224 (by decide) rfl (by decide) ?_
        refine sy_iastore dX12_readWord_220 s_237 (by decide) (by decide) ⟨by omega, by omega⟩ (fun h83 eh83 => ?_)
        have Ih83 := Ih82.up eh83 trivial (decide_eq_false (np_6 (by omega) hyb))
        have th83_224_3 := eh83.2 (224) 3 (fun q => absurd q.1 (by decide))
        have th83_224_4 := eh83.2 (224) 4 (fun q => absurd q.1 (by decide))
        have th83_224_7 := eh83.2 (224) 7 (fun q => absurd q.1 (by decide))
        have th83_224_8 := eh83.2 (224) 8 (fun q => absurd q.1 (by decide))
        have th83_224_37 := eh83.2 (224) 37 (fun q => absurd q.1 (by decide))
        have th83_224_52 := eh83.2 (224) 52 (fun q => absurd q.1 (by decide))
        have th83_224_53 := eh83.2 (224) 53 (fun q => absurd q.1 (by decide))
        have th83_224_54 := eh83.2 (224) 54 (fun q => absurd q.1 (by decide))
        have th83_224_55 := eh83.2 (224) 55 (fun q => absurd q.1 (by decide))
        have th83_224_56 := eh83.2 (224) 56 (fun q => absurd q.1 (by decide))
        have th83_224_57 := eh83.2 (224) 57 (fun q => absurd q.1 (by decide))
        refine sx_aload_n dX12_readWord_221 rfl ?_
        refine sx_getS (k := 22) (t := 238) cl_12 fl_X12_54 dX12_readWord_222 s_224 (by decide) rfl (by decide) ?_
        refine sx_iload_n dX12_readWord_225 rfl ?_
        refine sx_aload_n dX12_readWord_226 rfl ?_
        refine sx_getI (k := 58) cl_12 fl_X12_412 dX12_readWord_227 s_224 (by decide) rfl (by decide) ?_
        refine sy_iastore dX12_readWord_230 s_238 (by decide) (by decide) ⟨by omega, by omega⟩ (fun h84 eh84 => ?_)
        have Ih84 := Ih83.up eh84 trivial (decide_eq_false (np_6 (by omega) hyb))
        have th84_224_3 := eh84.2 (224) 3 (fun q => absurd q.1 (by decide))
        have th84_224_4 := eh84.2 (224) 4 (fun q => absurd q.1 (by decide))
        have th84_224_7 := eh84.2 (224) 7 (fun q => absurd q.1 (by decide))
        have th84_224_8 := eh84.2 (224) 8 (fun q => absurd q.1 (by decide))
        have th84_224_37 := eh84.2 (224) 37 (fun q => absurd q.1 (by decide))
        have th84_224_52 := eh84.2 (224) 52 (fun q => absurd q.1 (by decide))
        have th84_224_53 := eh84.2 (224) 53 (fun q => absurd q.1 (by decide))
        have th84_224_54 := eh84.2 (224) 54 (fun q => absurd q.1 (by decide))
        have th84_224_55 := eh84.2 (224) 55 (fun q => absurd q.1 (by decide))
        have th84_224_56 := eh84.2 (224) 56 (fun q => absurd q.1 (by decide))
        have th84_224_57 := eh84.2 (224) 57 (fun q => absurd q.1 (by decide))
        refine sx_aload_n dX12_readWord_231 rfl ?_
        refine sx_getS (k := 23) (t := 239) cl_12 fl_X12_57 dX12_readWord_232 s_224 (by decide) rfl (by decide) ?_
        refine sx_iload_n dX12_readWord_235 rfl ?_
        refine sx_aload_n dX12_readWord_236 rfl ?_
        refine sx_getS (k := 49) (t := 259) cl_12 fl_X12_118 dX12_readWord_237 s_224 (by decide) rfl (by decide) ?_
        refine sx_iconst dX12_readWord_240 ⟨by decide, by decide⟩ ?_
        refine sx_iaload dX12_readWord_241 s_259 (by decide) (by decide) ⟨by omega, by omega⟩ ?_
        refine sy_iastore dX12_readWord_242 s_239 (by decide) (by decide) ⟨by omega, by omega⟩ (fun h85 eh85 => ?_)
        have Ih85 := Ih84.up eh85 trivial (decide_eq_false (np_6 (by omega) hyb))
        have th85_224_3 := eh85.2 (224) 3 (fun q => absurd q.1 (by decide))
        have th85_224_4 := eh85.2 (224) 4 (fun q => absurd q.1 (by decide))
        have th85_224_7 := eh85.2 (224) 7 (fun q => absurd q.1 (by decide))
        have th85_224_8 := eh85.2 (224) 8 (fun q => absurd q.1 (by decide))
        have th85_224_37 := eh85.2 (224) 37 (fun q => absurd q.1 (by decide))
        have th85_224_52 := eh85.2 (224) 52 (fun q => absurd q.1 (by decide))
        have th85_224_53 := eh85.2 (224) 53 (fun q => absurd q.1 (by decide))
        have th85_224_54 := eh85.2 (224) 54 (fun q => absurd q.1 (by decide))
        have th85_224_55 := eh85.2 (224) 55 (fun q => absurd q.1 (by decide))
        have th85_224_56 := eh85.2 (224) 56 (fun q => absurd q.1 (by decide))
        have th85_224_57 := eh85.2 (224) 57 (fun q => absurd q.1 (by decide))
        refine sx_aload_n dX12_readWord_243 rfl ?_
        refine sx_getS (k := 11) (t := 227) cl_12 fl_X12_20 dX12_readWord_244 s_224 (by decide) rfl (by decide) ?_
        refine sx_aload_n dX12_readWord_247 rfl ?_
        refine sx_getI (k := 37) cl_12 fl_X12_340 dX12_readWord_248 s_224 (by decide) rfl (by decide) ?_
        have r86 : (0 : Int) ≤ h85 224 37 ∧ h85 224 37 ≤ 1 := Ih85.1 224 37
        refine sx_dup2 dX12_readWord_251 ?_
        have e27 : h85 227 (h85 224 37).toNat = w := by rw [show (h85 224 37).toNat = (1 - (b : Int)).toNat by omega]; all_goals rw [eh85.2 227 _ (fun q => absurd q.1 (by decide)), eh84.2 227 _ (fun q => absurd q.1 (by decide)), eh83.2 227 _ (fun q => absurd q.1 (by decide)), eh82.2 227 _ (fun q => absurd q.1 (by decide)), eh81.2 227 _ (fun q => absurd q.1 (by decide)), eh80.2 227 _ (fun q => absurd q.1 (by decide)), show h78 227 _ = _ from Kh78.2 227 _ rfl, show h71 227 _ = _ from Kh71.2 227 _ rfl]; all_goals exact h227
        refine sy_iaF (F := fun z => (0 : Int) ≤ z ∧ z ≤ 6) dX12_readWord_252 s_227 (by decide) (by decide) ⟨by omega, by omega⟩ (Ih85.1 227 _) (fun r87 => ?_)
        refine sx_iconst dX12_readWord_253 ⟨by decide, by decide⟩ ?_
        refine sx_iadd dX12_readWord_254 ?_
        refine sy_topw (by omega) ?_
        refine sy_iastore dX12_readWord_255 s_227 (by decide) (by decide) ⟨by omega, by omega⟩ (fun h88 eh88 => ?_)
        have Ih88 := Ih85.up eh88 (show (0 : Int) ≤ _ ∧ _ ≤ (6 : Int) from ⟨by omega, by omega⟩) (beq_eq_false_iff_ne.mpr (show _ ≠ _ by omega))
        have th88_224_3 := eh88.2 (224) 3 (fun q => absurd q.1 (by decide))
        have th88_224_4 := eh88.2 (224) 4 (fun q => absurd q.1 (by decide))
        have th88_224_7 := eh88.2 (224) 7 (fun q => absurd q.1 (by decide))
        have th88_224_8 := eh88.2 (224) 8 (fun q => absurd q.1 (by decide))
        have th88_224_37 := eh88.2 (224) 37 (fun q => absurd q.1 (by decide))
        have th88_224_52 := eh88.2 (224) 52 (fun q => absurd q.1 (by decide))
        have th88_224_53 := eh88.2 (224) 53 (fun q => absurd q.1 (by decide))
        have th88_224_54 := eh88.2 (224) 54 (fun q => absurd q.1 (by decide))
        have th88_224_55 := eh88.2 (224) 55 (fun q => absurd q.1 (by decide))
        have th88_224_56 := eh88.2 (224) 56 (fun q => absurd q.1 (by decide))
        have th88_224_57 := eh88.2 (224) 57 (fun q => absurd q.1 (by decide))
        refine sx_ret dX12_readWord_256 ?_
        have KM : mK (prW [4, 5, 6, 7, 8, 9, 10] []) hz h78 := (mK.tr (mK.tr (mK.refl Ihz.1) Kh71 (prW_sub rfl rfl)) Kh78 (prW_sub rfl rfl))
        exact ⟨rfl, ⟨Ih88, by omega, by omega, (by rw [eh88.at 227 (1 - (b : Int)).toNat, eh85.2 227 (1 - (b : Int)).toNat (fun q => absurd q.1 (by decide)), eh84.2 227 (1 - (b : Int)).toNat (fun q => absurd q.1 (by decide)), eh83.2 227 (1 - (b : Int)).toNat (fun q => absurd q.1 (by decide)), eh82.2 227 (1 - (b : Int)).toNat (fun q => absurd q.1 (by decide)), eh81.2 227 (1 - (b : Int)).toNat (fun q => absurd q.1 (by decide)), eh80.2 227 (1 - (b : Int)).toNat (fun q => absurd q.1 (by decide)), show h78 227 (1 - (b : Int)).toNat = _ from Kh78.2 227 (1 - (b : Int)).toNat rfl, show h71 227 (1 - (b : Int)).toNat = _ from Kh71.2 227 (1 - (b : Int)).toNat rfl]; all_goals (try simp only [Nat.reduceEqDiff, false_and, if_false, true_and]); all_goals (try rw [if_pos (by omega)]); all_goals (try rw [e27]); all_goals omega), fun q => by first | (exfalso; omega) | (have hR := hri (by omega); obtain ⟨i, hR1, hR2⟩ := hR; exact RI_done (h := h78) (by omega) (by omega) (RI_eq (tok_rd KM) hR1) (by rw [tok_rd KM 233 _ (Or.inr ⟨by omega, by omega⟩)]; exact RBx_eq (by omega) (fun a k q1 q2 => tok_rd KM a k (Or.inr ⟨q1, q2⟩)) hR2) (by omega) (by omega) (by rw [eh88.2 235 (6 * (1 - (b : Int)) + w).toNat (fun q => absurd q.1 (by decide)), eh85.2 235 (6 * (1 - (b : Int)) + w).toNat (fun q => absurd q.1 (by decide)), eh84.2 235 (6 * (1 - (b : Int)) + w).toNat (fun q => absurd q.1 (by decide)), eh83.2 235 (6 * (1 - (b : Int)) + w).toNat (fun q => absurd q.1 (by decide)), eh82.2 235 (6 * (1 - (b : Int)) + w).toNat (fun q => absurd q.1 (by decide)), eh81.at 235 (6 * (1 - (b : Int)) + w).toNat, eh80.2 235 (6 * (1 - (b : Int)) + w).toNat (fun q => absurd q.1 (by decide))]; all_goals (try simp only [Nat.reduceEqDiff, false_and, if_false, true_and]); all_goals (try rw [if_pos (by omega)]); all_goals (first | done | rfl | omega)) (by rw [eh88.2 236 (6 * (1 - (b : Int)) + w).toNat (fun q => absurd q.1 (by decide)), eh85.2 236 (6 * (1 - (b : Int)) + w).toNat (fun q => absurd q.1 (by decide)), eh84.2 236 (6 * (1 - (b : Int)) + w).toNat (fun q => absurd q.1 (by decide)), eh83.2 236 (6 * (1 - (b : Int)) + w).toNat (fun q => absurd q.1 (by decide)), eh82.at 236 (6 * (1 - (b : Int)) + w).toNat, eh81.2 236 (6 * (1 - (b : Int)) + w).toNat (fun q => absurd q.1 (by decide)), eh80.2 236 (6 * (1 - (b : Int)) + w).toNat (fun q => absurd q.1 (by decide))]; all_goals (try simp only [Nat.reduceEqDiff, false_and, if_false, true_and]); all_goals (try rw [if_pos (by omega)]); all_goals (first | done | rfl | omega)) (by rw [eh88.2 237 (6 * (1 - (b : Int)) + w).toNat (fun q => absurd q.1 (by decide)), eh85.2 237 (6 * (1 - (b : Int)) + w).toNat (fun q => absurd q.1 (by decide)), eh84.2 237 (6 * (1 - (b : Int)) + w).toNat (fun q => absurd q.1 (by decide)), eh83.at 237 (6 * (1 - (b : Int)) + w).toNat, eh82.2 237 (6 * (1 - (b : Int)) + w).toNat (fun q => absurd q.1 (by decide)), eh81.2 237 (6 * (1 - (b : Int)) + w).toNat (fun q => absurd q.1 (by decide)), eh80.2 237 (6 * (1 - (b : Int)) + w).toNat (fun q => absurd q.1 (by decide))]; all_goals (try simp only [Nat.reduceEqDiff, false_and, if_false, true_and]); all_goals (try rw [if_pos (by omega)]); all_goals (first | done | rfl | omega)) (fun a k q => by rcases q with rfl | rfl | rfl | rfl | rfl; (focus rw [eh88.2 233 k (fun q => absurd q.1 (by decide)), eh85.2 233 k (fun q => absurd q.1 (by decide)), eh84.2 233 k (fun q => absurd q.1 (by decide)), eh83.2 233 k (fun q => absurd q.1 (by decide)), eh82.2 233 k (fun q => absurd q.1 (by decide)), eh81.2 233 k (fun q => absurd q.1 (by decide)), eh80.2 233 k (fun q => absurd q.1 (by decide))]); (focus rw [eh88.2 234 k (fun q => absurd q.1 (by decide)), eh85.2 234 k (fun q => absurd q.1 (by decide)), eh84.2 234 k (fun q => absurd q.1 (by decide)), eh83.2 234 k (fun q => absurd q.1 (by decide)), eh82.2 234 k (fun q => absurd q.1 (by decide)), eh81.2 234 k (fun q => absurd q.1 (by decide)), eh80.2 234 k (fun q => absurd q.1 (by decide))]); (focus rw [eh88.2 240 k (fun q => absurd q.1 (by decide)), eh85.2 240 k (fun q => absurd q.1 (by decide)), eh84.2 240 k (fun q => absurd q.1 (by decide)), eh83.2 240 k (fun q => absurd q.1 (by decide)), eh82.2 240 k (fun q => absurd q.1 (by decide)), eh81.2 240 k (fun q => absurd q.1 (by decide)), eh80.2 240 k (fun q => absurd q.1 (by decide))]); (focus rw [eh88.2 241 k (fun q => absurd q.1 (by decide)), eh85.2 241 k (fun q => absurd q.1 (by decide)), eh84.2 241 k (fun q => absurd q.1 (by decide)), eh83.2 241 k (fun q => absurd q.1 (by decide)), eh82.2 241 k (fun q => absurd q.1 (by decide)), eh81.2 241 k (fun q => absurd q.1 (by decide)), eh80.2 241 k (fun q => absurd q.1 (by decide))]); (focus rw [eh88.2 243 k (fun q => absurd q.1 (by decide)), eh85.2 243 k (fun q => absurd q.1 (by decide)), eh84.2 243 k (fun q => absurd q.1 (by decide)), eh83.2 243 k (fun q => absurd q.1 (by decide)), eh82.2 243 k (fun q => absurd q.1 (by decide)), eh81.2 243 k (fun q => absurd q.1 (by decide)), eh80.2 243 k (fun q => absurd q.1 (by decide))])) (fun a k q1 q2 q3 => by have q : a = 235 ∨ a = 236 ∨ a = 237 := (by omega); rcases q with rfl | rfl | rfl; (focus (rw [eh88.2 235 k (fun q => absurd q.1 (by decide)), eh85.2 235 k (fun q => absurd q.1 (by decide)), eh84.2 235 k (fun q => absurd q.1 (by decide)), eh83.2 235 k (fun q => absurd q.1 (by decide)), eh82.2 235 k (fun q => absurd q.1 (by decide)), eh81.at 235 k, eh80.2 235 k (fun q => absurd q.1 (by decide))]; all_goals (try simp only [Nat.reduceEqDiff, false_and, if_false, true_and]); all_goals (first | rfl | rw [if_neg (by omega)]))); (focus (rw [eh88.2 236 k (fun q => absurd q.1 (by decide)), eh85.2 236 k (fun q => absurd q.1 (by decide)), eh84.2 236 k (fun q => absurd q.1 (by decide)), eh83.2 236 k (fun q => absurd q.1 (by decide)), eh82.at 236 k, eh81.2 236 k (fun q => absurd q.1 (by decide)), eh80.2 236 k (fun q => absurd q.1 (by decide))]; all_goals (try simp only [Nat.reduceEqDiff, false_and, if_false, true_and]); all_goals (first | rfl | rw [if_neg (by omega)]))); (focus (rw [eh88.2 237 k (fun q => absurd q.1 (by decide)), eh85.2 237 k (fun q => absurd q.1 (by decide)), eh84.2 237 k (fun q => absurd q.1 (by decide)), eh83.at 237 k, eh82.2 237 k (fun q => absurd q.1 (by decide)), eh81.2 237 k (fun q => absurd q.1 (by decide)), eh80.2 237 k (fun q => absurd q.1 (by decide))]; all_goals (try simp only [Nat.reduceEqDiff, false_and, if_false, true_and]); all_goals (first | rfl | rw [if_neg (by omega)])))) (by rw [eh88.2 228 _ (fun q => absurd q.1 (by decide)), eh85.2 228 _ (fun q => absurd q.1 (by decide)), eh84.2 228 _ (fun q => absurd q.1 (by decide)), eh83.2 228 _ (fun q => absurd q.1 (by decide)), eh82.2 228 _ (fun q => absurd q.1 (by decide)), eh81.2 228 _ (fun q => absurd q.1 (by decide)), eh80.2 228 _ (fun q => absurd q.1 (by decide))]))⟩⟩
      ·
        exfalso; omega
set_option maxRecDepth 20000 in
set_option maxHeartbeats 4000000 in
theorem c_X12_readWord {G : sw_G} (d : Nat) {h0 : sw_H} (hJ : mI h0) (b : Nat) (w : Int) (hr : h0 224 37 = 1 - (b : Int) ∧ b ≤ 1) (ht : h0 224 7 ≤ h0 224 3 ∧ (h0 224 8 = 0 → h0 224 7 = h0 224 3)) (hw : 0 ≤ w ∧ w < 6 ∧ h0 227 (1 - (b : Int)).toNat = w) (hB : RBx h0 (1 - (b : Int)) w (h0 228 (1 - (b : Int)).toNat))  : sw_E G NH SH (d + 5) mX12_readWord 0 [some (sw_r 224), none, none, none] [] h0 (sw_Qv (fun h' => mK (prB b [4, 5, 6, 7, 8, 9, 10, 52, 53, 54, 55, 56, 57, 58] [227, 228, 233, 234, 235, 236, 237, 238, 239, 240, 241, 242, 243, 246, 252, 253, 254, 255, 256, 257, 258, 259, 260]) h0 h' ∧ (h' 224 7 ≤ h' 224 3 ∧ (h' 224 8 = 0 → h' 224 7 = h' 224 3)) ∧ (h0 224 7 ≤ h' 224 7 ∧ (h0 224 8 = 0 → h' 224 8 = 0)) ∧ (h' 227 (1 - (b : Int)).toNat = w + 1) ∧ (imp (h' 224 4 = 0) (RBx h' (1 - (b : Int)) (w + 1) (h' 228 (1 - (b : Int)).toNat))))) := by
  have hI : mK (prB b [4, 5, 6, 7, 8, 9, 10, 52, 53, 54, 55, 56, 57, 58] [227, 228, 233, 234, 235, 236, 237, 238, 239, 240, 241, 242, 243, 246, 252, 253, 254, 255, 256, 257, 258, 259, 260]) h0 h0 := mK.refl hJ
  have e37 : (h0 224 37).toNat = (1 - (b : Int)).toNat := by omega
  have e27 : h0 227 (h0 224 37).toNat = h0 227 (1 - (b : Int)).toNat := by rw [e37]
  refine sx_bipush dX12_readWord_0 ⟨by decide, by decide, by decide⟩ ?_
  refine sx_aload_n dX12_readWord_2 rfl ?_
  refine sx_getI (k := 37) cl_12 fl_X12_340 dX12_readWord_3 s_224 (by decide) rfl (by decide) ?_
  have r1 : (0 : Int) ≤ h0 224 37 ∧ h0 224 37 ≤ 1 := hI.1 224 37
  refine sx_imul dX12_readWord_6 ?_
  refine sy_topw (by omega) ?_
  refine sx_aload_n dX12_readWord_7 rfl ?_
  refine sx_getS (k := 11) (t := 227) cl_12 fl_X12_20 dX12_readWord_8 s_224 (by decide) rfl (by decide) ?_
  refine sx_aload_n dX12_readWord_11 rfl ?_
  refine sx_getI (k := 37) cl_12 fl_X12_340 dX12_readWord_12 s_224 (by decide) rfl (by decide) ?_
  have r2 : (0 : Int) ≤ h0 224 37 ∧ h0 224 37 ≤ 1 := hI.1 224 37
  refine sy_iaF (F := fun z => (0 : Int) ≤ z ∧ z ≤ 6) dX12_readWord_15 s_227 (by decide) (by decide) ⟨by omega, by omega⟩ (hI.1 227 _) (fun r3 => ?_)
  refine sx_iadd dX12_readWord_16 ?_
  refine sy_topw (by omega) ?_
  refine sy_top (fun v4 ev4 => ?_)
  refine sx_istore_n dX12_readWord_17 (by decide) ?_
  have hyb : 6 * (1 - (b : Int)) ≤ v4 ∧ v4 < 6 * (1 - (b : Int)) + 6 := by omega
  have em : (v4).toNat = (6 * (1 - (b : Int)) + w).toNat := by omega
  have bb : 0 ≤ (b : Int) ∧ (b : Int) ≤ 1 := by omega
  refine sx_aload_n dX12_readWord_18 rfl ?_
  have J66_n5 : ∀ (h : sw_H) , (mK (prB b [4, 5, 6, 7, 8, 9, 10, 52, 53, 54, 55, 56, 57, 58] [227, 228, 233, 234, 235, 236, 237, 238, 239, 240, 241, 242, 243, 246, 252, 253, 254, 255, 256, 257, 258, 259, 260]) h0 h) → (mK (prW [4, 5, 6, 7, 8, 9, 10] []) h0 h) → (h 224 7 ≤ h 224 3 ∧ (h 224 8 = 0 → h 224 7 = h 224 3)) → (h0 224 7 ≤ h 224 7 ∧ (h0 224 8 = 0 → h 224 8 = 0)) → sw_E G NH SH (d + 5) mX12_readWord 66 [some (sw_r 224), some (sw_i v4), some (sw_l (h0 224 10)), none] [] h (sw_Qv (fun h' => mK (prB b [4, 5, 6, 7, 8, 9, 10, 52, 53, 54, 55, 56, 57, 58] [227, 228, 233, 234, 235, 236, 237, 238, 239, 240, 241, 242, 243, 246, 252, 253, 254, 255, 256, 257, 258, 259, 260]) h0 h' ∧ (h' 224 7 ≤ h' 224 3 ∧ (h' 224 8 = 0 → h' 224 7 = h' 224 3)) ∧ (h0 224 7 ≤ h' 224 7 ∧ (h0 224 8 = 0 → h' 224 8 = 0)) ∧ (h' 227 (1 - (b : Int)).toNat = w + 1) ∧ (imp (h' 224 4 = 0) (RBx h' (1 - (b : Int)) (w + 1) (h' 228 (1 - (b : Int)).toNat))))) := by
    intro h6 Ih6 Kh6 ja1 ja2
    have th6_224_3 := Kh6.2 224 3 rfl
    have th6_224_37 := Kh6.2 224 37 rfl
    have th6_224_52 := Kh6.2 224 52 rfl
    have th6_224_53 := Kh6.2 224 53 rfl
    have th6_224_54 := Kh6.2 224 54 rfl
    have th6_224_55 := Kh6.2 224 55 rfl
    have th6_224_56 := Kh6.2 224 56 rfl
    have th6_224_57 := Kh6.2 224 57 rfl
    have e28 : h6 228 (h6 224 37).toNat = h0 228 (1 - (b : Int)).toNat := by rw [show (h6 224 37).toNat = (1 - (b : Int)).toNat by omega]; exact Kh6.2 228 _ rfl
    refine sx_aload_n dX12_readWord_66 rfl ?_
    refine sx_getS (k := 17) (t := 233) cl_12 fl_X12_39 dX12_readWord_67 s_224 (by decide) rfl (by decide) ?_
    refine sx_iload_n dX12_readWord_70 rfl ?_
    refine sx_aload_n dX12_readWord_71 rfl ?_
    refine sx_getS (k := 12) (t := 228) cl_12 fl_X12_24 dX12_readWord_72 s_224 (by decide) rfl (by decide) ?_
    refine sx_aload_n dX12_readWord_75 rfl ?_
    refine sx_getI (k := 37) cl_12 fl_X12_340 dX12_readWord_76 s_224 (by decide) rfl (by decide) ?_
    have r7 : (0 : Int) ≤ h6 224 37 ∧ h6 224 37 ≤ 1 := Ih6.1 224 37
    refine sy_iaF (F := fun z => (0 : Int) ≤ z ∧ z ≤ 60) dX12_readWord_79 s_228 (by decide) (by decide) ⟨by omega, by omega⟩ (Ih6.1 228 _) (fun r8 => ?_)
    refine sy_iastore dX12_readWord_80 s_233 (by decide) (by decide) ⟨by omega, by omega⟩ (fun h9 eh9 => ?_)
    have Ih9 := Ih6.up eh9 (show (0 : Int) ≤ _ ∧ _ ≤ (60 : Int) from ⟨by omega, by omega⟩) (decide_eq_false (np_6 (by omega) hyb))
    have th9_224_3 := eh9.2 (224) 3 (fun q => absurd q.1 (by decide))
    have th9_224_4 := eh9.2 (224) 4 (fun q => absurd q.1 (by decide))
    have th9_224_7 := eh9.2 (224) 7 (fun q => absurd q.1 (by decide))
    have th9_224_8 := eh9.2 (224) 8 (fun q => absurd q.1 (by decide))
    have th9_224_37 := eh9.2 (224) 37 (fun q => absurd q.1 (by decide))
    have th9_224_52 := eh9.2 (224) 52 (fun q => absurd q.1 (by decide))
    have th9_224_53 := eh9.2 (224) 53 (fun q => absurd q.1 (by decide))
    have th9_224_54 := eh9.2 (224) 54 (fun q => absurd q.1 (by decide))
    have th9_224_55 := eh9.2 (224) 55 (fun q => absurd q.1 (by decide))
    have th9_224_56 := eh9.2 (224) 56 (fun q => absurd q.1 (by decide))
    have th9_224_57 := eh9.2 (224) 57 (fun q => absurd q.1 (by decide))
    have th9_224_10 := eh9.2 (224) 10 (fun q => absurd q.1 (by decide))
    refine sx_aload_n dX12_readWord_81 rfl ?_
    refine sx_getS (k := 18) (t := 234) cl_12 fl_X12_42 dX12_readWord_82 s_224 (by decide) rfl (by decide) ?_
    refine sx_iload_n dX12_readWord_85 rfl ?_
    refine sx_iconst dX12_readWord_86 ⟨by decide, by decide⟩ ?_
    refine sy_iastore dX12_readWord_87 s_234 (by decide) (by decide) ⟨by omega, by omega⟩ (fun h10 eh10 => ?_)
    have Ih10 := Ih9.up eh10 (show (0 : Int) ≤ _ ∧ _ ≤ (20 : Int) from ⟨by omega, by omega⟩) (decide_eq_false (np_6 (by omega) hyb))
    have th10_224_3 := eh10.2 (224) 3 (fun q => absurd q.1 (by decide))
    have th10_224_4 := eh10.2 (224) 4 (fun q => absurd q.1 (by decide))
    have th10_224_7 := eh10.2 (224) 7 (fun q => absurd q.1 (by decide))
    have th10_224_8 := eh10.2 (224) 8 (fun q => absurd q.1 (by decide))
    have th10_224_37 := eh10.2 (224) 37 (fun q => absurd q.1 (by decide))
    have th10_224_52 := eh10.2 (224) 52 (fun q => absurd q.1 (by decide))
    have th10_224_53 := eh10.2 (224) 53 (fun q => absurd q.1 (by decide))
    have th10_224_54 := eh10.2 (224) 54 (fun q => absurd q.1 (by decide))
    have th10_224_55 := eh10.2 (224) 55 (fun q => absurd q.1 (by decide))
    have th10_224_56 := eh10.2 (224) 56 (fun q => absurd q.1 (by decide))
    have th10_224_57 := eh10.2 (224) 57 (fun q => absurd q.1 (by decide))
    have th10_224_10 := eh10.2 (224) 10 (fun q => absurd q.1 (by decide))
    refine sx_aload_n dX12_readWord_88 rfl ?_
    refine sx_aload_n dX12_readWord_89 rfl ?_
    refine sx_getI (k := 37) cl_12 fl_X12_340 dX12_readWord_90 s_224 (by decide) rfl (by decide) ?_
    have r11 : (0 : Int) ≤ h10 224 37 ∧ h10 224 37 ≤ 1 := Ih10.1 224 37
    refine sx_callVv lk_X12_390 cl_12 s_224 (by decide) dX12_readWord_93 (vs := [_]) rfl rfl (Nat.le_of_ble_eq_true rfl) (Nat.le_of_ble_eq_true rfl) rfl (c_X12_beginLook _ Ih10.1 _ (by omega)) (fun h12 ph12 => ?_)
    obtain ⟨Kh12, b_h12⟩ := ph12
    have Ih12 := Ih10.tr Kh12 (prBW_sub rfl rfl rfl)
    have th12_224_3 := Kh12.2 224 3 rfl
    have th12_224_4 := Kh12.2 224 4 rfl
    have th12_224_7 := Kh12.2 224 7 rfl
    have th12_224_8 := Kh12.2 224 8 rfl
    have th12_224_37 := Kh12.2 224 37 rfl
    have th12_224_10 := Kh12.2 224 10 rfl
    have k33 : h12 233 (6 * (1 - (b : Int)) + w).toNat = h0 228 (1 - (b : Int)).toNat := (by rw [show h12 233 (6 * (1 - (b : Int)) + w).toNat = _ from Kh12.2 233 (6 * (1 - (b : Int)) + w).toNat rfl, eh10.2 233 (6 * (1 - (b : Int)) + w).toNat (fun q => absurd q.1 (by decide)), eh9.at 233 (6 * (1 - (b : Int)) + w).toNat, show h6 233 (6 * (1 - (b : Int)) + w).toNat = _ from Kh6.2 233 (6 * (1 - (b : Int)) + w).toNat rfl]; all_goals (try simp only [Nat.reduceEqDiff, false_and, if_false, true_and]); all_goals (try rw [if_pos (by omega)]); all_goals (first | done | rfl | (rw [e28])))
    have k34 : h12 234 (6 * (1 - (b : Int)) + w).toNat = 0 := (by rw [show h12 234 (6 * (1 - (b : Int)) + w).toNat = _ from Kh12.2 234 (6 * (1 - (b : Int)) + w).toNat rfl, eh10.at 234 (6 * (1 - (b : Int)) + w).toNat, eh9.2 234 (6 * (1 - (b : Int)) + w).toNat (fun q => absurd q.1 (by decide)), show h6 234 (6 * (1 - (b : Int)) + w).toNat = _ from Kh6.2 234 (6 * (1 - (b : Int)) + w).toNat rfl]; all_goals (try simp only [Nat.reduceEqDiff, false_and, if_false, true_and]); all_goals (try rw [if_pos (by omega)]); all_goals (first | done | rfl | omega))
    have k28 : h12 228 (1 - (b : Int)).toNat = h0 228 (1 - (b : Int)).toNat := (by rw [show h12 228 _ = _ from Kh12.2 228 _ rfl, eh10.2 228 _ (fun q => absurd q.1 (by decide)), eh9.2 228 _ (fun q => absurd q.1 (by decide)), show h6 228 _ = _ from Kh6.2 228 _ rfl])
    have r28 : (0 : Int) ≤ h0 228 (1 - (b : Int)).toNat ∧ h0 228 (1 - (b : Int)).toNat ≤ 60 := hJ 228 _
    have R0 : RI h12 (1 - (b : Int)) w 0 := RI_begin (by omega) k34 (by omega) (by omega) (by omega) (by omega) (by omega) (by omega) (by omega) (by omega)
    have B0 : RBx h12 (1 - (b : Int)) w (h12 233 (6 * (1 - (b : Int)) + w).toNat) := by rw [k33]; exact RBx_frame (by omega) ⟨fun a k q1 q2 q3 q4 => by have q : a = 233 ∨ a = 234 ∨ a = 235 ∨ a = 236 ∨ a = 237 := (by omega); rcases q with rfl | rfl | rfl | rfl | rfl; (focus (rw [show h12 233 k = _ from Kh12.2 233 k rfl, eh10.2 233 k (fun q => absurd q.1 (by decide)), eh9.at 233 k, show h6 233 k = _ from Kh6.2 233 k rfl]; all_goals (try simp only [Nat.reduceEqDiff, false_and, if_false, true_and]); all_goals (first | rfl | rw [if_neg (by omega)]))); (focus (rw [show h12 234 k = _ from Kh12.2 234 k rfl, eh10.at 234 k, eh9.2 234 k (fun q => absurd q.1 (by decide)), show h6 234 k = _ from Kh6.2 234 k rfl]; all_goals (try simp only [Nat.reduceEqDiff, false_and, if_false, true_and]); all_goals (first | rfl | rw [if_neg (by omega)]))); (focus (rw [show h12 235 k = _ from Kh12.2 235 k rfl, eh10.2 235 k (fun q => absurd q.1 (by decide)), eh9.2 235 k (fun q => absurd q.1 (by decide)), show h6 235 k = _ from Kh6.2 235 k rfl]; all_goals (try simp only [Nat.reduceEqDiff, false_and, if_false, true_and]); all_goals (first | rfl | rw [if_neg (by omega)]))); (focus (rw [show h12 236 k = _ from Kh12.2 236 k rfl, eh10.2 236 k (fun q => absurd q.1 (by decide)), eh9.2 236 k (fun q => absurd q.1 (by decide)), show h6 236 k = _ from Kh6.2 236 k rfl]; all_goals (try simp only [Nat.reduceEqDiff, false_and, if_false, true_and]); all_goals (first | rfl | rw [if_neg (by omega)]))); (focus (rw [show h12 237 k = _ from Kh12.2 237 k rfl, eh10.2 237 k (fun q => absurd q.1 (by decide)), eh9.2 237 k (fun q => absurd q.1 (by decide)), show h6 237 k = _ from Kh6.2 237 k rfl]; all_goals (try simp only [Nat.reduceEqDiff, false_and, if_false, true_and]); all_goals (first | rfl | rw [if_neg (by omega)]))), fun a k q q1 q2 => by rcases q with rfl | rfl | rfl; (focus rw [show h12 240 k = _ from Kh12.2 240 k rfl, eh10.2 240 k (fun q => absurd q.1 (by decide)), eh9.2 240 k (fun q => absurd q.1 (by decide)), show h6 240 k = _ from Kh6.2 240 k rfl]); (focus rw [show h12 241 k = _ from Kh12.2 241 k rfl, eh10.2 241 k (fun q => absurd q.1 (by decide)), eh9.2 241 k (fun q => absurd q.1 (by decide)), show h6 241 k = _ from Kh6.2 241 k rfl]); (focus rw [show h12 243 k = _ from Kh12.2 243 k rfl, eh10.2 243 k (fun q => absurd q.1 (by decide)), eh9.2 243 k (fun q => absurd q.1 (by decide)), show h6 243 k = _ from Kh6.2 243 k rfl])⟩ hB
    have k27 : h12 227 (1 - (b : Int)).toNat = w := ((by rw [show h12 227 _ = _ from Kh12.2 227 _ rfl, eh10.2 227 _ (fun q => absurd q.1 (by decide)), eh9.2 227 _ (fun q => absurd q.1 (by decide)), show h6 227 _ = _ from Kh6.2 227 _ rfl]) : h12 227 (1 - (b : Int)).toNat = h0 227 (1 - (b : Int)).toNat).trans (by omega)
    refine sx_loop0 (fun (h : sw_H) => (mK (prB b [4, 5, 6, 7, 8, 9, 10, 52, 53, 54, 55, 56, 57, 58] [227, 228, 233, 234, 235, 236, 237, 238, 239, 240, 241, 242, 243, 246, 252, 253, 254, 255, 256, 257, 258, 259, 260]) h0 h) ∧ (h 224 7 ≤ h 224 3 ∧ (h 224 8 = 0 → h 224 7 = h 224 3)) ∧ (h0 224 7 ≤ h 224 7) ∧ ((h0 224 8 = 0 → h 224 8 = 0)) ∧ (h 224 37 = 1 - (b : Int)) ∧ (h 227 (1 - (b : Int)).toNat = w) ∧ (imp (h 224 4 = 0) (∃ i : Nat, RI h (1 - (b : Int)) w i ∧ RBx h (1 - (b : Int)) w (h 233 (6 * (1 - (b : Int)) + w).toNat)))) (fun (h : sw_H) => (if h 224 4 = 0 then 21 - h 234 (6 * (1 - (b : Int)) + w).toNat else 0).toNat) (fun (h : sw_H) => sw_E G NH SH (d + 5) mX12_readWord 96 [some (sw_r 224), some (sw_i v4), some (sw_l (h0 224 10)), none] [] h (sw_Qv (fun h' => mK (prB b [4, 5, 6, 7, 8, 9, 10, 52, 53, 54, 55, 56, 57, 58] [227, 228, 233, 234, 235, 236, 237, 238, 239, 240, 241, 242, 243, 246, 252, 253, 254, 255, 256, 257, 258, 259, 260]) h0 h' ∧ (h' 224 7 ≤ h' 224 3 ∧ (h' 224 8 = 0 → h' 224 7 = h' 224 3)) ∧ (h0 224 7 ≤ h' 224 7 ∧ (h0 224 8 = 0 → h' 224 8 = 0)) ∧ (h' 227 (1 - (b : Int)).toNat = w + 1) ∧ (imp (h' 224 4 = 0) (RBx h' (1 - (b : Int)) (w + 1) (h' 228 (1 - (b : Int)).toNat)))))) ?_ _ ?_
    · rintro h14 ⟨Ih14, j1, j2, j3, j4, j5, jr⟩ ihh14
      try dsimp only at ihh14
      refine sx_aload_n dX12_readWord_96 rfl ?_
      refine sx_callVz lk_X12_330 cl_12 s_224 (by decide) dX12_readWord_97 (vs := []) rfl rfl (Nat.le_of_ble_eq_true rfl) (Nat.le_of_ble_eq_true rfl) rfl (c_X12_isGood _ Ih14.1) (fun x16 h15 zx16 ph15 => ?_)
      obtain ⟨rfl, p_x16⟩ := ph15
      refine sx_if_eq (tgt := 120) dX12_readWord_100 (by decide) (fun c17 => ?_) (fun c17 => ?_)
      ·
        replace p_x16 := mt p_x16.mpr (show ¬ (x16 = 1) by rw [c17]; decide)
        clear zx16
        exact rt2_readWord d hJ b Ih14 w _ _ (by omega) (by omega) (by omega) (by omega) (by omega) (by omega) jr
      ·
        have vx16 : x16 = 1 := by rcases zx16 with q | q; (exact absurd q c17); exact q
        replace p_x16 := p_x16.mp vx16
        clear zx16
        refine sx_aload_n dX12_readWord_103 rfl ?_
        refine sx_bipush dX12_readWord_104 ⟨by decide, by decide, by decide⟩ ?_
        refine sx_callVz lk_X12_379 cl_12 s_224 (by decide) dX12_readWord_106 (vs := [_]) rfl rfl (Nat.le_of_ble_eq_true rfl) (Nat.le_of_ble_eq_true rfl) rfl (c2_X12_isSignHere _ Ih14.1 _) (fun x19 h18 zx19 ph18 => ?_)
        obtain ⟨rfl, p_x19⟩ := ph18
        refine sx_if_ne (tgt := 120) dX12_readWord_109 (by decide) (fun c20 => ?_) (fun c20 => ?_)
        ·
          have vx19 : x19 = 1 := by rcases zx19 with q | q; (exact absurd q c20); exact q
          clear zx19
          exact rt2_readWord d hJ b Ih14 w _ _ (by omega) (by omega) (by omega) (by omega) (by omega) (by omega) jr
        ·
          clear zx19
          obtain ⟨i, hRI, hB1⟩ := jr (by omega)
          refine sx_aload_n dX12_readWord_112 rfl ?_
          refine sx_iload_n dX12_readWord_113 rfl ?_
          refine sx_callVv lk_X12_394 cl_12 s_224 (by decide) dX12_readWord_114 (vs := [_]) rfl rfl (Nat.le_of_ble_eq_true rfl) (Nat.le_of_ble_eq_true rfl) rfl (c_X12_readItem _ Ih14.1 b w i _ (by omega) (by omega) (by omega) (by omega) (by omega) hRI hB1) (fun h21 ph21 => ?_)
          obtain ⟨Kh21, a_h21, m_h21, r_h21⟩ := ph21
          have Ih21 := Ih14.tr Kh21 (prB_sub rfl rfl)
          have th21_224_3 := Kh21.2 224 3 rfl
          have th21_224_37 := Kh21.2 224 37 rfl
          have th21_224_52 := Kh21.2 224 52 rfl
          refine sx_goto (tgt := 96) dX12_readWord_117 (by decide) ?_
          exact ihh14 _ ⟨Ih21, by omega, by omega, by omega, by omega, (by rw [Kh21.2 227 _ rfl]; omega), fun q => ⟨i + 1, r_h21 q⟩⟩ (by have i1 := hRI.2.1; rw [if_pos (by omega)]; by_cases q : h21 224 4 = 0; (rw [if_pos q]; have i2 := (r_h21 q).1.2.1; have i3 := (r_h21 q).1.2.2.1; omega); (rw [if_neg q]; have i3 := hRI.2.2.1; omega))
    · exact ⟨Ih12, by omega, by omega, by omega, by omega, by exact k27, by exact fun _ => ⟨0, R0, B0⟩⟩
  refine sx_callVi lk_X12_386 cl_12 s_224 (by decide) dX12_readWord_19 (vs := []) rfl rfl (Nat.le_of_ble_eq_true rfl) (Nat.le_of_ble_eq_true rfl) rfl (c_X12_here _ hI.1) (fun x24 h23 ph23 => ?_)
  obtain ⟨rfl, p_x24, a_x24, b_x24⟩ := ph23
  refine sx_if_lt (tgt := 34) dX12_readWord_22 (by decide) (fun c25 => ?_) (fun c25 => ?_)
  ·
    refine sx_aload_n dX12_readWord_34 rfl ?_
    refine sx_getL (k := 10) cl_12 fl_X12_309 dX12_readWord_35 s_224 (by decide) rfl (by decide) ?_
    refine sx_lstore_n dX12_readWord_38 (by decide) ?_
    refine sx_aload_n dX12_readWord_39 rfl ?_
    refine sx_aload_n dX12_readWord_40 rfl ?_
    refine sx_getI (k := 8) cl_12 fl_X12_302 dX12_readWord_41 s_224 (by decide) rfl (by decide) ?_
    have r26 : (0 : Int) ≤ h0 224 8 ∧ h0 224 8 ≤ 5 := hI.1 224 8
    refine sx_iconst dX12_readWord_44 ⟨by decide, by decide⟩ ?_
    refine sx_icmp_ne (tgt := 52) dX12_readWord_45 (by decide) (fun c27 => ?_) (fun c27 => ?_)
    ·
      refine sx_iconst dX12_readWord_52 ⟨by decide, by decide⟩ ?_
      refine sx_callVv lk_X12_382 cl_12 s_224 (by decide) dX12_readWord_53 (vs := [_]) rfl rfl (Nat.le_of_ble_eq_true rfl) (Nat.le_of_ble_eq_true rfl) rfl (c_X12_must _ hI.1 _ (by omega)) (fun h28 ph28 => ?_)
      obtain ⟨Kh28, a_h28, m_h28, g_h28⟩ := ph28
      have Ih28 := hI.tr Kh28 (prBW_sub rfl rfl rfl)
      have th28_224_3 := Kh28.2 224 3 rfl
      have th28_224_37 := Kh28.2 224 37 rfl
      have th28_224_52 := Kh28.2 224 52 rfl
      have th28_224_53 := Kh28.2 224 53 rfl
      have th28_224_54 := Kh28.2 224 54 rfl
      have th28_224_55 := Kh28.2 224 55 rfl
      have th28_224_56 := Kh28.2 224 56 rfl
      have th28_224_57 := Kh28.2 224 57 rfl
      refine sx_aload_n dX12_readWord_56 rfl ?_
      refine sx_aload_n dX12_readWord_57 rfl ?_
      refine sx_bipush dX12_readWord_58 ⟨by decide, by decide, by decide⟩ ?_
      refine sx_callVz lk_X12_379 cl_12 s_224 (by decide) dX12_readWord_60 (vs := [_]) rfl rfl (Nat.le_of_ble_eq_true rfl) (Nat.le_of_ble_eq_true rfl) rfl (c2_X12_isSignHere _ Ih28.1 _) (fun x31 h30 zx31 ph30 => ?_)
      obtain ⟨rfl, p_x31⟩ := ph30
      refine sx_callVv lk_X12_382 cl_12 s_224 (by decide) dX12_readWord_63 (vs := [_]) rfl rfl (Nat.le_of_ble_eq_true rfl) (Nat.le_of_ble_eq_true rfl) rfl (c_X12_must _ Ih28.1 _ (by omega)) (fun h32 ph32 => ?_)
      obtain ⟨Kh32, a_h32, m_h32, g_h32⟩ := ph32
      have Ih32 := Ih28.tr Kh32 (prBW_sub rfl rfl rfl)
      have th32_224_3 := Kh32.2 224 3 rfl
      have th32_224_37 := Kh32.2 224 37 rfl
      have th32_224_52 := Kh32.2 224 52 rfl
      have th32_224_53 := Kh32.2 224 53 rfl
      have th32_224_54 := Kh32.2 224 54 rfl
      have th32_224_55 := Kh32.2 224 55 rfl
      have th32_224_56 := Kh32.2 224 56 rfl
      have th32_224_57 := Kh32.2 224 57 rfl
      exact J66_n5 _ Ih32 (mK.tr (mK.tr (mK.refl hJ) Kh28 (prW_sub rfl rfl)) Kh32 (prW_sub rfl rfl)) (by omega) (by omega)
    ·
      refine sx_iconst dX12_readWord_48 ⟨by decide, by decide⟩ ?_
      refine sx_goto (tgt := 53) dX12_readWord_49 (by decide) ?_
      refine sx_callVv lk_X12_382 cl_12 s_224 (by decide) dX12_readWord_53 (vs := [_]) rfl rfl (Nat.le_of_ble_eq_true rfl) (Nat.le_of_ble_eq_true rfl) rfl (c_X12_must _ hI.1 _ (by omega)) (fun h34 ph34 => ?_)
      obtain ⟨Kh34, a_h34, m_h34, g_h34⟩ := ph34
      have Ih34 := hI.tr Kh34 (prBW_sub rfl rfl rfl)
      have th34_224_3 := Kh34.2 224 3 rfl
      have th34_224_37 := Kh34.2 224 37 rfl
      have th34_224_52 := Kh34.2 224 52 rfl
      have th34_224_53 := Kh34.2 224 53 rfl
      have th34_224_54 := Kh34.2 224 54 rfl
      have th34_224_55 := Kh34.2 224 55 rfl
      have th34_224_56 := Kh34.2 224 56 rfl
      have th34_224_57 := Kh34.2 224 57 rfl
      refine sx_aload_n dX12_readWord_56 rfl ?_
      refine sx_aload_n dX12_readWord_57 rfl ?_
      refine sx_bipush dX12_readWord_58 ⟨by decide, by decide, by decide⟩ ?_
      refine sx_callVz lk_X12_379 cl_12 s_224 (by decide) dX12_readWord_60 (vs := [_]) rfl rfl (Nat.le_of_ble_eq_true rfl) (Nat.le_of_ble_eq_true rfl) rfl (c2_X12_isSignHere _ Ih34.1 _) (fun x37 h36 zx37 ph36 => ?_)
      obtain ⟨rfl, p_x37⟩ := ph36
      refine sx_callVv lk_X12_382 cl_12 s_224 (by decide) dX12_readWord_63 (vs := [_]) rfl rfl (Nat.le_of_ble_eq_true rfl) (Nat.le_of_ble_eq_true rfl) rfl (c_X12_must _ Ih34.1 _ (by omega)) (fun h38 ph38 => ?_)
      obtain ⟨Kh38, a_h38, m_h38, g_h38⟩ := ph38
      have Ih38 := Ih34.tr Kh38 (prBW_sub rfl rfl rfl)
      have th38_224_3 := Kh38.2 224 3 rfl
      have th38_224_37 := Kh38.2 224 37 rfl
      have th38_224_52 := Kh38.2 224 52 rfl
      have th38_224_53 := Kh38.2 224 53 rfl
      have th38_224_54 := Kh38.2 224 54 rfl
      have th38_224_55 := Kh38.2 224 55 rfl
      have th38_224_56 := Kh38.2 224 56 rfl
      have th38_224_57 := Kh38.2 224 57 rfl
      exact J66_n5 _ Ih38 (mK.tr (mK.tr (mK.refl hJ) Kh34 (prW_sub rfl rfl)) Kh38 (prW_sub rfl rfl)) (by omega) (by omega)
  ·
    refine sx_aload_n dX12_readWord_25 rfl ?_
    refine sx_iconst dX12_readWord_26 ⟨by decide, by decide⟩ ?_
    refine sx_aload_n dX12_readWord_27 rfl ?_
    refine sx_getI (k := 6) cl_12 fl_X12_295 dX12_readWord_28 s_224 (by decide) rfl (by decide) ?_
    have r40 : (0 : Int) ≤ h0 224 6 ∧ h0 224 6 ≤ 1700 := hI.1 224 6
    refine sx_callVv lk_X12_326 cl_12 s_224 (by decide) dX12_readWord_31 (vs := [_, _]) rfl rfl (Nat.le_of_ble_eq_true rfl) (Nat.le_of_ble_eq_true rfl) rfl (c_X12_fails _ hI.1 _ _ (by omega)) (fun h41 ph41 => ?_)
    obtain ⟨Kh41, g_h41⟩ := ph41
    have Ih41 := hI.tr Kh41 (prBW_sub rfl rfl rfl)
    have th41_224_3 := Kh41.2 224 3 rfl
    have th41_224_7 := Kh41.2 224 7 rfl
    have th41_224_8 := Kh41.2 224 8 rfl
    have th41_224_37 := Kh41.2 224 37 rfl
    have th41_224_52 := Kh41.2 224 52 rfl
    have th41_224_53 := Kh41.2 224 53 rfl
    have th41_224_54 := Kh41.2 224 54 rfl
    have th41_224_55 := Kh41.2 224 55 rfl
    have th41_224_56 := Kh41.2 224 56 rfl
    have th41_224_57 := Kh41.2 224 57 rfl
    have th41_224_10 := Kh41.2 224 10 rfl
    refine sx_aload_n dX12_readWord_34 rfl ?_
    refine sx_getL (k := 10) cl_12 fl_X12_309 dX12_readWord_35 s_224 (by decide) rfl (by decide) ?_
    rw [show h41 224 10 = h0 224 10 by omega]
    refine sx_lstore_n dX12_readWord_38 (by decide) ?_
    refine sx_aload_n dX12_readWord_39 rfl ?_
    refine sx_aload_n dX12_readWord_40 rfl ?_
    refine sx_getI (k := 8) cl_12 fl_X12_302 dX12_readWord_41 s_224 (by decide) rfl (by decide) ?_
    have r43 : (0 : Int) ≤ h41 224 8 ∧ h41 224 8 ≤ 5 := Ih41.1 224 8
    refine sx_iconst dX12_readWord_44 ⟨by decide, by decide⟩ ?_
    refine sx_icmp_ne (tgt := 52) dX12_readWord_45 (by decide) (fun c44 => ?_) (fun c44 => ?_)
    ·
      refine sx_iconst dX12_readWord_52 ⟨by decide, by decide⟩ ?_
      refine sx_callVv lk_X12_382 cl_12 s_224 (by decide) dX12_readWord_53 (vs := [_]) rfl rfl (Nat.le_of_ble_eq_true rfl) (Nat.le_of_ble_eq_true rfl) rfl (c_X12_must _ Ih41.1 _ (by omega)) (fun h45 ph45 => ?_)
      obtain ⟨Kh45, a_h45, m_h45, g_h45⟩ := ph45
      have Ih45 := Ih41.tr Kh45 (prBW_sub rfl rfl rfl)
      have th45_224_3 := Kh45.2 224 3 rfl
      have th45_224_37 := Kh45.2 224 37 rfl
      have th45_224_52 := Kh45.2 224 52 rfl
      have th45_224_53 := Kh45.2 224 53 rfl
      have th45_224_54 := Kh45.2 224 54 rfl
      have th45_224_55 := Kh45.2 224 55 rfl
      have th45_224_56 := Kh45.2 224 56 rfl
      have th45_224_57 := Kh45.2 224 57 rfl
      refine sx_aload_n dX12_readWord_56 rfl ?_
      refine sx_aload_n dX12_readWord_57 rfl ?_
      refine sx_bipush dX12_readWord_58 ⟨by decide, by decide, by decide⟩ ?_
      refine sx_callVz lk_X12_379 cl_12 s_224 (by decide) dX12_readWord_60 (vs := [_]) rfl rfl (Nat.le_of_ble_eq_true rfl) (Nat.le_of_ble_eq_true rfl) rfl (c2_X12_isSignHere _ Ih45.1 _) (fun x48 h47 zx48 ph47 => ?_)
      obtain ⟨rfl, p_x48⟩ := ph47
      refine sx_callVv lk_X12_382 cl_12 s_224 (by decide) dX12_readWord_63 (vs := [_]) rfl rfl (Nat.le_of_ble_eq_true rfl) (Nat.le_of_ble_eq_true rfl) rfl (c_X12_must _ Ih45.1 _ (by omega)) (fun h49 ph49 => ?_)
      obtain ⟨Kh49, a_h49, m_h49, g_h49⟩ := ph49
      have Ih49 := Ih45.tr Kh49 (prBW_sub rfl rfl rfl)
      have th49_224_3 := Kh49.2 224 3 rfl
      have th49_224_37 := Kh49.2 224 37 rfl
      have th49_224_52 := Kh49.2 224 52 rfl
      have th49_224_53 := Kh49.2 224 53 rfl
      have th49_224_54 := Kh49.2 224 54 rfl
      have th49_224_55 := Kh49.2 224 55 rfl
      have th49_224_56 := Kh49.2 224 56 rfl
      have th49_224_57 := Kh49.2 224 57 rfl
      exact J66_n5 _ Ih49 (mK.tr (mK.tr (mK.tr (mK.refl hJ) Kh41 (prW_sub rfl rfl)) Kh45 (prW_sub rfl rfl)) Kh49 (prW_sub rfl rfl)) (by omega) (by omega)
    ·
      refine sx_iconst dX12_readWord_48 ⟨by decide, by decide⟩ ?_
      refine sx_goto (tgt := 53) dX12_readWord_49 (by decide) ?_
      refine sx_callVv lk_X12_382 cl_12 s_224 (by decide) dX12_readWord_53 (vs := [_]) rfl rfl (Nat.le_of_ble_eq_true rfl) (Nat.le_of_ble_eq_true rfl) rfl (c_X12_must _ Ih41.1 _ (by omega)) (fun h51 ph51 => ?_)
      obtain ⟨Kh51, a_h51, m_h51, g_h51⟩ := ph51
      have Ih51 := Ih41.tr Kh51 (prBW_sub rfl rfl rfl)
      have th51_224_3 := Kh51.2 224 3 rfl
      have th51_224_37 := Kh51.2 224 37 rfl
      have th51_224_52 := Kh51.2 224 52 rfl
      have th51_224_53 := Kh51.2 224 53 rfl
      have th51_224_54 := Kh51.2 224 54 rfl
      have th51_224_55 := Kh51.2 224 55 rfl
      have th51_224_56 := Kh51.2 224 56 rfl
      have th51_224_57 := Kh51.2 224 57 rfl
      refine sx_aload_n dX12_readWord_56 rfl ?_
      refine sx_aload_n dX12_readWord_57 rfl ?_
      refine sx_bipush dX12_readWord_58 ⟨by decide, by decide, by decide⟩ ?_
      refine sx_callVz lk_X12_379 cl_12 s_224 (by decide) dX12_readWord_60 (vs := [_]) rfl rfl (Nat.le_of_ble_eq_true rfl) (Nat.le_of_ble_eq_true rfl) rfl (c2_X12_isSignHere _ Ih51.1 _) (fun x54 h53 zx54 ph53 => ?_)
      obtain ⟨rfl, p_x54⟩ := ph53
      refine sx_callVv lk_X12_382 cl_12 s_224 (by decide) dX12_readWord_63 (vs := [_]) rfl rfl (Nat.le_of_ble_eq_true rfl) (Nat.le_of_ble_eq_true rfl) rfl (c_X12_must _ Ih51.1 _ (by omega)) (fun h55 ph55 => ?_)
      obtain ⟨Kh55, a_h55, m_h55, g_h55⟩ := ph55
      have Ih55 := Ih51.tr Kh55 (prBW_sub rfl rfl rfl)
      have th55_224_3 := Kh55.2 224 3 rfl
      have th55_224_37 := Kh55.2 224 37 rfl
      have th55_224_52 := Kh55.2 224 52 rfl
      have th55_224_53 := Kh55.2 224 53 rfl
      have th55_224_54 := Kh55.2 224 54 rfl
      have th55_224_55 := Kh55.2 224 55 rfl
      have th55_224_56 := Kh55.2 224 56 rfl
      have th55_224_57 := Kh55.2 224 57 rfl
      exact J66_n5 _ Ih55 (mK.tr (mK.tr (mK.tr (mK.refl hJ) Kh41 (prW_sub rfl rfl)) Kh51 (prW_sub rfl rfl)) Kh55 (prW_sub rfl rfl)) (by omega) (by omega)

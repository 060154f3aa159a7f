theorem RI_242 {h h1 : sw_H} {k : Nat} {z : Int} {r w : Int} {i : Nat} (e : sw_to h h1 242 k z) (R : RI h r w i) : RI h1 r w i := by
  have ea : ∀ a j, a ≠ 242 → h1 a j = h a j := fun a j ha => e.2 a j (by omega)
  have eF : rF h1 r w = rF h r w := by unfold rF; rw [ea 233 _ (by omega)]
  have eS : rS h1 r w = rS h r w := by funext j; unfold rS; rw [eF, ea 240 _ (by omega)]
  have eV : rV h1 r w = rV h r w := by funext j; unfold rV; rw [eF, ea 241 _ (by omega)]
  have eG : rG h1 r w = rG h r w := by funext j; unfold rG; rw [eF, ea 243 _ (by omega)]
  obtain ⟨k1, k2, k3, k4, k5, k6, k7, H, U, L⟩ := R
  unfold RI
  rw [eF, eS, eV, eG, ea 224 _ (by omega), ea 234 _ (by omega), ea 233 _ (by omega), ea 228 _ (by omega)]
  refine ⟨k1, k2, k3, k4, k5, k6, k7, H, U, LI_congr (fun k h1 h2 => ea 224 k (by omega)) (fun a k h1 h2 => ea a k (by omega)) (fun j _ _ => ?_) (fun j _ => ⟨rfl, rfl⟩) L⟩
  unfold kN kL kH
  rw [ea 224 _ (by omega), ea 235 _ (by omega), ea 236 _ (by omega), ea 237 _ (by omega)]
  exact ⟨rfl, rfl, rfl⟩
theorem np_60 {b : Nat} {v : Int} (hb : b ≤ 1) (h : 60 * (1 - (b : Int)) ≤ v ∧ v < 60 * (1 - (b : Int)) + 60) : ¬ (60 * b ≤ v.toNat ∧ v.toNat < 60 * b + 60) := by omega
theorem np_6 {b : Nat} {v : Int} (hb : b ≤ 1) (h : 6 * (1 - (b : Int)) ≤ v ∧ v < 6 * (1 - (b : Int)) + 6) : ¬ (6 * b ≤ v.toNat ∧ v.toNat < 6 * b + 6) := by omega
def arP (its arg w : Int) : Prop := (its = 0 → 0 ≤ arg ∧ arg ≤ 14) ∧ (its = 1 → 0 ≤ arg ∧ arg ≤ 9999) ∧ (its = 2 → 0 ≤ arg ∧ arg < w) ∧ (3 ≤ its → arg = 0)
def arQ (its arg w : Int) : Prop := (its = 0 → 0 ≤ arg ∧ arg ≤ 14) ∧ (its = 1 → 0 ≤ arg) ∧ (its = 2 → 0 ≤ arg ∧ arg < w) ∧ (its = 6 → 1 ≤ arg ∧ arg ≤ 9) ∧ 0 ≤ arg ∧ arg ≤ 9999
set_option maxRecDepth 20000 in
set_option maxHeartbeats 4000000 in
theorem rt_readItem {G : sw_G} (d : Nat) {h0 hz : sw_H} (hJ : mI h0) (b : Nat) (Ihz : mK (prB b [4, 5, 6, 7, 8, 9, 10, 53, 54, 55, 56, 57, 58] [228, 234, 240, 241, 242, 243, 252, 253, 254, 255, 256, 257, 258, 259, 260]) h0 hz) (w : Int) (i : Nat) (y1 its plc ar : Int) (K1 : mK (prW [4, 5, 6, 7, 8, 9, 10] []) h0 hz) (hr : h0 224 37 = 1 - (b : Int) ∧ b ≤ 1) (ja1 : hz 224 7 ≤ hz 224 3 ∧ (hz 224 8 = 0 → hz 224 7 = hz 224 3)) (ja2 : h0 224 7 ≤ hz 224 7 ∧ (h0 224 8 = 0 → hz 224 8 = 0)) (jaq : arQ its ar w) (hx : 0 ≤ its ∧ its ≤ 7) (t_its : shP h0 its) (hy : y1 = 6 * (1 - (b : Int)) + w) (hw : 0 ≤ w ∧ w < 6) (hRI : RI h0 (1 - (b : Int)) w i) (hB : RBx h0 (1 - (b : Int)) w (h0 233 (6 * (1 - (b : Int)) + w).toNat)) (hit : h0 228 (1 - (b : Int)).toNat < 60) (hi20 : i < 20) : sw_E G NH SH (d + 4) mX12_readItem 139 [some (sw_r 224), some (sw_i y1), some (sw_i its), some (sw_i plc), some (sw_i ar), none, none] [] hz (sw_Qv (fun h' => mK (prB b [4, 5, 6, 7, 8, 9, 10, 53, 54, 55, 56, 57, 58] [228, 234, 240, 241, 242, 243, 252, 253, 254, 255, 256, 257, 258, 259, 260]) h0 h' ∧ (h' 224 7 ≤ h' 224 3 ∧ (h' 224 8 = 0 → h' 224 7 = h' 224 3)) ∧ (h0 224 7 ≤ h' 224 7 ∧ (h0 224 8 = 0 → h' 224 8 = 0)) ∧ (imp (h' 224 4 = 0) (RI h' (1 - (b : Int)) w (i + 1) ∧ RBx h' (1 - (b : Int)) w (h' 233 (6 * (1 - (b : Int)) + w).toNat))))) := by
  have Khz := K1
  have i1 := hRI.2.1
  have i3 := hRI.2.2.1
  have i4 := hRI.2.2.2.1
  have i5 := hRI.2.2.2.2.1
  have i6 := hRI.2.2.2.2.2.1
  have ho4 : 0 ≤ h0 224 55 ∧ h0 224 55 ≤ 4 := by obtain ⟨-, -, -, -, -, -, -, Hq, Uq, hq⟩ := hRI; have q1 := hq.2.2.2.2.2.2.2.2.1; have q2 := hq.2.2.2.2.2.2.2.2.2.1; omega
  have em : y1.toNat = (6 * (1 - (b : Int)) + w).toNat := by first | omega -splitDisjunctions | ((repeat' apply And.intro) <;> omega -splitDisjunctions) | omega
  have hyb : 6 * (1 - (b : Int)) ≤ y1 ∧ y1 < 6 * (1 - (b : Int)) + 6 := by first | omega -splitDisjunctions | ((repeat' apply And.intro) <;> omega -splitDisjunctions) | omega
  have e37 : (h0 224 37).toNat = (1 - (b : Int)).toNat := by first | omega -splitDisjunctions | ((repeat' apply And.intro) <;> omega -splitDisjunctions) | omega
  have thz_224_3 := K1.2 224 3 rfl
  have thz_224_37 := K1.2 224 37 rfl
  have thz_224_52 := K1.2 224 52 rfl
  have thz_224_53 := K1.2 224 53 rfl
  have thz_224_54 := K1.2 224 54 rfl
  have thz_224_55 := K1.2 224 55 rfl
  have thz_224_56 := K1.2 224 56 rfl
  have thz_224_57 := K1.2 224 57 rfl
  refine sx_aload_n dX12_readItem_139 rfl ?_
  refine sx_callVz lk_X12_330 cl_12 s_224 (by decide) dX12_readItem_140 (vs := []) rfl rfl (Nat.le_of_ble_eq_true rfl) (Nat.le_of_ble_eq_true rfl) rfl (c_X12_isGood _ Ihz.1) (fun x2 h1 zx2 ph1 => ?_)
  obtain ⟨rfl, p_x2⟩ := ph1
  refine sx_if_ne (tgt := 147) dX12_readItem_143 (by decide) (fun c3 => ?_) (fun c3 => ?_)
  ·
    have vx2 : x2 = 1 := by rcases zx2 with q | q; (exact absurd q c3); exact q
    replace p_x2 := p_x2.mp vx2
    clear zx2
    have jb := jaq.2.2.2.2
    refine sx_bipush dX12_readItem_147 ⟨by decide, by decide, by decide⟩ ?_
    refine sx_aload_n dX12_readItem_149 rfl ?_
    refine sx_getI (k := 37) cl_12 fl_X12_340 dX12_readItem_150 s_224 (by decide) rfl (by decide) ?_
    have r4 : (0 : Int) ≤ hz 224 37 ∧ hz 224 37 ≤ 1 := Ihz.1 224 37
    refine sx_imul dX12_readItem_153 ?_
    refine sy_topw (by first | omega -splitDisjunctions | ((repeat' apply And.intro) <;> omega -splitDisjunctions) | omega) ?_
    refine sx_aload_n dX12_readItem_154 rfl ?_
    refine sx_getS (k := 12) (t := 228) cl_12 fl_X12_24 dX12_readItem_155 s_224 (by decide) rfl (by decide) ?_
    refine sx_aload_n dX12_readItem_158 rfl ?_
    refine sx_getI (k := 37) cl_12 fl_X12_340 dX12_readItem_159 s_224 (by decide) rfl (by decide) ?_
    have r5 : (0 : Int) ≤ hz 224 37 ∧ hz 224 37 ≤ 1 := Ihz.1 224 37
    refine sy_iaF (F := fun z => (0 : Int) ≤ z ∧ z ≤ 60) dX12_readItem_162 s_228 (by decide) (by decide) ⟨by first | omega -splitDisjunctions | ((repeat' apply And.intro) <;> omega -splitDisjunctions) | omega, by first | omega -splitDisjunctions | ((repeat' apply And.intro) <;> omega -splitDisjunctions) | omega⟩ (Ihz.1 228 _) (fun r6 => ?_)
    refine sx_iadd dX12_readItem_163 ?_
    refine sy_topw (by first | omega -splitDisjunctions | ((repeat' apply And.intro) <;> omega -splitDisjunctions) | omega) ?_
    refine sy_top (fun v7 ev7 => ?_)
    refine sx_istore dX12_readItem_164 (by decide) ?_
    have eit : hz 228 (hz 224 37).toNat = h0 228 (1 - (b : Int)).toNat := by rw [show (hz 224 37).toNat = (1 - (b : Int)).toNat by omega]; all_goals rw [show hz 228 _ = _ from Khz.2 228 _ rfl]
    have eit0 := hRI.2.2.2.2.1
    have hn5 : 60 * (1 - (b : Int)) ≤ v7 ∧ v7 < 60 * (1 - (b : Int)) + 60 := by first | omega -splitDisjunctions | ((repeat' apply And.intro) <;> omega -splitDisjunctions) | omega
    refine sx_aload_n dX12_readItem_166 rfl ?_
    refine sx_getS (k := 24) (t := 240) cl_12 fl_X12_60 dX12_readItem_167 s_224 (by decide) rfl (by decide) ?_
    refine sx_iload dX12_readItem_170 rfl ?_
    refine sx_iload_n dX12_readItem_172 rfl ?_
    refine sy_iastore dX12_readItem_173 s_240 (by decide) (by decide) ⟨by first | omega -splitDisjunctions | ((repeat' apply And.intro) <;> omega -splitDisjunctions) | omega, by first | omega -splitDisjunctions | ((repeat' apply And.intro) <;> omega -splitDisjunctions) | omega⟩ (fun h8 eh8 => ?_)
    have Ih8 := Ihz.up eh8 (show (0 : Int) ≤ _ ∧ _ ≤ (7 : Int) from ⟨by first | omega -splitDisjunctions | ((repeat' apply And.intro) <;> omega -splitDisjunctions) | omega, by first | omega -splitDisjunctions | ((repeat' apply And.intro) <;> omega -splitDisjunctions) | omega⟩) (decide_eq_false (np_60 (by first | omega -splitDisjunctions | ((repeat' apply And.intro) <;> omega -splitDisjunctions) | omega) hn5))
    have th8_224_3 := eh8.2 (224) 3 (fun q => absurd q.1 (by decide))
    have th8_224_4 := eh8.2 (224) 4 (fun q => absurd q.1 (by decide))
    have th8_224_7 := eh8.2 (224) 7 (fun q => absurd q.1 (by decide))
    have th8_224_8 := eh8.2 (224) 8 (fun q => absurd q.1 (by decide))
    have th8_224_37 := eh8.2 (224) 37 (fun q => absurd q.1 (by decide))
    have th8_224_52 := eh8.2 (224) 52 (fun q => absurd q.1 (by decide))
    have th8_224_53 := eh8.2 (224) 53 (fun q => absurd q.1 (by decide))
    have th8_224_54 := eh8.2 (224) 54 (fun q => absurd q.1 (by decide))
    have th8_224_55 := eh8.2 (224) 55 (fun q => absurd q.1 (by decide))
    have th8_224_56 := eh8.2 (224) 56 (fun q => absurd q.1 (by decide))
    have th8_224_57 := eh8.2 (224) 57 (fun q => absurd q.1 (by decide))
    refine sx_aload_n dX12_readItem_174 rfl ?_
    refine sx_getS (k := 25) (t := 241) cl_12 fl_X12_63 dX12_readItem_175 s_224 (by decide) rfl (by decide) ?_
    refine sx_iload dX12_readItem_178 rfl ?_
    refine sx_iload dX12_readItem_180 rfl ?_
    refine sy_iastore dX12_readItem_182 s_241 (by decide) (by decide) ⟨by first | omega -splitDisjunctions | ((repeat' apply And.intro) <;> omega -splitDisjunctions) | omega, by first | omega -splitDisjunctions | ((repeat' apply And.intro) <;> omega -splitDisjunctions) | omega⟩ (fun h9 eh9 => ?_)
    have Ih9 := Ih8.up eh9 (show (0 : Int) ≤ _ ∧ _ ≤ (9999 : Int) from ⟨by first | omega -splitDisjunctions | ((repeat' apply And.intro) <;> omega -splitDisjunctions) | omega, by first | omega -splitDisjunctions | ((repeat' apply And.intro) <;> omega -splitDisjunctions) | omega⟩) (decide_eq_false (np_60 (by first | omega -splitDisjunctions | ((repeat' apply And.intro) <;> omega -splitDisjunctions) | omega) hn5))
    have th9_224_3 := eh9.2 (224) 3 (fun q => absurd q.1 (by decide))
    have th9_224_4 := eh9.2 (224) 4 (fun q => absurd q.1 (by decide))
    have th9_224_7 := eh9.2 (224) 7 (fun q => absurd q.1 (by decide))
    have th9_224_8 := eh9.2 (224) 8 (fun q => absurd q.1 (by decide))
    have th9_224_37 := eh9.2 (224) 37 (fun q => absurd q.1 (by decide))
    have th9_224_52 := eh9.2 (224) 52 (fun q => absurd q.1 (by decide))
    have th9_224_53 := eh9.2 (224) 53 (fun q => absurd q.1 (by decide))
    have th9_224_54 := eh9.2 (224) 54 (fun q => absurd q.1 (by decide))
    have th9_224_55 := eh9.2 (224) 55 (fun q => absurd q.1 (by decide))
    have th9_224_56 := eh9.2 (224) 56 (fun q => absurd q.1 (by decide))
    have th9_224_57 := eh9.2 (224) 57 (fun q => absurd q.1 (by decide))
    refine sx_aload_n dX12_readItem_183 rfl ?_
    refine sx_getS (k := 12) (t := 228) cl_12 fl_X12_24 dX12_readItem_184 s_224 (by decide) rfl (by decide) ?_
    refine sx_aload_n dX12_readItem_187 rfl ?_
    refine sx_getI (k := 37) cl_12 fl_X12_340 dX12_readItem_188 s_224 (by decide) rfl (by decide) ?_
    have r10 : (0 : Int) ≤ h9 224 37 ∧ h9 224 37 ≤ 1 := Ih9.1 224 37
    refine sx_dup2 dX12_readItem_191 ?_
    refine sy_iaF (F := fun z => (0 : Int) ≤ z ∧ z ≤ 60) dX12_readItem_192 s_228 (by decide) (by decide) ⟨by first | omega -splitDisjunctions | ((repeat' apply And.intro) <;> omega -splitDisjunctions) | omega, by first | omega -splitDisjunctions | ((repeat' apply And.intro) <;> omega -splitDisjunctions) | omega⟩ (Ih9.1 228 _) (fun r11 => ?_)
    have eit2 : h9 228 (h9 224 37).toNat = h0 228 (1 - (b : Int)).toNat := by rw [show (h9 224 37).toNat = (1 - (b : Int)).toNat by omega]; all_goals rw [eh9.2 228 _ (fun q => absurd q.1 (by decide)), eh8.2 228 _ (fun q => absurd q.1 (by decide)), show hz 228 _ = _ from Khz.2 228 _ rfl]
    refine sx_iconst dX12_readItem_193 ⟨by decide, by decide⟩ ?_
    refine sx_iadd dX12_readItem_194 ?_
    refine sy_topw (by first | omega -splitDisjunctions | ((repeat' apply And.intro) <;> omega -splitDisjunctions) | omega) ?_
    refine sy_iastore dX12_readItem_195 s_228 (by decide) (by decide) ⟨by first | omega -splitDisjunctions | ((repeat' apply And.intro) <;> omega -splitDisjunctions) | omega, by first | omega -splitDisjunctions | ((repeat' apply And.intro) <;> omega -splitDisjunctions) | omega⟩ (fun h12 eh12 => ?_)
    have Ih12 := Ih9.up eh12 (show (0 : Int) ≤ _ ∧ _ ≤ (60 : Int) from ⟨by first | omega -splitDisjunctions | ((repeat' apply And.intro) <;> omega -splitDisjunctions) | omega, by first | omega -splitDisjunctions | ((repeat' apply And.intro) <;> omega -splitDisjunctions) | omega⟩) (beq_eq_false_iff_ne.mpr (show _ ≠ _ by first | omega -splitDisjunctions | ((repeat' apply And.intro) <;> omega -splitDisjunctions) | omega))
    have th12_224_3 := eh12.2 (224) 3 (fun q => absurd q.1 (by decide))
    have th12_224_4 := eh12.2 (224) 4 (fun q => absurd q.1 (by decide))
    have th12_224_7 := eh12.2 (224) 7 (fun q => absurd q.1 (by decide))
    have th12_224_8 := eh12.2 (224) 8 (fun q => absurd q.1 (by decide))
    have th12_224_37 := eh12.2 (224) 37 (fun q => absurd q.1 (by decide))
    have th12_224_52 := eh12.2 (224) 52 (fun q => absurd q.1 (by decide))
    have th12_224_53 := eh12.2 (224) 53 (fun q => absurd q.1 (by decide))
    have th12_224_54 := eh12.2 (224) 54 (fun q => absurd q.1 (by decide))
    have th12_224_55 := eh12.2 (224) 55 (fun q => absurd q.1 (by decide))
    have th12_224_56 := eh12.2 (224) 56 (fun q => absurd q.1 (by decide))
    have th12_224_57 := eh12.2 (224) 57 (fun q => absurd q.1 (by decide))
    refine sx_aload_n dX12_readItem_196 rfl ?_
    refine sx_getS (k := 18) (t := 234) cl_12 fl_X12_42 dX12_readItem_197 s_224 (by decide) rfl (by decide) ?_
    refine sx_iload_n dX12_readItem_200 rfl ?_
    refine sx_dup2 dX12_readItem_201 ?_
    refine sy_iaF (F := fun z => (0 : Int) ≤ z ∧ z ≤ 20) dX12_readItem_202 s_234 (by decide) (by decide) ⟨by first | omega -splitDisjunctions | ((repeat' apply And.intro) <;> omega -splitDisjunctions) | omega, by first | omega -splitDisjunctions | ((repeat' apply And.intro) <;> omega -splitDisjunctions) | omega⟩ (Ih12.1 234 _) (fun r13 => ?_)
    have emm : h12 234 y1.toNat = i := by rw [em]; rw [eh12.2 234 _ (fun q => absurd q.1 (by decide)), eh9.2 234 _ (fun q => absurd q.1 (by decide)), eh8.2 234 _ (fun q => absurd q.1 (by decide)), show hz 234 _ = _ from Khz.2 234 _ rfl]; all_goals exact i1
    refine sx_iconst dX12_readItem_203 ⟨by decide, by decide⟩ ?_
    refine sx_iadd dX12_readItem_204 ?_
    refine sy_topw (by first | omega -splitDisjunctions | ((repeat' apply And.intro) <;> omega -splitDisjunctions) | omega) ?_
    refine sy_iastore dX12_readItem_205 s_234 (by decide) (by decide) ⟨by first | omega -splitDisjunctions | ((repeat' apply And.intro) <;> omega -splitDisjunctions) | omega, by first | omega -splitDisjunctions | ((repeat' apply And.intro) <;> omega -splitDisjunctions) | omega⟩ (fun h14 eh14 => ?_)
    have Ih14 := Ih12.up eh14 (show (0 : Int) ≤ _ ∧ _ ≤ (20 : Int) from ⟨by first | omega -splitDisjunctions | ((repeat' apply And.intro) <;> omega -splitDisjunctions) | omega, by first | omega -splitDisjunctions | ((repeat' apply And.intro) <;> omega -splitDisjunctions) | omega⟩) (decide_eq_false (np_6 (by first | omega -splitDisjunctions | ((repeat' apply And.intro) <;> omega -splitDisjunctions) | omega) hyb))
    have th14_224_3 := eh14.2 (224) 3 (fun q => absurd q.1 (by decide))
    have th14_224_4 := eh14.2 (224) 4 (fun q => absurd q.1 (by decide))
    have th14_224_7 := eh14.2 (224) 7 (fun q => absurd q.1 (by decide))
    have th14_224_8 := eh14.2 (224) 8 (fun q => absurd q.1 (by decide))
    have th14_224_37 := eh14.2 (224) 37 (fun q => absurd q.1 (by decide))
    have th14_224_52 := eh14.2 (224) 52 (fun q => absurd q.1 (by decide))
    have th14_224_53 := eh14.2 (224) 53 (fun q => absurd q.1 (by decide))
    have th14_224_54 := eh14.2 (224) 54 (fun q => absurd q.1 (by decide))
    have th14_224_55 := eh14.2 (224) 55 (fun q => absurd q.1 (by decide))
    have th14_224_56 := eh14.2 (224) 56 (fun q => absurd q.1 (by decide))
    have th14_224_57 := eh14.2 (224) 57 (fun q => absurd q.1 (by decide))
    refine sx_aload_n dX12_readItem_206 rfl ?_
    refine sx_iload_n dX12_readItem_207 rfl ?_
    refine sx_iload dX12_readItem_208 rfl ?_
    refine sx_iload dX12_readItem_210 rfl ?_
    have o4 : 0 ≤ h0 224 55 ∧ h0 224 55 ≤ 4 := ho4
    have eL5 : v7 = 60 * (1 - (b : Int)) + h0 233 (6 * (1 - (b : Int)) + w).toNat + i := by first | omega -splitDisjunctions | ((repeat' apply And.intro) <;> omega -splitDisjunctions) | omega
    obtain ⟨eF, sN, vN, stc, ⟨Hc, Uc, LIc⟩, tSc, lkc, ic⟩ := RI_store (h := h0) (h' := h14) (r := (1 - (b : Int))) (w := w) (i := i) (its := its) (arg := ar) (by first | omega -splitDisjunctions | ((repeat' apply And.intro) <;> omega -splitDisjunctions) | omega) (by first | omega -splitDisjunctions | ((repeat' apply And.intro) <;> omega -splitDisjunctions) | omega) hRI hB (fun k q1 q2 => by have q : k = 52 ∨ k = 53 ∨ k = 54 ∨ k = 55 ∨ k = 56 ∨ k = 57 := (by first | omega -splitDisjunctions | ((repeat' apply And.intro) <;> omega -splitDisjunctions) | omega); rcases q with rfl | rfl | rfl | rfl | rfl | rfl <;> omega) (fun a k q1 q2 => by have q : a = 252 ∨ a = 253 ∨ a = 254 ∨ a = 255 ∨ a = 256 ∨ a = 257 := (by first | omega -splitDisjunctions | ((repeat' apply And.intro) <;> omega -splitDisjunctions) | omega); rcases q with rfl | rfl | rfl | rfl | rfl | rfl; (focus rw [eh14.2 252 k (fun q => absurd q.1 (by decide)), eh12.2 252 k (fun q => absurd q.1 (by decide)), eh9.2 252 k (fun q => absurd q.1 (by decide)), eh8.2 252 k (fun q => absurd q.1 (by decide)), show hz 252 k = _ from Khz.2 252 k rfl]); (focus rw [eh14.2 253 k (fun q => absurd q.1 (by decide)), eh12.2 253 k (fun q => absurd q.1 (by decide)), eh9.2 253 k (fun q => absurd q.1 (by decide)), eh8.2 253 k (fun q => absurd q.1 (by decide)), show hz 253 k = _ from Khz.2 253 k rfl]); (focus rw [eh14.2 254 k (fun q => absurd q.1 (by decide)), eh12.2 254 k (fun q => absurd q.1 (by decide)), eh9.2 254 k (fun q => absurd q.1 (by decide)), eh8.2 254 k (fun q => absurd q.1 (by decide)), show hz 254 k = _ from Khz.2 254 k rfl]); (focus rw [eh14.2 255 k (fun q => absurd q.1 (by decide)), eh12.2 255 k (fun q => absurd q.1 (by decide)), eh9.2 255 k (fun q => absurd q.1 (by decide)), eh8.2 255 k (fun q => absurd q.1 (by decide)), show hz 255 k = _ from Khz.2 255 k rfl]); (focus rw [eh14.2 256 k (fun q => absurd q.1 (by decide)), eh12.2 256 k (fun q => absurd q.1 (by decide)), eh9.2 256 k (fun q => absurd q.1 (by decide)), eh8.2 256 k (fun q => absurd q.1 (by decide)), show hz 256 k = _ from Khz.2 256 k rfl]); (focus rw [eh14.2 257 k (fun q => absurd q.1 (by decide)), eh12.2 257 k (fun q => absurd q.1 (by decide)), eh9.2 257 k (fun q => absurd q.1 (by decide)), eh8.2 257 k (fun q => absurd q.1 (by decide)), show hz 257 k = _ from Khz.2 257 k rfl])) (fun a k q => by rcases q with rfl | rfl | rfl | rfl | rfl; (focus rw [eh14.2 233 k (fun q => absurd q.1 (by decide)), eh12.2 233 k (fun q => absurd q.1 (by decide)), eh9.2 233 k (fun q => absurd q.1 (by decide)), eh8.2 233 k (fun q => absurd q.1 (by decide)), show hz 233 k = _ from Khz.2 233 k rfl]); (focus rw [eh14.2 235 k (fun q => absurd q.1 (by decide)), eh12.2 235 k (fun q => absurd q.1 (by decide)), eh9.2 235 k (fun q => absurd q.1 (by decide)), eh8.2 235 k (fun q => absurd q.1 (by decide)), show hz 235 k = _ from Khz.2 235 k rfl]); (focus rw [eh14.2 236 k (fun q => absurd q.1 (by decide)), eh12.2 236 k (fun q => absurd q.1 (by decide)), eh9.2 236 k (fun q => absurd q.1 (by decide)), eh8.2 236 k (fun q => absurd q.1 (by decide)), show hz 236 k = _ from Khz.2 236 k rfl]); (focus rw [eh14.2 237 k (fun q => absurd q.1 (by decide)), eh12.2 237 k (fun q => absurd q.1 (by decide)), eh9.2 237 k (fun q => absurd q.1 (by decide)), eh8.2 237 k (fun q => absurd q.1 (by decide)), show hz 237 k = _ from Khz.2 237 k rfl]); (focus rw [eh14.2 243 k (fun q => absurd q.1 (by decide)), eh12.2 243 k (fun q => absurd q.1 (by decide)), eh9.2 243 k (fun q => absurd q.1 (by decide)), eh8.2 243 k (fun q => absurd q.1 (by decide)), show hz 243 k = _ from Khz.2 243 k rfl])) (fun k => by rw [eh14.2 240 k (fun q => absurd q.1 (by decide)), eh12.2 240 k (fun q => absurd q.1 (by decide)), eh9.2 240 k (fun q => absurd q.1 (by decide)), eh8.at 240 k, show hz 240 k = _ from Khz.2 240 k rfl]; all_goals (try simp only [Nat.reduceEqDiff, false_and, if_false, true_and]); all_goals (by_cases q : (k : Int) = 60 * (1 - (b : Int)) + h0 233 (6 * (1 - (b : Int)) + w).toNat + i; (rw [if_pos (by first | omega -splitDisjunctions | ((repeat' apply And.intro) <;> omega -splitDisjunctions) | omega), if_pos q]); (rw [if_neg (by first | omega -splitDisjunctions | ((repeat' apply And.intro) <;> omega -splitDisjunctions) | omega), if_neg q]))) (fun k => by rw [eh14.2 241 k (fun q => absurd q.1 (by decide)), eh12.2 241 k (fun q => absurd q.1 (by decide)), eh9.at 241 k, eh8.2 241 k (fun q => absurd q.1 (by decide)), show hz 241 k = _ from Khz.2 241 k rfl]; all_goals (try simp only [Nat.reduceEqDiff, false_and, if_false, true_and]); all_goals (by_cases q : (k : Int) = 60 * (1 - (b : Int)) + h0 233 (6 * (1 - (b : Int)) + w).toNat + i; (rw [if_pos (by first | omega -splitDisjunctions | ((repeat' apply And.intro) <;> omega -splitDisjunctions) | omega), if_pos q]); (rw [if_neg (by first | omega -splitDisjunctions | ((repeat' apply And.intro) <;> omega -splitDisjunctions) | omega), if_neg q]))) (by first | omega -splitDisjunctions | ((repeat' apply And.intro) <;> omega -splitDisjunctions) | omega) ⟨by first | omega -splitDisjunctions | ((repeat' apply And.intro) <;> omega -splitDisjunctions) | omega, by first | omega -splitDisjunctions | ((repeat' apply And.intro) <;> omega -splitDisjunctions) | omega, jaq.1, jaq.2.1, jaq.2.2.1, jaq.2.2.2.1⟩ ⟨t_its.2.1, t_its.2.2.1, t_its.2.2.2.1, t_its.2.2.2.2⟩
    refine sx_callVi lk_X12_418 cl_12 s_224 (by decide) dX12_readItem_212 (vs := [_, _, _]) rfl rfl (Nat.le_of_ble_eq_true rfl) (Nat.le_of_ble_eq_true rfl) rfl (c_X12_look _ Ih14.1 b (rF h14 (1 - (b : Int)) w) (rS h14 (1 - (b : Int)) w) (rV h14 (1 - (b : Int)) w) i Hc Uc _ _ _ sN.symm vN.symm (by rw [eF]; unfold rF; omega) LIc tSc lkc (by rw [eF]; unfold rF; omega)) (fun x16 h15 ph15 => ?_)
    obtain ⟨Kh15, zc_h15, zl_h15, gp_h15⟩ := ph15
    have Ih15 := Ih14.tr Kh15 (prB_sub rfl rfl)
    have th15_224_3 := Kh15.2 224 3 rfl
    have th15_224_4 := Kh15.2 224 4 rfl
    have th15_224_7 := Kh15.2 224 7 rfl
    have th15_224_8 := Kh15.2 224 8 rfl
    have th15_224_37 := Kh15.2 224 37 rfl
    have th15_224_52 := Kh15.2 224 52 rfl
    have zl2 : imp _ _ := zl_h15
    clear zl_h15
    refine sx_istore dX12_readItem_215 (by decide) ?_
    have k52 : h15 224 52 = (1 - (b : Int)) := by have := hRI.1; omega
    have m228 : h15 228 (1 - (b : Int)).toNat = h0 228 (1 - (b : Int)).toNat + 1 := by have q := eh12.1; rw [eit2] at q; rw [show (h9 224 37).toNat = (1 - (b : Int)).toNat by omega] at q; rw [show h15 228 (1 - (b : Int)).toNat = _ from Kh15.2 228 _ rfl, eh14.2 228 _ (fun q => absurd q.1 (by decide))]; exact q
    have m234 : h15 234 (6 * (1 - (b : Int)) + w).toNat = h0 234 (6 * (1 - (b : Int)) + w).toNat + 1 := by have q := eh14.1; rw [emm, em] at q; rw [i1, show h15 234 (6 * (1 - (b : Int)) + w).toNat = _ from Kh15.2 234 _ rfl]; exact q
    have m233 : ∀ k, h14 233 k = h0 233 k := fun k => by rw [eh14.2 233 k (fun q => absurd q.1 (by decide)), eh12.2 233 k (fun q => absurd q.1 (by decide)), eh9.2 233 k (fun q => absurd q.1 (by decide)), eh8.2 233 k (fun q => absurd q.1 (by decide)), show hz 233 k = _ from Khz.2 233 k rfl]
    have i1 := hRI.2.1
    have RIL : imp (x16 = 0) (RI h15 (1 - (b : Int)) w (i + 1)) := fun z0 => RI_after (hc := h14) (by first | omega -splitDisjunctions | ((repeat' apply And.intro) <;> omega -splitDisjunctions) | omega) (by first | omega -splitDisjunctions | ((repeat' apply And.intro) <;> omega -splitDisjunctions) | omega) (by rw [m233]; omega) stc tSc ic sN vN k52 (by first | omega -splitDisjunctions | ((repeat' apply And.intro) <;> omega -splitDisjunctions) | omega) (by first | omega -splitDisjunctions | ((repeat' apply And.intro) <;> omega -splitDisjunctions) | omega) (by rw [m233]; omega) (fun a k q => by rcases q with rfl | rfl | rfl; exact Kh15.2 233 k rfl; exact Kh15.2 240 k rfl; exact Kh15.2 241 k rfl) gp_h15 (zl2 z0)
    refine sx_aload_n dX12_readItem_217 rfl ?_
    refine sx_getS (k := 26) (t := 242) cl_12 fl_X12_66 dX12_readItem_218 s_224 (by decide) rfl (by decide) ?_
    refine sx_iload dX12_readItem_221 rfl ?_
    refine sx_aload_n dX12_readItem_223 rfl ?_
    refine sx_getI (k := 53) cl_12 fl_X12_406 dX12_readItem_224 s_224 (by decide) rfl (by decide) ?_
    refine sy_iastore dX12_readItem_227 s_242 (by decide) (by decide) ⟨by first | omega -splitDisjunctions | ((repeat' apply And.intro) <;> omega -splitDisjunctions) | omega, by first | omega -splitDisjunctions | ((repeat' apply And.intro) <;> omega -splitDisjunctions) | omega⟩ (fun h17 eh17 => ?_)
    have Ih17 := Ih15.up eh17 trivial (decide_eq_false (np_60 (by first | omega -splitDisjunctions | ((repeat' apply And.intro) <;> omega -splitDisjunctions) | omega) hn5))
    have th17_224_3 := eh17.2 (224) 3 (fun q => absurd q.1 (by decide))
    have th17_224_4 := eh17.2 (224) 4 (fun q => absurd q.1 (by decide))
    have th17_224_7 := eh17.2 (224) 7 (fun q => absurd q.1 (by decide))
    have th17_224_8 := eh17.2 (224) 8 (fun q => absurd q.1 (by decide))
    have th17_224_37 := eh17.2 (224) 37 (fun q => absurd q.1 (by decide))
    have th17_224_52 := eh17.2 (224) 52 (fun q => absurd q.1 (by decide))
    have th17_224_53 := eh17.2 (224) 53 (fun q => absurd q.1 (by decide))
    have th17_224_54 := eh17.2 (224) 54 (fun q => absurd q.1 (by decide))
    have th17_224_55 := eh17.2 (224) 55 (fun q => absurd q.1 (by decide))
    have th17_224_56 := eh17.2 (224) 56 (fun q => absurd q.1 (by decide))
    have th17_224_57 := eh17.2 (224) 57 (fun q => absurd q.1 (by decide))
    have i1 := hRI.2.1
    have i4 := hRI.2.2.2.1
    have f233 : h17 233 (6 * (1 - (b : Int)) + w).toNat = h0 233 (6 * (1 - (b : Int)) + w).toNat := by rw [eh17.2 233 _ (fun q => absurd q.1 (by decide)), show h15 233 (6 * (1 - (b : Int)) + w).toNat = _ from Kh15.2 233 _ rfl, eh14.2 233 _ (fun q => absurd q.1 (by decide)), eh12.2 233 _ (fun q => absurd q.1 (by decide)), eh9.2 233 _ (fun q => absurd q.1 (by decide)), eh8.2 233 _ (fun q => absurd q.1 (by decide)), show hz 233 _ = _ from Khz.2 233 _ rfl]
    have RBF : RBx h17 (1 - (b : Int)) w (h17 233 (6 * (1 - (b : Int)) + w).toNat) := by rw [f233]; exact RBx_frame (by first | omega -splitDisjunctions | ((repeat' apply And.intro) <;> omega -splitDisjunctions) | omega) ⟨fun a k q1 q2 q3 q4 => by have q : a = 233 ∨ a = 234 ∨ a = 235 ∨ a = 236 ∨ a = 237 := (by first | omega -splitDisjunctions | ((repeat' apply And.intro) <;> omega -splitDisjunctions) | omega); rcases q with rfl | rfl | rfl | rfl | rfl; (focus (rw [eh17.2 233 k (fun q => absurd q.1 (by decide)), show h15 233 k = _ from Kh15.2 233 k rfl, eh14.2 233 k (fun q => absurd q.1 (by decide)), eh12.2 233 k (fun q => absurd q.1 (by decide)), eh9.2 233 k (fun q => absurd q.1 (by decide)), eh8.2 233 k (fun q => absurd q.1 (by decide)), show hz 233 k = _ from Khz.2 233 k rfl]; all_goals (try simp only [Nat.reduceEqDiff, false_and, if_false, true_and]); all_goals (first | rfl | rw [if_neg (by first | omega -splitDisjunctions | ((repeat' apply And.intro) <;> omega -splitDisjunctions) | omega)]))); (focus (rw [eh17.2 234 k (fun q => absurd q.1 (by decide)), show h15 234 k = _ from Kh15.2 234 k rfl, eh14.at 234 k, eh12.2 234 k (fun q => absurd q.1 (by decide)), eh9.2 234 k (fun q => absurd q.1 (by decide)), eh8.2 234 k (fun q => absurd q.1 (by decide)), show hz 234 k = _ from Khz.2 234 k rfl]; all_goals (try simp only [Nat.reduceEqDiff, false_and, if_false, true_and]); all_goals (first | rfl | rw [if_neg (by first | omega -splitDisjunctions | ((repeat' apply And.intro) <;> omega -splitDisjunctions) | omega)]))); (focus (rw [eh17.2 235 k (fun q => absurd q.1 (by decide)), show h15 235 k = _ from Kh15.2 235 k rfl, eh14.2 235 k (fun q => absurd q.1 (by decide)), eh12.2 235 k (fun q => absurd q.1 (by decide)), eh9.2 235 k (fun q => absurd q.1 (by decide)), eh8.2 235 k (fun q => absurd q.1 (by decide)), show hz 235 k = _ from Khz.2 235 k rfl]; all_goals (try simp only [Nat.reduceEqDiff, false_and, if_false, true_and]); all_goals (first | rfl | rw [if_neg (by first | omega -splitDisjunctions | ((repeat' apply And.intro) <;> omega -splitDisjunctions) | omega)]))); (focus (rw [eh17.2 236 k (fun q => absurd q.1 (by decide)), show h15 236 k = _ from Kh15.2 236 k rfl, eh14.2 236 k (fun q => absurd q.1 (by decide)), eh12.2 236 k (fun q => absurd q.1 (by decide)), eh9.2 236 k (fun q => absurd q.1 (by decide)), eh8.2 236 k (fun q => absurd q.1 (by decide)), show hz 236 k = _ from Khz.2 236 k rfl]; all_goals (try simp only [Nat.reduceEqDiff, false_and, if_false, true_and]); all_goals (first | rfl | rw [if_neg (by first | omega -splitDisjunctions | ((repeat' apply And.intro) <;> omega -splitDisjunctions) | omega)]))); (focus (rw [eh17.2 237 k (fun q => absurd q.1 (by decide)), show h15 237 k = _ from Kh15.2 237 k rfl, eh14.2 237 k (fun q => absurd q.1 (by decide)), eh12.2 237 k (fun q => absurd q.1 (by decide)), eh9.2 237 k (fun q => absurd q.1 (by decide)), eh8.2 237 k (fun q => absurd q.1 (by decide)), show hz 237 k = _ from Khz.2 237 k rfl]; all_goals (try simp only [Nat.reduceEqDiff, false_and, if_false, true_and]); all_goals (first | rfl | rw [if_neg (by first | omega -splitDisjunctions | ((repeat' apply And.intro) <;> omega -splitDisjunctions) | omega)]))), fun a k q q1 q2 => by rcases q with rfl | rfl | rfl; (focus (rw [eh17.2 240 k (fun q => absurd q.1 (by decide)), show h15 240 k = _ from Kh15.2 240 k rfl, eh14.2 240 k (fun q => absurd q.1 (by decide)), eh12.2 240 k (fun q => absurd q.1 (by decide)), eh9.2 240 k (fun q => absurd q.1 (by decide)), eh8.at 240 k, show hz 240 k = _ from Khz.2 240 k rfl]; all_goals (try simp only [Nat.reduceEqDiff, false_and, if_false, true_and]); all_goals (first | rfl | rw [if_neg (by first | omega -splitDisjunctions | ((repeat' apply And.intro) <;> omega -splitDisjunctions) | omega)]))); (focus (rw [eh17.2 241 k (fun q => absurd q.1 (by decide)), show h15 241 k = _ from Kh15.2 241 k rfl, eh14.2 241 k (fun q => absurd q.1 (by decide)), eh12.2 241 k (fun q => absurd q.1 (by decide)), eh9.at 241 k, eh8.2 241 k (fun q => absurd q.1 (by decide)), show hz 241 k = _ from Khz.2 241 k rfl]; all_goals (try simp only [Nat.reduceEqDiff, false_and, if_false, true_and]); all_goals (first | rfl | rw [if_neg (by first | omega -splitDisjunctions | ((repeat' apply And.intro) <;> omega -splitDisjunctions) | omega)]))); (focus (rw [eh17.2 243 k (fun q => absurd q.1 (by decide)), gp_h15.1 k (by rw [eF]; unfold rF; omega) (fun p r e q => by rw [eF]; unfold rF; omega), eh14.2 243 k (fun q => absurd q.1 (by decide)), eh12.2 243 k (fun q => absurd q.1 (by decide)), eh9.2 243 k (fun q => absurd q.1 (by decide)), eh8.2 243 k (fun q => absurd q.1 (by decide)), show hz 243 k = _ from Khz.2 243 k rfl]))⟩ hB
    refine sx_iload dX12_readItem_228 rfl ?_
    refine sx_if_le (tgt := 240) dX12_readItem_230 (by decide) (fun c18 => ?_) (fun c18 => ?_)
    ·
      refine sx_ret dX12_readItem_240 ?_
      exact ⟨rfl, ⟨Ih17, by first | omega -splitDisjunctions | ((repeat' apply And.intro) <;> omega -splitDisjunctions) | omega, by first | omega -splitDisjunctions | ((repeat' apply And.intro) <;> omega -splitDisjunctions) | omega, fun _ => ⟨RI_242 eh17 (RIL (by first | omega -splitDisjunctions | ((repeat' apply And.intro) <;> omega -splitDisjunctions) | omega)), RBF⟩⟩⟩
    ·
      refine sx_aload_n dX12_readItem_233 rfl ?_
      refine sx_iload dX12_readItem_234 rfl ?_
      refine sx_iload_n dX12_readItem_236 rfl ?_
      refine sx_callVv lk_X12_326 cl_12 s_224 (by decide) dX12_readItem_237 (vs := [_, _]) rfl rfl (Nat.le_of_ble_eq_true rfl) (Nat.le_of_ble_eq_true rfl) rfl (c_X12_fails _ Ih17.1 _ _ (by first | omega -splitDisjunctions | ((repeat' apply And.intro) <;> omega -splitDisjunctions) | omega)) (fun h19 ph19 => ?_)
      obtain ⟨Kh19, g_h19⟩ := ph19
      have Ih19 := Ih17.tr Kh19 (prBW_sub rfl rfl rfl)
      have th19_224_3 := Kh19.2 224 3 rfl
      have th19_224_7 := Kh19.2 224 7 rfl
      have th19_224_8 := Kh19.2 224 8 rfl
      have th19_224_37 := Kh19.2 224 37 rfl
      have th19_224_52 := Kh19.2 224 52 rfl
      have th19_224_53 := Kh19.2 224 53 rfl
      have th19_224_54 := Kh19.2 224 54 rfl
      have th19_224_55 := Kh19.2 224 55 rfl
      have th19_224_56 := Kh19.2 224 56 rfl
      have th19_224_57 := Kh19.2 224 57 rfl
      refine sx_ret dX12_readItem_240 ?_
      exact ⟨rfl, ⟨Ih19, by first | omega -splitDisjunctions | ((repeat' apply And.intro) <;> omega -splitDisjunctions) | omega, by first | omega -splitDisjunctions | ((repeat' apply And.intro) <;> omega -splitDisjunctions) | omega, fun q => by exfalso; omega⟩⟩
  ·
    replace p_x2 := mt p_x2.mpr (show ¬ (x2 = 1) by rw [c3]; decide)
    clear zx2
    refine sx_ret dX12_readItem_146 ?_
    exact ⟨rfl, ⟨Ihz, by first | omega -splitDisjunctions | ((repeat' apply And.intro) <;> omega -splitDisjunctions) | omega, by first | omega -splitDisjunctions | ((repeat' apply And.intro) <;> omega -splitDisjunctions) | omega, fun q => by exfalso; omega⟩⟩
set_option maxRecDepth 20000 in
set_option maxHeartbeats 4000000 in
theorem c_X12_readItem {G : sw_G} (d : Nat) {h0 : sw_H} (hJ : mI h0) (b : Nat) (w : Int) (i : Nat) (y1 : Int) (hr : h0 224 37 = 1 - (b : Int) ∧ b ≤ 1) (ht : h0 224 7 ≤ h0 224 3 ∧ (h0 224 8 = 0 → h0 224 7 = h0 224 3)) (hg : h0 224 4 = 0) (hy : y1 = 6 * (1 - (b : Int)) + w) (hw : 0 ≤ w ∧ w < 6 ∧ h0 227 (1 - (b : Int)).toNat = w) (hRI : RI h0 (1 - (b : Int)) w i) (hB : RBx h0 (1 - (b : Int)) w (h0 233 (6 * (1 - (b : Int)) + w).toNat))  : sw_E G NH SH (d + 4) mX12_readItem 0 [some (sw_r 224), some (sw_i y1), none, none, none, none, none] [] h0 (sw_Qv (fun h' => mK (prB b [4, 5, 6, 7, 8, 9, 10, 53, 54, 55, 56, 57, 58] [228, 234, 240, 241, 242, 243, 252, 253, 254, 255, 256, 257, 258, 259, 260]) h0 h' ∧ (h' 224 7 ≤ h' 224 3 ∧ (h' 224 8 = 0 → h' 224 7 = h' 224 3)) ∧ (h0 224 7 ≤ h' 224 7 ∧ (h0 224 8 = 0 → h' 224 8 = 0)) ∧ (imp (h' 224 4 = 0) (RI h' (1 - (b : Int)) w (i + 1) ∧ RBx h' (1 - (b : Int)) w (h' 233 (6 * (1 - (b : Int)) + w).toNat))))) := by
  have hI : mK (prB b [4, 5, 6, 7, 8, 9, 10, 53, 54, 55, 56, 57, 58] [228, 234, 240, 241, 242, 243, 252, 253, 254, 255, 256, 257, 258, 259, 260]) h0 h0 := mK.refl hJ
  have i1 := hRI.2.1
  have i3 := hRI.2.2.1
  have i4 := hRI.2.2.2.1
  have i5 := hRI.2.2.2.2.1
  have i6 := hRI.2.2.2.2.2.1
  have ho4 : 0 ≤ h0 224 55 ∧ h0 224 55 ≤ 4 := by obtain ⟨-, -, -, -, -, -, -, Hq, Uq, hq⟩ := hRI; have q1 := hq.2.2.2.2.2.2.2.2.1; have q2 := hq.2.2.2.2.2.2.2.2.2.1; omega
  have em : y1.toNat = (6 * (1 - (b : Int)) + w).toNat := by first | omega -splitDisjunctions | ((repeat' apply And.intro) <;> omega -splitDisjunctions) | omega
  have e37 : (h0 224 37).toNat = (1 - (b : Int)).toNat := by first | omega -splitDisjunctions | ((repeat' apply And.intro) <;> omega -splitDisjunctions) | omega
  have n0 : 0 ≤ h0 224 9 ∧ h0 224 9 ≤ 9999 := hI.1 224 9
  refine sx_aload_n dX12_readItem_0 rfl ?_
  refine sx_callVi lk_X12_415 cl_12 s_224 (by decide) dX12_readItem_1 (vs := []) rfl rfl (Nat.le_of_ble_eq_true rfl) (Nat.le_of_ble_eq_true rfl) rfl (c_X12_sortHere _ hI.1 (by first | omega -splitDisjunctions | ((repeat' apply And.intro) <;> omega -splitDisjunctions) | omega)) (fun x2 h1 ph1 => ?_)
  obtain ⟨rfl, s_x2, t_x2, u_x2⟩ := ph1
  refine sx_istore_n dX12_readItem_4 (by decide) ?_
  refine sx_aload_n dX12_readItem_5 rfl ?_
  refine sx_getI (k := 6) cl_12 fl_X12_295 dX12_readItem_6 s_224 (by decide) rfl (by decide) ?_
  have r3 : (0 : Int) ≤ h0 224 6 ∧ h0 224 6 ≤ 1700 := hI.1 224 6
  refine sy_top (fun v4 ev4 => ?_)
  refine sx_istore_n dX12_readItem_9 (by decide) ?_
  refine sx_iload_n dX12_readItem_10 rfl ?_
  refine sx_if_lt (tgt := 39) dX12_readItem_11 (by decide) (fun c5 => ?_) (fun c5 => ?_)
  ·
    refine sx_aload_n dX12_readItem_39 rfl ?_
    refine sx_callVv lk_X12_337 cl_12 s_224 (by decide) dX12_readItem_40 (vs := []) rfl rfl (Nat.le_of_ble_eq_true rfl) (Nat.le_of_ble_eq_true rfl) rfl (c_X12_misplaced _ hI.1) (fun h6 ph6 => ?_)
    obtain ⟨Kh6, g_h6⟩ := ph6
    have Ih6 := hI.tr Kh6 (prBW_sub rfl rfl rfl)
    have th6_224_3 := Kh6.2 224 3 rfl
    have th6_224_7 := Kh6.2 224 7 rfl
    have th6_224_8 := Kh6.2 224 8 rfl
    have th6_224_37 := Kh6.2 224 37 rfl
    have th6_224_55 := Kh6.2 224 55 rfl
    refine sx_aload_n dX12_readItem_43 rfl ?_
    refine sx_callVz lk_X12_330 cl_12 s_224 (by decide) dX12_readItem_44 (vs := []) rfl rfl (Nat.le_of_ble_eq_true rfl) (Nat.le_of_ble_eq_true rfl) rfl (c_X12_isGood _ Ih6.1) (fun x9 h8 zx9 ph8 => ?_)
    obtain ⟨rfl, p_x9⟩ := ph8
    refine sx_if_eq (tgt := 71) dX12_readItem_47 (by decide) (fun c10 => ?_) (fun c10 => ?_)
    ·
      replace p_x9 := mt p_x9.mpr (show ¬ (x9 = 1) by rw [c10]; decide)
      clear zx9
      refine sx_aload_n dX12_readItem_71 rfl ?_
      refine sx_callVz lk_X12_330 cl_12 s_224 (by decide) dX12_readItem_72 (vs := []) rfl rfl (Nat.le_of_ble_eq_true rfl) (Nat.le_of_ble_eq_true rfl) rfl (c_X12_isGood _ Ih6.1) (fun x12 h11 zx12 ph11 => ?_)
      obtain ⟨rfl, p_x12⟩ := ph11
      refine sx_if_ne (tgt := 79) dX12_readItem_75 (by decide) (fun c13 => ?_) (fun c13 => ?_)
      ·
        exfalso; omega
      ·
        replace p_x12 := mt p_x12.mpr (show ¬ (x12 = 1) by rw [c13]; decide)
        clear zx12
        refine sx_ret dX12_readItem_78 ?_
        exact ⟨rfl, ⟨Ih6, by first | omega -splitDisjunctions | ((repeat' apply And.intro) <;> omega -splitDisjunctions) | omega, by first | omega -splitDisjunctions | ((repeat' apply And.intro) <;> omega -splitDisjunctions) | omega, fun q => by exfalso; omega⟩⟩
    ·
      exfalso; omega
  ·
    refine sx_aload_n dX12_readItem_14 rfl ?_
    refine sx_getS (k := 18) (t := 234) cl_12 fl_X12_42 dX12_readItem_15 s_224 (by decide) rfl (by decide) ?_
    refine sx_iload_n dX12_readItem_18 rfl ?_
    refine sy_iaF (F := fun z => (0 : Int) ≤ z ∧ z ≤ 20) dX12_readItem_19 s_234 (by decide) (by decide) ⟨by first | omega -splitDisjunctions | ((repeat' apply And.intro) <;> omega -splitDisjunctions) | omega, by first | omega -splitDisjunctions | ((repeat' apply And.intro) <;> omega -splitDisjunctions) | omega⟩ (hI.1 234 _) (fun r14 => ?_)
    have em2 : h0 234 y1.toNat = i := by rw [em]; exact i1
    refine sx_bipush dX12_readItem_20 ⟨by decide, by decide, by decide⟩ ?_
    refine sx_icmp_eq (tgt := 39) dX12_readItem_22 (by decide) (fun c15 => ?_) (fun c15 => ?_)
    ·
      refine sx_aload_n dX12_readItem_39 rfl ?_
      refine sx_callVv lk_X12_337 cl_12 s_224 (by decide) dX12_readItem_40 (vs := []) rfl rfl (Nat.le_of_ble_eq_true rfl) (Nat.le_of_ble_eq_true rfl) rfl (c_X12_misplaced _ hI.1) (fun h16 ph16 => ?_)
      obtain ⟨Kh16, g_h16⟩ := ph16
      have Ih16 := hI.tr Kh16 (prBW_sub rfl rfl rfl)
      have th16_224_3 := Kh16.2 224 3 rfl
      have th16_224_7 := Kh16.2 224 7 rfl
      have th16_224_8 := Kh16.2 224 8 rfl
      have th16_224_37 := Kh16.2 224 37 rfl
      have th16_224_55 := Kh16.2 224 55 rfl
      refine sx_aload_n dX12_readItem_43 rfl ?_
      refine sx_callVz lk_X12_330 cl_12 s_224 (by decide) dX12_readItem_44 (vs := []) rfl rfl (Nat.le_of_ble_eq_true rfl) (Nat.le_of_ble_eq_true rfl) rfl (c_X12_isGood _ Ih16.1) (fun x19 h18 zx19 ph18 => ?_)
      obtain ⟨rfl, p_x19⟩ := ph18
      refine sx_if_eq (tgt := 71) dX12_readItem_47 (by decide) (fun c20 => ?_) (fun c20 => ?_)
      ·
        replace p_x19 := mt p_x19.mpr (show ¬ (x19 = 1) by rw [c20]; decide)
        clear zx19
        refine sx_aload_n dX12_readItem_71 rfl ?_
        refine sx_callVz lk_X12_330 cl_12 s_224 (by decide) dX12_readItem_72 (vs := []) rfl rfl (Nat.le_of_ble_eq_true rfl) (Nat.le_of_ble_eq_true rfl) rfl (c_X12_isGood _ Ih16.1) (fun x22 h21 zx22 ph21 => ?_)
        obtain ⟨rfl, p_x22⟩ := ph21
        refine sx_if_ne (tgt := 79) dX12_readItem_75 (by decide) (fun c23 => ?_) (fun c23 => ?_)
        ·
          exfalso; omega
        ·
          replace p_x22 := mt p_x22.mpr (show ¬ (x22 = 1) by rw [c23]; decide)
          clear zx22
          refine sx_ret dX12_readItem_78 ?_
          exact ⟨rfl, ⟨Ih16, by first | omega -splitDisjunctions | ((repeat' apply And.intro) <;> omega -splitDisjunctions) | omega, by first | omega -splitDisjunctions | ((repeat' apply And.intro) <;> omega -splitDisjunctions) | omega, fun q => by exfalso; omega⟩⟩
      ·
        exfalso; omega
    ·
      refine sx_aload_n dX12_readItem_25 rfl ?_
      refine sx_getS (k := 12) (t := 228) cl_12 fl_X12_24 dX12_readItem_26 s_224 (by decide) rfl (by decide) ?_
      refine sx_aload_n dX12_readItem_29 rfl ?_
      refine sx_getI (k := 37) cl_12 fl_X12_340 dX12_readItem_30 s_224 (by decide) rfl (by decide) ?_
      have r24 : (0 : Int) ≤ h0 224 37 ∧ h0 224 37 ≤ 1 := hI.1 224 37
      refine sy_iaF (F := fun z => (0 : Int) ≤ z ∧ z ≤ 60) dX12_readItem_33 s_228 (by decide) (by decide) ⟨by first | omega -splitDisjunctions | ((repeat' apply And.intro) <;> omega -splitDisjunctions) | omega, by first | omega -splitDisjunctions | ((repeat' apply And.intro) <;> omega -splitDisjunctions) | omega⟩ (hI.1 228 _) (fun r25 => ?_)
      have em3 : h0 228 (h0 224 37).toNat = h0 228 (1 - (b : Int)).toNat := by rw [e37]
      refine sx_bipush dX12_readItem_34 ⟨by decide, by decide, by decide⟩ ?_
      refine sx_icmp_ne (tgt := 43) dX12_readItem_36 (by decide) (fun c26 => ?_) (fun c26 => ?_)
      ·
        refine sx_aload_n dX12_readItem_43 rfl ?_
        refine sx_callVz lk_X12_330 cl_12 s_224 (by decide) dX12_readItem_44 (vs := []) rfl rfl (Nat.le_of_ble_eq_true rfl) (Nat.le_of_ble_eq_true rfl) rfl (c_X12_isGood _ hI.1) (fun x28 h27 zx28 ph27 => ?_)
        obtain ⟨rfl, p_x28⟩ := ph27
        refine sx_if_eq (tgt := 71) dX12_readItem_47 (by decide) (fun c29 => ?_) (fun c29 => ?_)
        ·
          replace p_x28 := mt p_x28.mpr (show ¬ (x28 = 1) by rw [c29]; decide)
          clear zx28
          refine sx_aload_n dX12_readItem_71 rfl ?_
          refine sx_callVz lk_X12_330 cl_12 s_224 (by decide) dX12_readItem_72 (vs := []) rfl rfl (Nat.le_of_ble_eq_true rfl) (Nat.le_of_ble_eq_true rfl) rfl (c_X12_isGood _ hI.1) (fun x31 h30 zx31 ph30 => ?_)
          obtain ⟨rfl, p_x31⟩ := ph30
          refine sx_if_ne (tgt := 79) dX12_readItem_75 (by decide) (fun c32 => ?_) (fun c32 => ?_)
          ·
            exfalso; omega
          ·
            replace p_x31 := mt p_x31.mpr (show ¬ (x31 = 1) by rw [c32]; decide)
            clear zx31
            refine sx_ret dX12_readItem_78 ?_
            exact ⟨rfl, ⟨hI, by first | omega -splitDisjunctions | ((repeat' apply And.intro) <;> omega -splitDisjunctions) | omega, by first | omega -splitDisjunctions | ((repeat' apply And.intro) <;> omega -splitDisjunctions) | omega, fun q => by exfalso; omega⟩⟩
        ·
          have vx28 : x28 = 1 := by rcases zx28 with q | q; (exact absurd q c29); exact q
          replace p_x28 := p_x28.mp vx28
          clear zx28
          refine sx_iload_n dX12_readItem_50 rfl ?_
          refine sx_iconst dX12_readItem_51 ⟨by decide, by decide⟩ ?_
          refine sx_icmp_ne (tgt := 71) dX12_readItem_52 (by decide) (fun c33 => ?_) (fun c33 => ?_)
          ·
            refine sx_aload_n dX12_readItem_71 rfl ?_
            refine sx_callVz lk_X12_330 cl_12 s_224 (by decide) dX12_readItem_72 (vs := []) rfl rfl (Nat.le_of_ble_eq_true rfl) (Nat.le_of_ble_eq_true rfl) rfl (c_X12_isGood _ hI.1) (fun x35 h34 zx35 ph34 => ?_)
            obtain ⟨rfl, p_x35⟩ := ph34
            refine sx_if_ne (tgt := 79) dX12_readItem_75 (by decide) (fun c36 => ?_) (fun c36 => ?_)
            ·
              have vx35 : x35 = 1 := by rcases zx35 with q | q; (exact absurd q c36); exact q
              replace p_x35 := p_x35.mp vx35
              clear zx35
              have J120_n37 : ∀ (ar : Int) , (arP x2 ar w) → sw_E G NH SH (d + 4) mX12_readItem 120 [some (sw_r 224), some (sw_i y1), some (sw_i x2), some (sw_i v4), some (sw_i ar), none, none] [] h0 (sw_Qv (fun h' => mK (prB b [4, 5, 6, 7, 8, 9, 10, 53, 54, 55, 56, 57, 58] [228, 234, 240, 241, 242, 243, 252, 253, 254, 255, 256, 257, 258, 259, 260]) h0 h' ∧ (h' 224 7 ≤ h' 224 3 ∧ (h' 224 8 = 0 → h' 224 7 = h' 224 3)) ∧ (h0 224 7 ≤ h' 224 7 ∧ (h0 224 8 = 0 → h' 224 8 = 0)) ∧ (imp (h' 224 4 = 0) (RI h' (1 - (b : Int)) w (i + 1) ∧ RBx h' (1 - (b : Int)) w (h' 233 (6 * (1 - (b : Int)) + w).toNat))))) := by
                intro ar_38 jar
                refine sx_aload_n dX12_readItem_120 rfl ?_
                refine sx_callVv lk_X12_334 cl_12 s_224 (by decide) dX12_readItem_121 (vs := []) rfl rfl (Nat.le_of_ble_eq_true rfl) (Nat.le_of_ble_eq_true rfl) rfl (c_X12_goOn _ hI.1 (by first | omega -splitDisjunctions | ((repeat' apply And.intro) <;> omega -splitDisjunctions) | omega)) (fun h39 ph39 => ?_)
                obtain ⟨Kh39, a_h39, s_h39, l_h39⟩ := ph39
                have Ih39 := hI.tr Kh39 (prBW_sub rfl rfl rfl)
                have th39_224_3 := Kh39.2 224 3 rfl
                have th39_224_4 := Kh39.2 224 4 rfl
                have th39_224_37 := Kh39.2 224 37 rfl
                have th39_224_55 := Kh39.2 224 55 rfl
                refine sx_iload_n dX12_readItem_124 rfl ?_
                refine sx_bipush dX12_readItem_125 ⟨by decide, by decide, by decide⟩ ?_
                refine sx_icmp_ne (tgt := 139) dX12_readItem_127 (by decide) (fun c41 => ?_) (fun c41 => ?_)
                ·
                  exact rt_readItem d hJ b Ih39 w i y1 x2 v4 ar_38 (mK.tr (mK.refl hJ) Kh39 (prW_sub rfl rfl)) hr (by first | omega -splitDisjunctions | ((repeat' apply And.intro) <;> omega -splitDisjunctions) | omega) (by first | omega -splitDisjunctions | ((repeat' apply And.intro) <;> omega -splitDisjunctions) | omega) (by first | (unfold arQ; exact ⟨fun q => by omega, fun q => by omega, fun q => by omega, fun q => by omega, by first | omega -splitDisjunctions | ((repeat' apply And.intro) <;> omega -splitDisjunctions) | omega, by first | omega -splitDisjunctions | ((repeat' apply And.intro) <;> omega -splitDisjunctions) | omega⟩) | (unfold arQ; unfold arP at jar; exact ⟨jar.1, fun q => (jar.2.1 q).1, jar.2.2.1, fun q => by omega, by first | omega -splitDisjunctions | ((repeat' apply And.intro) <;> omega -splitDisjunctions) | omega, by first | omega -splitDisjunctions | ((repeat' apply And.intro) <;> omega -splitDisjunctions) | omega⟩)) (by first | omega -splitDisjunctions | ((repeat' apply And.intro) <;> omega -splitDisjunctions) | omega) t_x2 hy (by first | omega -splitDisjunctions | ((repeat' apply And.intro) <;> omega -splitDisjunctions) | omega) hRI hB (by first | omega -splitDisjunctions | ((repeat' apply And.intro) <;> omega -splitDisjunctions) | omega) (by first | omega -splitDisjunctions | ((repeat' apply And.intro) <;> omega -splitDisjunctions) | omega)
                ·
                  refine sx_aload_n dX12_readItem_130 rfl ?_
                  refine sx_iconst dX12_readItem_131 ⟨by decide, by decide⟩ ?_
                  refine sx_bipush dX12_readItem_132 ⟨by decide, by decide, by decide⟩ ?_
                  refine sx_callVi lk_X12_362 cl_12 s_224 (by decide) dX12_readItem_134 (vs := [_, _]) rfl rfl (Nat.le_of_ble_eq_true rfl) (Nat.le_of_ble_eq_true rfl) rfl (c_X12_numeral _ Ih39.1 _ _ (by first | omega -splitDisjunctions | ((repeat' apply And.intro) <;> omega -splitDisjunctions) | omega) (by decide)) (fun x43 h42 ph42 => ?_)
                  obtain ⟨Kh42, a_h42, m_h42, g_h42, v_h42⟩ := ph42
                  have Ih42 := Ih39.tr Kh42 (prBW_sub rfl rfl rfl)
                  have th42_224_3 := Kh42.2 224 3 rfl
                  have th42_224_37 := Kh42.2 224 37 rfl
                  have th42_224_55 := Kh42.2 224 55 rfl
                  refine sx_istore dX12_readItem_137 (by decide) ?_
                  exact rt_readItem d hJ b Ih42 w i y1 x2 v4 x43 (mK.tr (mK.tr (mK.refl hJ) Kh39 (prW_sub rfl rfl)) Kh42 (prW_sub rfl rfl)) hr (by first | omega -splitDisjunctions | ((repeat' apply And.intro) <;> omega -splitDisjunctions) | omega) (by first | omega -splitDisjunctions | ((repeat' apply And.intro) <;> omega -splitDisjunctions) | omega) (by first | (unfold arQ; exact ⟨fun q => by omega, fun q => by omega, fun q => by omega, fun q => by omega, by first | omega -splitDisjunctions | ((repeat' apply And.intro) <;> omega -splitDisjunctions) | omega, by first | omega -splitDisjunctions | ((repeat' apply And.intro) <;> omega -splitDisjunctions) | omega⟩) | (unfold arQ; unfold arP at jar; exact ⟨jar.1, fun q => (jar.2.1 q).1, jar.2.2.1, fun q => by omega, by first | omega -splitDisjunctions | ((repeat' apply And.intro) <;> omega -splitDisjunctions) | omega, by first | omega -splitDisjunctions | ((repeat' apply And.intro) <;> omega -splitDisjunctions) | omega⟩)) (by first | omega -splitDisjunctions | ((repeat' apply And.intro) <;> omega -splitDisjunctions) | omega) t_x2 hy (by first | omega -splitDisjunctions | ((repeat' apply And.intro) <;> omega -splitDisjunctions) | omega) hRI hB (by first | omega -splitDisjunctions | ((repeat' apply And.intro) <;> omega -splitDisjunctions) | omega) (by first | omega -splitDisjunctions | ((repeat' apply And.intro) <;> omega -splitDisjunctions) | omega)
              refine sx_iload_n dX12_readItem_79 rfl ?_
              refine sx_if_ne (tgt := 93) dX12_readItem_80 (by decide) (fun c44 => ?_) (fun c44 => ?_)
              ·
                refine sx_iload_n dX12_readItem_93 rfl ?_
                refine sx_iconst dX12_readItem_94 ⟨by decide, by decide⟩ ?_
                refine sx_icmp_ne (tgt := 105) dX12_readItem_95 (by decide) (fun c45 => ?_) (fun c45 => ?_)
                ·
                  refine sx_iload_n dX12_readItem_105 rfl ?_
                  refine sx_iconst dX12_readItem_106 ⟨by decide, by decide⟩ ?_
                  refine sx_icmp_ne (tgt := 117) dX12_readItem_107 (by decide) (fun c46 => ?_) (fun c46 => ?_)
                  ·
                    refine sx_iconst dX12_readItem_117 ⟨by decide, by decide⟩ ?_
                    refine sx_istore dX12_readItem_118 (by decide) ?_
                    exact J120_n37 _ (by (unfold arP; omega))
                  ·
                    exfalso; omega
                ·
                  refine sx_aload_n dX12_readItem_98 rfl ?_
                  refine sx_getI (k := 9) cl_12 fl_X12_320 dX12_readItem_99 s_224 (by decide) rfl (by decide) ?_
                  have r47 : (0 : Int) ≤ h0 224 9 ∧ h0 224 9 ≤ 9999 := hI.1 224 9
                  refine sx_goto (tgt := 118) dX12_readItem_102 (by decide) ?_
                  refine sy_top (fun v48 ev48 => ?_)
                  refine sx_istore dX12_readItem_118 (by decide) ?_
                  exact J120_n37 _ (by (unfold arP; omega))
              ·
                refine sx_aload_n dX12_readItem_83 rfl ?_
                refine sx_getL (k := 10) cl_12 fl_X12_309 dX12_readItem_84 s_224 (by decide) rfl (by decide) ?_
                refine sx_callSi lk_X12_258 dX12_readItem_87 (vs := [_]) rfl rfl (Nat.le_of_ble_eq_true rfl) (Nat.le_of_ble_eq_true rfl) rfl (c_X12_thingOf _ hI.1 _) (fun x50 h49 ph49 => ?_)
                obtain ⟨rfl, p_x50⟩ := ph49
                have hq4 := t_x2.1 (by first | omega -splitDisjunctions | ((repeat' apply And.intro) <;> omega -splitDisjunctions) | omega)
                obtain ⟨hq5, -, hq6⟩ := p_x50
                rw [← hq5] at hq4
                refine sx_goto (tgt := 118) dX12_readItem_90 (by decide) ?_
                refine sx_istore dX12_readItem_118 (by decide) ?_
                exact J120_n37 _ (by (unfold arP; omega))
            ·
              exfalso; omega
          ·
            refine sx_aload_n dX12_readItem_55 rfl ?_
            refine sx_callVi lk_X12_386 cl_12 s_224 (by decide) dX12_readItem_56 (vs := []) rfl rfl (Nat.le_of_ble_eq_true rfl) (Nat.le_of_ble_eq_true rfl) rfl (c_X12_here _ hI.1) (fun x52 h51 ph51 => ?_)
            obtain ⟨rfl, p_x52, a_x52, b_x52⟩ := ph51
            have he1 := And.intro p_x52 (And.intro a_x52 b_x52)
            rw [e37] at he1
            refine sx_if_ge (tgt := 71) dX12_readItem_59 (by decide) (fun c53 => ?_) (fun c53 => ?_)
            ·
              refine sx_aload_n dX12_readItem_71 rfl ?_
              refine sx_callVz lk_X12_330 cl_12 s_224 (by decide) dX12_readItem_72 (vs := []) rfl rfl (Nat.le_of_ble_eq_true rfl) (Nat.le_of_ble_eq_true rfl) rfl (c_X12_isGood _ hI.1) (fun x55 h54 zx55 ph54 => ?_)
              obtain ⟨rfl, p_x55⟩ := ph54
              refine sx_if_ne (tgt := 79) dX12_readItem_75 (by decide) (fun c56 => ?_) (fun c56 => ?_)
              ·
                have vx55 : x55 = 1 := by rcases zx55 with q | q; (exact absurd q c56); exact q
                replace p_x55 := p_x55.mp vx55
                clear zx55
                have J120_n57 : ∀ (ar : Int) , (arP x2 ar w) → sw_E G NH SH (d + 4) mX12_readItem 120 [some (sw_r 224), some (sw_i y1), some (sw_i x2), some (sw_i v4), some (sw_i ar), none, none] [] h0 (sw_Qv (fun h' => mK (prB b [4, 5, 6, 7, 8, 9, 10, 53, 54, 55, 56, 57, 58] [228, 234, 240, 241, 242, 243, 252, 253, 254, 255, 256, 257, 258, 259, 260]) h0 h' ∧ (h' 224 7 ≤ h' 224 3 ∧ (h' 224 8 = 0 → h' 224 7 = h' 224 3)) ∧ (h0 224 7 ≤ h' 224 7 ∧ (h0 224 8 = 0 → h' 224 8 = 0)) ∧ (imp (h' 224 4 = 0) (RI h' (1 - (b : Int)) w (i + 1) ∧ RBx h' (1 - (b : Int)) w (h' 233 (6 * (1 - (b : Int)) + w).toNat))))) := by
                  intro ar_58 jar
                  refine sx_aload_n dX12_readItem_120 rfl ?_
                  refine sx_callVv lk_X12_334 cl_12 s_224 (by decide) dX12_readItem_121 (vs := []) rfl rfl (Nat.le_of_ble_eq_true rfl) (Nat.le_of_ble_eq_true rfl) rfl (c_X12_goOn _ hI.1 (by first | omega -splitDisjunctions | ((repeat' apply And.intro) <;> omega -splitDisjunctions) | omega)) (fun h59 ph59 => ?_)
                  obtain ⟨Kh59, a_h59, s_h59, l_h59⟩ := ph59
                  have Ih59 := hI.tr Kh59 (prBW_sub rfl rfl rfl)
                  have th59_224_3 := Kh59.2 224 3 rfl
                  have th59_224_4 := Kh59.2 224 4 rfl
                  have th59_224_37 := Kh59.2 224 37 rfl
                  have th59_224_55 := Kh59.2 224 55 rfl
                  refine sx_iload_n dX12_readItem_124 rfl ?_
                  refine sx_bipush dX12_readItem_125 ⟨by decide, by decide, by decide⟩ ?_
                  refine sx_icmp_ne (tgt := 139) dX12_readItem_127 (by decide) (fun c61 => ?_) (fun c61 => ?_)
                  ·
                    exact rt_readItem d hJ b Ih59 w i y1 x2 v4 ar_58 (mK.tr (mK.refl hJ) Kh59 (prW_sub rfl rfl)) hr (by first | omega -splitDisjunctions | ((repeat' apply And.intro) <;> omega -splitDisjunctions) | omega) (by first | omega -splitDisjunctions | ((repeat' apply And.intro) <;> omega -splitDisjunctions) | omega) (by first | (unfold arQ; exact ⟨fun q => by omega, fun q => by omega, fun q => by omega, fun q => by omega, by first | omega -splitDisjunctions | ((repeat' apply And.intro) <;> omega -splitDisjunctions) | omega, by first | omega -splitDisjunctions | ((repeat' apply And.intro) <;> omega -splitDisjunctions) | omega⟩) | (unfold arQ; unfold arP at jar; exact ⟨jar.1, fun q => (jar.2.1 q).1, jar.2.2.1, fun q => by omega, by first | omega -splitDisjunctions | ((repeat' apply And.intro) <;> omega -splitDisjunctions) | omega, by first | omega -splitDisjunctions | ((repeat' apply And.intro) <;> omega -splitDisjunctions) | omega⟩)) (by first | omega -splitDisjunctions | ((repeat' apply And.intro) <;> omega -splitDisjunctions) | omega) t_x2 hy (by first | omega -splitDisjunctions | ((repeat' apply And.intro) <;> omega -splitDisjunctions) | omega) hRI hB (by first | omega -splitDisjunctions | ((repeat' apply And.intro) <;> omega -splitDisjunctions) | omega) (by first | omega -splitDisjunctions | ((repeat' apply And.intro) <;> omega -splitDisjunctions) | omega)
                  ·
                    refine sx_aload_n dX12_readItem_130 rfl ?_
                    refine sx_iconst dX12_readItem_131 ⟨by decide, by decide⟩ ?_
                    refine sx_bipush dX12_readItem_132 ⟨by decide, by decide, by decide⟩ ?_
                    refine sx_callVi lk_X12_362 cl_12 s_224 (by decide) dX12_readItem_134 (vs := [_, _]) rfl rfl (Nat.le_of_ble_eq_true rfl) (Nat.le_of_ble_eq_true rfl) rfl (c_X12_numeral _ Ih59.1 _ _ (by first | omega -splitDisjunctions | ((repeat' apply And.intro) <;> omega -splitDisjunctions) | omega) (by decide)) (fun x63 h62 ph62 => ?_)
                    obtain ⟨Kh62, a_h62, m_h62, g_h62, v_h62⟩ := ph62
                    have Ih62 := Ih59.tr Kh62 (prBW_sub rfl rfl rfl)
                    have th62_224_3 := Kh62.2 224 3 rfl
                    have th62_224_37 := Kh62.2 224 37 rfl
                    have th62_224_55 := Kh62.2 224 55 rfl
                    refine sx_istore dX12_readItem_137 (by decide) ?_
                    exact rt_readItem d hJ b Ih62 w i y1 x2 v4 x63 (mK.tr (mK.tr (mK.refl hJ) Kh59 (prW_sub rfl rfl)) Kh62 (prW_sub rfl rfl)) hr (by first | omega -splitDisjunctions | ((repeat' apply And.intro) <;> omega -splitDisjunctions) | omega) (by first | omega -splitDisjunctions | ((repeat' apply And.intro) <;> omega -splitDisjunctions) | omega) (by first | (unfold arQ; exact ⟨fun q => by omega, fun q => by omega, fun q => by omega, fun q => by omega, by first | omega -splitDisjunctions | ((repeat' apply And.intro) <;> omega -splitDisjunctions) | omega, by first | omega -splitDisjunctions | ((repeat' apply And.intro) <;> omega -splitDisjunctions) | omega⟩) | (unfold arQ; unfold arP at jar; exact ⟨jar.1, fun q => (jar.2.1 q).1, jar.2.2.1, fun q => by omega, by first | omega -splitDisjunctions | ((repeat' apply And.intro) <;> omega -splitDisjunctions) | omega, by first | omega -splitDisjunctions | ((repeat' apply And.intro) <;> omega -splitDisjunctions) | omega⟩)) (by first | omega -splitDisjunctions | ((repeat' apply And.intro) <;> omega -splitDisjunctions) | omega) t_x2 hy (by first | omega -splitDisjunctions | ((repeat' apply And.intro) <;> omega -splitDisjunctions) | omega) hRI hB (by first | omega -splitDisjunctions | ((repeat' apply And.intro) <;> omega -splitDisjunctions) | omega) (by first | omega -splitDisjunctions | ((repeat' apply And.intro) <;> omega -splitDisjunctions) | omega)
                refine sx_iload_n dX12_readItem_79 rfl ?_
                refine sx_if_ne (tgt := 93) dX12_readItem_80 (by decide) (fun c64 => ?_) (fun c64 => ?_)
                ·
                  refine sx_iload_n dX12_readItem_93 rfl ?_
                  refine sx_iconst dX12_readItem_94 ⟨by decide, by decide⟩ ?_
                  refine sx_icmp_ne (tgt := 105) dX12_readItem_95 (by decide) (fun c65 => ?_) (fun c65 => ?_)
                  ·
                    refine sx_iload_n dX12_readItem_105 rfl ?_
                    refine sx_iconst dX12_readItem_106 ⟨by decide, by decide⟩ ?_
                    refine sx_icmp_ne (tgt := 117) dX12_readItem_107 (by decide) (fun c66 => ?_) (fun c66 => ?_)
                    ·
                      exfalso; omega
                    ·
                      refine sx_aload_n dX12_readItem_110 rfl ?_
                      refine sx_callVi lk_X12_386 cl_12 s_224 (by decide) dX12_readItem_111 (vs := []) rfl rfl (Nat.le_of_ble_eq_true rfl) (Nat.le_of_ble_eq_true rfl) rfl (c_X12_here _ hI.1) (fun x68 h67 ph67 => ?_)
                      obtain ⟨rfl, p_x68, a_x68, b_x68⟩ := ph67
                      have hq2 : 0 ≤ x68 ∧ x68 < w := by refine ⟨?_, ?_⟩; (by_cases q : 0 ≤ x68; exact q; exfalso; exact a_x68 (by first | omega -splitDisjunctions | ((repeat' apply And.intro) <;> omega -splitDisjunctions) | omega) _ (by first | omega -splitDisjunctions | ((repeat' apply And.intro) <;> omega -splitDisjunctions) | omega) (by rw [e37]; omega) (he1.2.2 (by first | omega -splitDisjunctions | ((repeat' apply And.intro) <;> omega -splitDisjunctions) | omega))); (have q := p_x68.2; rw [e37] at q; by_cases q2 : 0 ≤ x68; (have := q q2; omega); omega)
                      refine sx_goto (tgt := 118) dX12_readItem_114 (by decide) ?_
                      refine sx_istore dX12_readItem_118 (by decide) ?_
                      exact J120_n57 _ (by (unfold arP; omega))
                  ·
                    exfalso; omega
                ·
                  exfalso; omega
              ·
                exfalso; omega
            ·
              refine sx_aload_n dX12_readItem_62 rfl ?_
              refine sx_iconst dX12_readItem_63 ⟨by decide, by decide⟩ ?_
              refine sx_aload_n dX12_readItem_64 rfl ?_
              refine sx_getI (k := 6) cl_12 fl_X12_295 dX12_readItem_65 s_224 (by decide) rfl (by decide) ?_
              have r69 : (0 : Int) ≤ h0 224 6 ∧ h0 224 6 ≤ 1700 := hI.1 224 6
              refine sx_callVv lk_X12_326 cl_12 s_224 (by decide) dX12_readItem_68 (vs := [_, _]) rfl rfl (Nat.le_of_ble_eq_true rfl) (Nat.le_of_ble_eq_true rfl) rfl (c_X12_fails _ hI.1 _ _ (by first | omega -splitDisjunctions | ((repeat' apply And.intro) <;> omega -splitDisjunctions) | omega)) (fun h70 ph70 => ?_)
              obtain ⟨Kh70, g_h70⟩ := ph70
              have Ih70 := hI.tr Kh70 (prBW_sub rfl rfl rfl)
              have th70_224_3 := Kh70.2 224 3 rfl
              have th70_224_7 := Kh70.2 224 7 rfl
              have th70_224_8 := Kh70.2 224 8 rfl
              have th70_224_37 := Kh70.2 224 37 rfl
              have th70_224_55 := Kh70.2 224 55 rfl
              refine sx_aload_n dX12_readItem_71 rfl ?_
              refine sx_callVz lk_X12_330 cl_12 s_224 (by decide) dX12_readItem_72 (vs := []) rfl rfl (Nat.le_of_ble_eq_true rfl) (Nat.le_of_ble_eq_true rfl) rfl (c_X12_isGood _ Ih70.1) (fun x73 h72 zx73 ph72 => ?_)
              obtain ⟨rfl, p_x73⟩ := ph72
              refine sx_if_ne (tgt := 79) dX12_readItem_75 (by decide) (fun c74 => ?_) (fun c74 => ?_)
              ·
                exfalso; omega
              ·
                replace p_x73 := mt p_x73.mpr (show ¬ (x73 = 1) by rw [c74]; decide)
                clear zx73
                refine sx_ret dX12_readItem_78 ?_
                exact ⟨rfl, ⟨Ih70, by first | omega -splitDisjunctions | ((repeat' apply And.intro) <;> omega -splitDisjunctions) | omega, by first | omega -splitDisjunctions | ((repeat' apply And.intro) <;> omega -splitDisjunctions) | omega, fun q => by exfalso; omega⟩⟩
      ·
        refine sx_aload_n dX12_readItem_39 rfl ?_
        refine sx_callVv lk_X12_337 cl_12 s_224 (by decide) dX12_readItem_40 (vs := []) rfl rfl (Nat.le_of_ble_eq_true rfl) (Nat.le_of_ble_eq_true rfl) rfl (c_X12_misplaced _ hI.1) (fun h75 ph75 => ?_)
        obtain ⟨Kh75, g_h75⟩ := ph75
        have Ih75 := hI.tr Kh75 (prBW_sub rfl rfl rfl)
        have th75_224_3 := Kh75.2 224 3 rfl
        have th75_224_7 := Kh75.2 224 7 rfl
        have th75_224_8 := Kh75.2 224 8 rfl
        have th75_224_37 := Kh75.2 224 37 rfl
        have th75_224_55 := Kh75.2 224 55 rfl
        refine sx_aload_n dX12_readItem_43 rfl ?_
        refine sx_callVz lk_X12_330 cl_12 s_224 (by decide) dX12_readItem_44 (vs := []) rfl rfl (Nat.le_of_ble_eq_true rfl) (Nat.le_of_ble_eq_true rfl) rfl (c_X12_isGood _ Ih75.1) (fun x78 h77 zx78 ph77 => ?_)
        obtain ⟨rfl, p_x78⟩ := ph77
        refine sx_if_eq (tgt := 71) dX12_readItem_47 (by decide) (fun c79 => ?_) (fun c79 => ?_)
        ·
          replace p_x78 := mt p_x78.mpr (show ¬ (x78 = 1) by rw [c79]; decide)
          clear zx78
          refine sx_aload_n dX12_readItem_71 rfl ?_
          refine sx_callVz lk_X12_330 cl_12 s_224 (by decide) dX12_readItem_72 (vs := []) rfl rfl (Nat.le_of_ble_eq_true rfl) (Nat.le_of_ble_eq_true rfl) rfl (c_X12_isGood _ Ih75.1) (fun x81 h80 zx81 ph80 => ?_)
          obtain ⟨rfl, p_x81⟩ := ph80
          refine sx_if_ne (tgt := 79) dX12_readItem_75 (by decide) (fun c82 => ?_) (fun c82 => ?_)
          ·
            exfalso; omega
          ·
            replace p_x81 := mt p_x81.mpr (show ¬ (x81 = 1) by rw [c82]; decide)
            clear zx81
            refine sx_ret dX12_readItem_78 ?_
            exact ⟨rfl, ⟨Ih75, by first | omega -splitDisjunctions | ((repeat' apply And.intro) <;> omega -splitDisjunctions) | omega, by first | omega -splitDisjunctions | ((repeat' apply And.intro) <;> omega -splitDisjunctions) | omega, fun q => by exfalso; omega⟩⟩
        ·
          exfalso; omega

-- ===== the rule's reading, method by method =====
theorem sgn_eq {h h1 : sw_H} (e3 : h1 224 3 = h 224 3) (e : ∀ k, h1 226 k = h 226 k) (j : Int) : sgn h1 j = sgn h j := by
  unfold sgn
  rw [e3, e]
theorem eE_eq {h h1 : sw_H} {r : Int} (e1 : h1 229 r.toNat = h 229 r.toNat) (e2 : h1 224 38 = h 224 38) (e3 : ∀ k, h1 247 k = h 247 k) (e4 : h1 244 r.toNat = h 244 r.toNat) (k : eE h r) : eE h1 r := by
  unfold eE
  rw [e1, e2, e4, show h1 247 = h 247 from funext e3]
  exact k
theorem eI_eq {h h1 : sw_H} {r wt : Int} (e0 : h1 224 40 = h 224 40) (e00 : h1 224 39 = h 224 39) (e1 : h1 229 r.toNat = h 229 r.toNat) (e41 : h1 224 41 = h 224 41) (e2 : h1 224 38 = h 224 38) (e5 : ∀ k, h1 249 k = h 249 k) (e6 : ∀ k, h1 250 k = h 250 k) (e3 : ∀ k, h1 247 k = h 247 k) (e4 : h1 244 r.toNat = h 244 r.toNat) (k : eI h r wt) : eI h1 r wt := by
  unfold eI
  rw [e0, e00, e1, e41, e2, e4, show h1 247 = h 247 from funext e3, show h1 249 = h 249 from funext e5, show h1 250 = h 250 from funext e6]
  exact k
theorem eI_in {h h1 : sw_H} {r x : Int} (k : eI h r 1) (hw : h 224 39 < 7) (hx : x = 3 ∨ x = 7) (e40 : h1 224 40 = h 224 40 + 1) (e39 : h1 224 39 = h 224 39 + 1) (hun : h 229 r.toNat ≤ h1 229 r.toNat) (hu : h 224 41 ≤ h1 224 41 ∧ h1 224 41 ≤ 30) (e38 : h1 224 38 = h 224 38) (ew : ∀ k : Nat, h1 249 k = if (k : Int) = h 224 40 then x else h 249 k) (es : ∀ k : Nat, h1 250 k = if (k : Int) = h 224 40 then 126 else h 250 k) (ec : ∀ k, h1 247 k = h 247 k) (ef : h1 244 r.toNat = h 244 r.toNat) : eI h1 r 1 := by
  unfold eI
  rw [e40, e39, e38, ef, show h1 247 = h 247 from funext ec]
  exact eP_in k hw hx hun hu ew es
theorem eI_let {h h1 : sw_H} {r x : Int} (hr : 0 ≤ r) (k : eI h r 1) (hx : 97 ≤ x ∧ x ≤ 122) (hu : h 224 41 < 30) (e40 : h1 224 40 = h 224 40) (e39 : h1 224 39 = h 224 39) (e229 : h1 229 r.toNat = h 229 r.toNat + 1) (e41 : h1 224 41 = h 224 41 + 1) (e38 : h1 224 38 = h 224 38 + 1) (ew : ∀ k : Nat, h1 249 k = h 249 k) (es : ∀ k : Nat, h1 250 k = h 250 k) (ec : ∀ k : Nat, h1 247 k = if (k : Int) = h 224 38 then x else h 247 k) (ef : h1 244 r.toNat = h 244 r.toNat) : eI h1 r 0 := by
  unfold eI
  rw [e40, e39, e38, ef, e41, e229, show h1 249 = h 249 from funext ew, show h1 250 = h 250 from funext es]
  exact eP_let hr k hx hu ec
theorem eI_pop {h h1 : sw_H} {r : Int} (hr : 0 ≤ r) (k : eI h r 0) (ht : h 249 (h 224 40 - 1).toNat ≤ 6) (e40 : h1 224 40 = h 224 40 - 1) (e39 : h1 224 39 = h 224 39 - if h 249 (h 224 40 - 1).toNat = 3 then 1 else 0) (e229 : h1 229 r.toNat = h 229 r.toNat) (e41 : h1 224 41 = h 224 41) (e38 : h1 224 38 = h 224 38 + 1) (ew : ∀ k : Nat, h1 249 k = h 249 k) (es : ∀ k : Nat, h1 250 k = h 250 k) (ec : ∀ k : Nat, h1 247 k = if (k : Int) = h 224 38 then h 250 (h 224 40 - 1).toNat else h 247 k) (ef : h1 244 r.toNat = h 244 r.toNat) : eI h1 r 0 := by
  unfold eI
  rw [e40, e39, e38, ef, e41, e229, show h1 249 = h 249 from funext ew, show h1 250 = h 250 from funext es]
  exact (eP_pop hr k ht ec).2
theorem eI_two {h h1 : sw_H} {r x y : Int} (k : eI h r 0) (hx : x = 1 ∨ x = 2 ∨ x = 4 ∨ x = 5 ∨ x = 6) (hy : opS y) (e40 : h1 224 40 = h 224 40 + 1) (e39 : h1 224 39 = h 224 39) (e229 : h1 229 r.toNat = h 229 r.toNat) (e41 : h1 224 41 = h 224 41) (e38 : h1 224 38 = h 224 38) (ew : ∀ k : Nat, h1 249 k = if (k : Int) = h 224 40 then x else h 249 k) (es : ∀ k : Nat, h1 250 k = if (k : Int) = h 224 40 then y else h 250 k) (ec : ∀ k, h1 247 k = h 247 k) (ef : h1 244 r.toNat = h 244 r.toNat) : eI h1 r 1 := by
  unfold eI
  rw [e40, e39, e38, ef, e41, e229, show h1 247 = h 247 from funext ec]
  exact eP_two k hx hy ew es
theorem eI_shut {h h1 : sw_H} {r : Int} (k : eI h r 0) (ht : h 249 (h 224 40 - 1).toNat = 7) (e40 : h1 224 40 = h 224 40 - 1) (e39 : h1 224 39 = h 224 39 - 1) (e229 : h1 229 r.toNat = h 229 r.toNat) (e41 : h1 224 41 = h 224 41) (e38 : h1 224 38 = h 224 38) (ew : ∀ k : Nat, h1 249 k = h 249 k) (es : ∀ k : Nat, h1 250 k = h 250 k) (ec : ∀ k, h1 247 k = h 247 k) (ef : h1 244 r.toNat = h 244 r.toNat) : eI h1 r 0 := by
  unfold eI
  rw [e40, e39, e38, ef, e41, e229, show h1 247 = h 247 from funext ec, show h1 249 = h 249 from funext ew, show h1 250 = h 250 from funext es]
  exact (eP_shut k ht).2
/-- a number that falls while a rule is read -/
def eMu (h : sw_H) : Nat := (if h 224 4 = 0 then 1 + 100 * (if h 224 8 = 0 then 0 else 1701 - h 224 7) + h 224 40 else 0).toNat
def eGo (h h1 : sw_H) : Prop := (h 224 8 ≠ 0 ∧ (h1 224 8 = 0 ∨ h 224 7 < h1 224 7) ∧ h1 224 40 ≤ h 224 40 + 1) ∨ h1 224 40 < h 224 40
theorem eMu_dec {h h1 : sw_H} (g : h 224 4 = 0) (p : 1 ≤ h 224 40) (r : 0 ≤ h 224 7 ∧ h 224 7 ≤ 1700) (m : h 224 7 ≤ h1 224 7 ∧ (h 224 8 = 0 → h1 224 8 = 0)) (s : imp (h1 224 4 = 0) (eGo h h1)) : eMu h1 < eMu h := by
  have e1 : eMu h = (1 + 100 * (if h 224 8 = 0 then 0 else 1701 - h 224 7) + h 224 40).toNat := by unfold eMu; rw [if_pos g]
  by_cases q : h1 224 4 = 0
  · have e2 : eMu h1 = (1 + 100 * (if h1 224 8 = 0 then 0 else 1701 - h1 224 7) + h1 224 40).toNat := by unfold eMu; rw [if_pos q]
    rw [e1, e2]
    have s' := s q
    unfold eGo at s'
    by_cases a : h 224 8 = 0
    · rw [if_pos a, if_pos (m.2 a)]
      omega
    · rw [if_neg a]
      by_cases b : h1 224 8 = 0
      · rw [if_pos b]; omega
      · rw [if_neg b]; omega
  · have e2 : eMu h1 = 0 := by unfold eMu; rw [if_neg q]; rfl
    rw [e1, e2]
    split <;> omega
def RR (h : sw_H) (r : Int) : Prop := h 244 r.toNat < h 245 r.toNat → 560 * r ≤ h 244 r.toNat ∧ h 245 r.toNat ≤ 560 * r + 560 ∧ dOK (h 247) (h 244 r.toNat).toNat (h 245 r.toNat - h 244 r.toNat).toNat

set_option maxRecDepth 20000 in
set_option maxHeartbeats 4000000 in
theorem c_X12_unit {G : sw_G} (d : Nat) {h0 : sw_H} (hJ : mI h0) (b : Nat) (hr : h0 224 37 = 1 - (b : Int) ∧ b ≤ 1) (ht : h0 224 7 ≤ h0 224 3 ∧ (h0 224 8 = 0 → h0 224 7 = h0 224 3)) (hg : h0 224 4 = 0) (hE : eI h0 (1 - (b : Int)) 1)  : sw_E G NH SH (d + 3) mX12_unit 0 [some (sw_r 224), none, none, none, none, none, none] [] h0 (sw_Qz (fun z h' => mK (prB b [4, 5, 6, 7, 8, 9, 10, 38, 39, 40, 41] [229, 247, 248, 249, 250]) h0 h' ∧ (h' 224 7 ≤ h' 224 3 ∧ (h' 224 8 = 0 → h' 224 7 = h' 224 3)) ∧ (h0 224 7 ≤ h' 224 7 ∧ (h0 224 8 = 0 → h' 224 8 = 0)) ∧ (imp (h' 224 4 = 0) (eI h' (1 - (b : Int)) z)) ∧ (eE h' (1 - (b : Int))) ∧ (imp (h' 224 4 = 0) (eGo h0 h')))) := by
  have hI : mK (prB b [4, 5, 6, 7, 8, 9, 10, 38, 39, 40, 41] [229, 247, 248, 249, 250]) h0 h0 := mK.refl hJ
  obtain ⟨rg1, rg2, rg3, rg4, rg5, rg6, rg7, rg8, rg9, rg10⟩ := eP_rng hE (Or.inr rfl)
  rw [if_pos rfl] at rg3
  have e37 : (h0 224 37).toNat = (1 - (b : Int)).toNat := by omega
  have hEE : eE h0 (1 - (b : Int)) := eP_eQ hE
  clear rg9
  have bb : (b : Int) ≤ 1 ∧ 0 ≤ (b : Int) := by omega
  have J57_n1 : ∀ (nt : Int) , (nt = 0 ∨ nt = 1) → (nt = 1 → h0 224 8 = 3) → sw_E G NH SH (d + 3) mX12_unit 57 [some (sw_r 224), none, some (sw_i nt), none, none, none, none] [] h0 (sw_Qz (fun z h' => mK (prB b [4, 5, 6, 7, 8, 9, 10, 38, 39, 40, 41] [229, 247, 248, 249, 250]) h0 h' ∧ (h' 224 7 ≤ h' 224 3 ∧ (h' 224 8 = 0 → h' 224 7 = h' 224 3)) ∧ (h0 224 7 ≤ h' 224 7 ∧ (h0 224 8 = 0 → h' 224 8 = 0)) ∧ (imp (h' 224 4 = 0) (eI h' (1 - (b : Int)) z)) ∧ (eE h' (1 - (b : Int))) ∧ (imp (h' 224 4 = 0) (eGo h0 h')))) := by
    intro nt_2 jn1 jn2
    refine sx_aload_n dX12_unit_57 rfl ?_
    refine sx_bipush dX12_unit_58 ⟨by decide, by decide, by decide⟩ ?_
    refine sx_callVz lk_X12_379 cl_12 s_224 (by decide) dX12_unit_60 (vs := [_]) rfl rfl (Nat.le_of_ble_eq_true rfl) (Nat.le_of_ble_eq_true rfl) rfl (c2_X12_isSignHere _ hI.1 _) (fun x4 h3 zx4 ph3 => ?_)
    obtain ⟨rfl, p_x4⟩ := ph3
    refine sx_istore_n dX12_unit_63 (by decide) ?_
    refine sx_aload_n dX12_unit_64 rfl ?_
    refine sx_callVi lk_X12_473 cl_12 s_224 (by decide) dX12_unit_65 (vs := []) rfl rfl (Nat.le_of_ble_eq_true rfl) (Nat.le_of_ble_eq_true rfl) rfl (c_X12_wordHere _ hI.1) (fun x6 h5 ph5 => ?_)
    obtain ⟨rfl, p_x6⟩ := ph5
    refine sx_istore dX12_unit_68 (by decide) ?_
    have J100_n7 : ∀ (fl : Int) , (fl = 0 → h0 229 (h0 224 37).toNat ≠ 60 ∧ h0 224 41 ≠ 30) → sw_E G NH SH (d + 3) mX12_unit 100 [some (sw_r 224), none, some (sw_i nt_2), some (sw_i x4), some (sw_i x6), some (sw_i fl), none] [] h0 (sw_Qz (fun z h' => mK (prB b [4, 5, 6, 7, 8, 9, 10, 38, 39, 40, 41] [229, 247, 248, 249, 250]) h0 h' ∧ (h' 224 7 ≤ h' 224 3 ∧ (h' 224 8 = 0 → h' 224 7 = h' 224 3)) ∧ (h0 224 7 ≤ h' 224 7 ∧ (h0 224 8 = 0 → h' 224 8 = 0)) ∧ (imp (h' 224 4 = 0) (eI h' (1 - (b : Int)) z)) ∧ (eE h' (1 - (b : Int))) ∧ (imp (h' 224 4 = 0) (eGo h0 h')))) := by
      intro fl_8 jf
      have J156_n9 : ∀ u0 : Unit, (nt_2 = 0 → h0 229 (h0 224 37).toNat ≠ 60 ∧ h0 224 41 ≠ 30 ∧ (x6 ≠ 0 ∨ h0 224 8 = 4 ∨ x4 ≠ 0)) → (nt_2 ≠ 0 ∨ x4 ≠ 0 → h0 224 39 ≠ 7) → sw_E G NH SH (d + 3) mX12_unit 156 [some (sw_r 224), none, some (sw_i nt_2), some (sw_i x4), some (sw_i x6), none, none] [] h0 (sw_Qz (fun z h' => mK (prB b [4, 5, 6, 7, 8, 9, 10, 38, 39, 40, 41] [229, 247, 248, 249, 250]) h0 h' ∧ (h' 224 7 ≤ h' 224 3 ∧ (h' 224 8 = 0 → h' 224 7 = h' 224 3)) ∧ (h0 224 7 ≤ h' 224 7 ∧ (h0 224 8 = 0 → h' 224 8 = 0)) ∧ (imp (h' 224 4 = 0) (eI h' (1 - (b : Int)) z)) ∧ (eE h' (1 - (b : Int))) ∧ (imp (h' 224 4 = 0) (eGo h0 h')))) := by
        intro _ jg1 jg2
        have r29 : (0 : Int) ≤ h0 229 (h0 224 37).toNat ∧ h0 229 (h0 224 37).toNat ≤ 60 := hI.1 229 _
        have e29 : h0 229 (h0 224 37).toNat = h0 229 (1 - (b : Int)).toNat := by rw [e37]
        refine sx_aload_n dX12_unit_156 rfl ?_
        refine sx_getS (k := 13) (t := 229) cl_12 fl_X12_27 dX12_unit_157 s_224 (by decide) rfl (by decide) ?_
        refine sx_aload_n dX12_unit_160 rfl ?_
        refine sx_getI (k := 37) cl_12 fl_X12_340 dX12_unit_161 s_224 (by decide) rfl (by decide) ?_
        have r10 : (0 : Int) ≤ h0 224 37 ∧ h0 224 37 ≤ 1 := hI.1 224 37
        refine sx_dup2 dX12_unit_164 ?_
        refine sy_iaF (F := fun z => (0 : Int) ≤ z ∧ z ≤ 60) dX12_unit_165 s_229 (by decide) (by decide) ⟨by omega, by omega⟩ (hI.1 229 _) (fun r11 => ?_)
        refine sx_iload_n dX12_unit_166 rfl ?_
        refine sx_if_eq (tgt := 174) dX12_unit_167 (by decide) (fun c12 => ?_) (fun c12 => ?_)
        ·
          refine sx_iconst dX12_unit_174 ⟨by decide, by decide⟩ ?_
          refine sx_iadd dX12_unit_175 ?_
          refine sy_topw (by omega) ?_
          refine sy_iastore dX12_unit_176 s_229 (by decide) (by decide) ⟨by omega, by omega⟩ (fun h13 eh13 => ?_)
          have Ih13 := hI.up eh13 (show (0 : Int) ≤ _ ∧ _ ≤ (60 : Int) from ⟨by omega, by omega⟩) (beq_eq_false_iff_ne.mpr (show _ ≠ _ by omega))
          have th13_224_3 := eh13.2 (224) 3 (fun q => absurd q.1 (by decide))
          have th13_224_4 := eh13.2 (224) 4 (fun q => absurd q.1 (by decide))
          have th13_224_6 := eh13.2 (224) 6 (fun q => absurd q.1 (by decide))
          have th13_224_7 := eh13.2 (224) 7 (fun q => absurd q.1 (by decide))
          have th13_224_8 := eh13.2 (224) 8 (fun q => absurd q.1 (by decide))
          have th13_224_37 := eh13.2 (224) 37 (fun q => absurd q.1 (by decide))
          have th13_224_38 := eh13.2 (224) 38 (fun q => absurd q.1 (by decide))
          have th13_224_39 := eh13.2 (224) 39 (fun q => absurd q.1 (by decide))
          have th13_224_40 := eh13.2 (224) 40 (fun q => absurd q.1 (by decide))
          have th13_224_41 := eh13.2 (224) 41 (fun q => absurd q.1 (by decide))
          refine sx_aload_n dX12_unit_177 rfl ?_
          refine sx_dupr dX12_unit_178 ?_
          refine sx_getI (k := 41) cl_12 fl_X12_452 dX12_unit_179 s_224 (by decide) rfl (by decide) ?_
          refine sx_iload_n dX12_unit_182 rfl ?_
          refine sx_if_eq (tgt := 190) dX12_unit_183 (by decide) (fun c14 => ?_) (fun c14 => ?_)
          ·
            refine sx_iconst dX12_unit_190 ⟨by decide, by decide⟩ ?_
            refine sx_iadd dX12_unit_191 ?_
            refine sy_topw (by omega) ?_
            refine sy_putI (k := 41) cl_12 fl_X12_452 dX12_unit_192 s_224 (by decide) rfl (by decide) rfl rfl (fun h15 eh15 => ?_)
            have Ih15 := Ih13.up eh15 trivial rfl
            have th15_224_3 := eh15.2 (224) 3 (by decide)
            have th15_224_4 := eh15.2 (224) 4 (by decide)
            have th15_224_6 := eh15.2 (224) 6 (by decide)
            have th15_224_7 := eh15.2 (224) 7 (by decide)
            have th15_224_8 := eh15.2 (224) 8 (by decide)
            have th15_224_37 := eh15.2 (224) 37 (by decide)
            have th15_224_38 := eh15.2 (224) 38 (by decide)
            have th15_224_39 := eh15.2 (224) 39 (by decide)
            have th15_224_40 := eh15.2 (224) 40 (by decide)
            have th15_224_41 := eh15.1
            refine sx_iload dX12_unit_195 rfl ?_
            refine sx_if_ne (tgt := 207) dX12_unit_197 (by decide) (fun c16 => ?_) (fun c16 => ?_)
            ·
              refine sx_iconst dX12_unit_207 ⟨by decide, by decide⟩ ?_
              refine sx_istore dX12_unit_208 (by decide) ?_
              refine sx_aload_n dX12_unit_210 rfl ?_
              refine sx_callVv lk_X12_334 cl_12 s_224 (by decide) dX12_unit_211 (vs := []) rfl rfl (Nat.le_of_ble_eq_true rfl) (Nat.le_of_ble_eq_true rfl) rfl (c_X12_goOn _ Ih15.1 (by omega)) (fun h17 ph17 => ?_)
              obtain ⟨Kh17, a_h17, s_h17, l_h17⟩ := ph17
              have Ih17 := Ih15.tr Kh17 (prBW_sub rfl rfl rfl)
              have th17_224_3 := Kh17.2 224 3 rfl
              have th17_224_4 := Kh17.2 224 4 rfl
              have th17_224_37 := Kh17.2 224 37 rfl
              have th17_224_38 := Kh17.2 224 38 rfl
              have th17_224_39 := Kh17.2 224 39 rfl
              have th17_224_40 := Kh17.2 224 40 rfl
              have th17_224_41 := Kh17.2 224 41 rfl
              refine sx_iload_n dX12_unit_214 rfl ?_
              refine sx_if_ne (tgt := 222) dX12_unit_215 (by decide) (fun c19 => ?_) (fun c19 => ?_)
              ·
                first | exact absurd c19 c12 | exact absurd c12 c19
              ·
                refine sx_iload_n dX12_unit_218 rfl ?_
                refine sx_if_eq (tgt := 250) dX12_unit_219 (by decide) (fun c20 => ?_) (fun c20 => ?_)
                ·
                  clear p_x4
                  clear zx4
                  refine sx_aload_n dX12_unit_250 rfl ?_
                  refine sx_iload dX12_unit_251 rfl ?_
                  refine sx_if_ne (tgt := 261) dX12_unit_253 (by decide) (fun c21 => ?_) (fun c21 => ?_)
                  ·
                    refine sx_iload dX12_unit_261 rfl ?_
                    refine sx_iload dX12_unit_263 rfl ?_
                    refine sx_callVv lk_X12_476 cl_12 s_224 (by decide) dX12_unit_265 (vs := [_, _]) rfl rfl (Nat.le_of_ble_eq_true rfl) (Nat.le_of_ble_eq_true rfl) rfl (c_X12_emit _ Ih17.1 b _ _ (by omega)) (fun h22 ph22 => ?_)
                    obtain ⟨Kh22, c_h22, v_h22⟩ := ph22
                    have Ih22 := Ih17.tr Kh22 (prB_sub rfl rfl)
                    have th22_224_3 := Kh22.2 224 3 rfl
                    have th22_224_4 := Kh22.2 224 4 rfl
                    have th22_224_6 := Kh22.2 224 6 rfl
                    have th22_224_7 := Kh22.2 224 7 rfl
                    have th22_224_8 := Kh22.2 224 8 rfl
                    have th22_224_37 := Kh22.2 224 37 rfl
                    have th22_224_39 := Kh22.2 224 39 rfl
                    have th22_224_40 := Kh22.2 224 40 rfl
                    have th22_224_41 := Kh22.2 224 41 rfl
                    refine sx_iconst dX12_unit_268 ⟨by decide, by decide⟩ ?_
                    refine sx_ireturn dX12_unit_269 ?_
                    have EI : eI h22 (1 - (b : Int)) 0 := eI_let (h := h0) (x := x6) (by omega) hE (by omega) (by omega) (by omega) (by omega) (by rw [show h22 229 (1 - (b : Int)).toNat = _ from Kh22.2 229 (1 - (b : Int)).toNat rfl, show h17 229 (1 - (b : Int)).toNat = _ from Kh17.2 229 (1 - (b : Int)).toNat rfl, eh15.2 229 (1 - (b : Int)).toNat (fun q => absurd q.1 (by decide)), eh13.at 229 (1 - (b : Int)).toNat]; all_goals (try simp only [Nat.reduceEqDiff, false_and, if_false, true_and]); all_goals (try rw [if_pos (by omega)]); all_goals (try rw [e37]); all_goals omega) (by omega) (by omega) (fun k => by rw [show h22 249 k = _ from Kh22.2 249 k rfl, show h17 249 k = _ from Kh17.2 249 k rfl, eh15.2 249 k (fun q => absurd q.1 (by decide)), eh13.2 249 k (fun q => absurd q.1 (by decide))]) (fun k => by rw [show h22 250 k = _ from Kh22.2 250 k rfl, show h17 250 k = _ from Kh17.2 250 k rfl, eh15.2 250 k (fun q => absurd q.1 (by decide)), eh13.2 250 k (fun q => absurd q.1 (by decide))]) (fun k => by rw [v_h22 k, show h17 247 k = _ from Kh17.2 247 k rfl, eh15.2 247 k (fun q => absurd q.1 (by decide)), eh13.2 247 k (fun q => absurd q.1 (by decide))]; all_goals (try simp only [Nat.reduceEqDiff, false_and, if_false, true_and]); all_goals (by_cases q : (k : Int) = h0 224 38; (focus first | (rw [if_pos (by omega), if_pos q]; done) | (rw [if_pos (by omega), if_pos q]; omega)); (rw [if_neg (by omega), if_neg q]))) (by rw [show h22 244 _ = _ from Kh22.2 244 _ rfl, show h17 244 _ = _ from Kh17.2 244 _ rfl, eh15.2 244 _ (fun q => absurd q.1 (by decide)), eh13.2 244 _ (fun q => absurd q.1 (by decide))])
                    exact ⟨_, rfl, by omega, ⟨Ih22, by omega, by omega, fun _ => EI, eP_eQ EI, (fun _ => Or.inl ⟨by omega, by omega, by omega⟩)⟩⟩
                  ·
                    first | exact absurd c21 c16 | exact absurd c16 c21
                ·
                  have vx4 : x4 = 1 := by rcases zx4 with q | q; (exact absurd q c20); exact q
                  replace p_x4 := p_x4 vx4
                  clear zx4
                  refine sx_aload_n dX12_unit_222 rfl ?_
                  refine sx_iload_n dX12_unit_223 rfl ?_
                  refine sx_if_eq (tgt := 231) dX12_unit_224 (by decide) (fun c24 => ?_) (fun c24 => ?_)
                  ·
                    refine sx_bipush dX12_unit_231 ⟨by decide, by decide, by decide⟩ ?_
                    refine sx_bipush dX12_unit_233 ⟨by decide, by decide, by decide⟩ ?_
                    refine sx_callVv lk_X12_464 cl_12 s_224 (by decide) dX12_unit_235 (vs := [_, _]) rfl rfl (Nat.le_of_ble_eq_true rfl) (Nat.le_of_ble_eq_true rfl) rfl (c_X12_pushE _ Ih17.1 _ _ (by omega)) (fun h25 ph25 => ?_)
                    obtain ⟨Kh25, c_h25, w_h25, s_h25⟩ := ph25
                    have Ih25 := Ih17.tr Kh25 (prBW_sub rfl rfl rfl)
                    have th25_224_3 := Kh25.2 224 3 rfl
                    have th25_224_4 := Kh25.2 224 4 rfl
                    have th25_224_6 := Kh25.2 224 6 rfl
                    have th25_224_7 := Kh25.2 224 7 rfl
                    have th25_224_8 := Kh25.2 224 8 rfl
                    have th25_224_37 := Kh25.2 224 37 rfl
                    have th25_224_38 := Kh25.2 224 38 rfl
                    have th25_224_39 := Kh25.2 224 39 rfl
                    have th25_224_41 := Kh25.2 224 41 rfl
                    refine sx_aload_n dX12_unit_238 rfl ?_
                    refine sx_dupr dX12_unit_239 ?_
                    refine sx_getI (k := 39) cl_12 fl_X12_461 dX12_unit_240 s_224 (by decide) rfl (by decide) ?_
                    refine sx_iconst dX12_unit_243 ⟨by decide, by decide⟩ ?_
                    refine sx_iadd dX12_unit_244 ?_
                    refine sy_topw (by omega) ?_
                    refine sy_putI (k := 39) cl_12 fl_X12_461 dX12_unit_245 s_224 (by decide) rfl (by decide) rfl rfl (fun h27 eh27 => ?_)
                    have Ih27 := Ih25.up eh27 trivial rfl
                    have th27_224_3 := eh27.2 (224) 3 (by decide)
                    have th27_224_4 := eh27.2 (224) 4 (by decide)
                    have th27_224_6 := eh27.2 (224) 6 (by decide)
                    have th27_224_7 := eh27.2 (224) 7 (by decide)
                    have th27_224_8 := eh27.2 (224) 8 (by decide)
                    have th27_224_37 := eh27.2 (224) 37 (by decide)
                    have th27_224_38 := eh27.2 (224) 38 (by decide)
                    have th27_224_39 := eh27.1
                    have th27_224_40 := eh27.2 (224) 40 (by decide)
                    have th27_224_41 := eh27.2 (224) 41 (by decide)
                    refine sx_iconst dX12_unit_248 ⟨by decide, by decide⟩ ?_
                    refine sx_ireturn dX12_unit_249 ?_
                    have EI : eI h27 (1 - (b : Int)) 1 := eI_in (h := h0) (x := 7) hE (by omega) (by decide) (by omega) (by omega) (by rw [eh27.2 229 (1 - (b : Int)).toNat (fun q => absurd q.1 (by decide)), show h25 229 (1 - (b : Int)).toNat = _ from Kh25.2 229 (1 - (b : Int)).toNat rfl, show h17 229 (1 - (b : Int)).toNat = _ from Kh17.2 229 (1 - (b : Int)).toNat rfl, eh15.2 229 (1 - (b : Int)).toNat (fun q => absurd q.1 (by decide)), eh13.at 229 (1 - (b : Int)).toNat]; all_goals (try simp only [Nat.reduceEqDiff, false_and, if_false, true_and]); all_goals (try rw [if_pos (by omega)]); all_goals (try rw [e37]); all_goals omega) (by omega) (by omega) (fun k => by rw [eh27.2 249 k (fun q => absurd q.1 (by decide)), w_h25 k, show h17 249 k = _ from Kh17.2 249 k rfl, eh15.2 249 k (fun q => absurd q.1 (by decide)), eh13.2 249 k (fun q => absurd q.1 (by decide))]; all_goals (try simp only [Nat.reduceEqDiff, false_and, if_false, true_and]); all_goals (by_cases q : (k : Int) = h0 224 40; (focus first | (rw [if_pos (by omega), if_pos q]; done) | (rw [if_pos (by omega), if_pos q]; omega)); (rw [if_neg (by omega), if_neg q]))) (fun k => by rw [eh27.2 250 k (fun q => absurd q.1 (by decide)), s_h25 k, show h17 250 k = _ from Kh17.2 250 k rfl, eh15.2 250 k (fun q => absurd q.1 (by decide)), eh13.2 250 k (fun q => absurd q.1 (by decide))]; all_goals (try simp only [Nat.reduceEqDiff, false_and, if_false, true_and]); all_goals (by_cases q : (k : Int) = h0 224 40; (focus first | (rw [if_pos (by omega), if_pos q]; done) | (rw [if_pos (by omega), if_pos q]; omega)); (rw [if_neg (by omega), if_neg q]))) (fun k => by rw [eh27.2 247 k (fun q => absurd q.1 (by decide)), show h25 247 k = _ from Kh25.2 247 k rfl, show h17 247 k = _ from Kh17.2 247 k rfl, eh15.2 247 k (fun q => absurd q.1 (by decide)), eh13.2 247 k (fun q => absurd q.1 (by decide))]) (by rw [eh27.2 244 _ (fun q => absurd q.1 (by decide)), show h25 244 _ = _ from Kh25.2 244 _ rfl, show h17 244 _ = _ from Kh17.2 244 _ rfl, eh15.2 244 _ (fun q => absurd q.1 (by decide)), eh13.2 244 _ (fun q => absurd q.1 (by decide))])
                    exact ⟨_, rfl, by omega, ⟨Ih27, by omega, by omega, fun _ => EI, eP_eQ EI, (fun _ => Or.inl ⟨by omega, by omega, by omega⟩)⟩⟩
                  ·
                    first | exact absurd c24 c12 | exact absurd c12 c24
            ·
              refine sx_aload_n dX12_unit_200 rfl ?_
              refine sx_getI (k := 9) cl_12 fl_X12_320 dX12_unit_201 s_224 (by decide) rfl (by decide) ?_
              have r28 : (0 : Int) ≤ h15 224 9 ∧ h15 224 9 ≤ 9999 := Ih15.1 224 9
              refine sx_goto (tgt := 208) dX12_unit_204 (by decide) ?_
              refine sy_top (fun v29 ev29 => ?_)
              refine sx_istore dX12_unit_208 (by decide) ?_
              refine sx_aload_n dX12_unit_210 rfl ?_
              refine sx_callVv lk_X12_334 cl_12 s_224 (by decide) dX12_unit_211 (vs := []) rfl rfl (Nat.le_of_ble_eq_true rfl) (Nat.le_of_ble_eq_true rfl) rfl (c_X12_goOn _ Ih15.1 (by omega)) (fun h30 ph30 => ?_)
              obtain ⟨Kh30, a_h30, s_h30, l_h30⟩ := ph30
              have Ih30 := Ih15.tr Kh30 (prBW_sub rfl rfl rfl)
              have th30_224_3 := Kh30.2 224 3 rfl
              have th30_224_4 := Kh30.2 224 4 rfl
              have th30_224_37 := Kh30.2 224 37 rfl
              have th30_224_38 := Kh30.2 224 38 rfl
              have th30_224_39 := Kh30.2 224 39 rfl
              have th30_224_40 := Kh30.2 224 40 rfl
              have th30_224_41 := Kh30.2 224 41 rfl
              refine sx_iload_n dX12_unit_214 rfl ?_
              refine sx_if_ne (tgt := 222) dX12_unit_215 (by decide) (fun c32 => ?_) (fun c32 => ?_)
              ·
                first | exact absurd c32 c12 | exact absurd c12 c32
              ·
                refine sx_iload_n dX12_unit_218 rfl ?_
                refine sx_if_eq (tgt := 250) dX12_unit_219 (by decide) (fun c33 => ?_) (fun c33 => ?_)
                ·
                  clear p_x4
                  clear zx4
                  refine sx_aload_n dX12_unit_250 rfl ?_
                  refine sx_iload dX12_unit_251 rfl ?_
                  refine sx_if_ne (tgt := 261) dX12_unit_253 (by decide) (fun c34 => ?_) (fun c34 => ?_)
                  ·
                    first | exact absurd c34 c16 | exact absurd c16 c34
                  ·
                    refine sx_bipush dX12_unit_256 ⟨by decide, by decide, by decide⟩ ?_
                    refine sx_goto (tgt := 263) dX12_unit_258 (by decide) ?_
                    refine sx_iload dX12_unit_263 rfl ?_
                    refine sx_callVv lk_X12_476 cl_12 s_224 (by decide) dX12_unit_265 (vs := [_, _]) rfl rfl (Nat.le_of_ble_eq_true rfl) (Nat.le_of_ble_eq_true rfl) rfl (c_X12_emit _ Ih30.1 b _ _ (by omega)) (fun h35 ph35 => ?_)
                    obtain ⟨Kh35, c_h35, v_h35⟩ := ph35
                    have Ih35 := Ih30.tr Kh35 (prB_sub rfl rfl)
                    have th35_224_3 := Kh35.2 224 3 rfl
                    have th35_224_4 := Kh35.2 224 4 rfl
                    have th35_224_6 := Kh35.2 224 6 rfl
                    have th35_224_7 := Kh35.2 224 7 rfl
                    have th35_224_8 := Kh35.2 224 8 rfl
                    have th35_224_37 := Kh35.2 224 37 rfl
                    have th35_224_39 := Kh35.2 224 39 rfl
                    have th35_224_40 := Kh35.2 224 40 rfl
                    have th35_224_41 := Kh35.2 224 41 rfl
                    refine sx_iconst dX12_unit_268 ⟨by decide, by decide⟩ ?_
                    refine sx_ireturn dX12_unit_269 ?_
                    have EI : eI h35 (1 - (b : Int)) 0 := eI_let (h := h0) (x := 110) (by omega) hE (by omega) (by omega) (by omega) (by omega) (by rw [show h35 229 (1 - (b : Int)).toNat = _ from Kh35.2 229 (1 - (b : Int)).toNat rfl, show h30 229 (1 - (b : Int)).toNat = _ from Kh30.2 229 (1 - (b : Int)).toNat rfl, eh15.2 229 (1 - (b : Int)).toNat (fun q => absurd q.1 (by decide)), eh13.at 229 (1 - (b : Int)).toNat]; all_goals (try simp only [Nat.reduceEqDiff, false_and, if_false, true_and]); all_goals (try rw [if_pos (by omega)]); all_goals (try rw [e37]); all_goals omega) (by omega) (by omega) (fun k => by rw [show h35 249 k = _ from Kh35.2 249 k rfl, show h30 249 k = _ from Kh30.2 249 k rfl, eh15.2 249 k (fun q => absurd q.1 (by decide)), eh13.2 249 k (fun q => absurd q.1 (by decide))]) (fun k => by rw [show h35 250 k = _ from Kh35.2 250 k rfl, show h30 250 k = _ from Kh30.2 250 k rfl, eh15.2 250 k (fun q => absurd q.1 (by decide)), eh13.2 250 k (fun q => absurd q.1 (by decide))]) (fun k => by rw [v_h35 k, show h30 247 k = _ from Kh30.2 247 k rfl, eh15.2 247 k (fun q => absurd q.1 (by decide)), eh13.2 247 k (fun q => absurd q.1 (by decide))]; all_goals (try simp only [Nat.reduceEqDiff, false_and, if_false, true_and]); all_goals (by_cases q : (k : Int) = h0 224 38; (focus first | (rw [if_pos (by omega), if_pos q]; done) | (rw [if_pos (by omega), if_pos q]; omega)); (rw [if_neg (by omega), if_neg q]))) (by rw [show h35 244 _ = _ from Kh35.2 244 _ rfl, show h30 244 _ = _ from Kh30.2 244 _ rfl, eh15.2 244 _ (fun q => absurd q.1 (by decide)), eh13.2 244 _ (fun q => absurd q.1 (by decide))])
                    exact ⟨_, rfl, by omega, ⟨Ih35, by omega, by omega, fun _ => EI, eP_eQ EI, (fun _ => Or.inl ⟨by omega, by omega, by omega⟩)⟩⟩
                ·
                  have vx4 : x4 = 1 := by rcases zx4 with q | q; (exact absurd q c33); exact q
                  replace p_x4 := p_x4 vx4
                  clear zx4
                  refine sx_aload_n dX12_unit_222 rfl ?_
                  refine sx_iload_n dX12_unit_223 rfl ?_
                  refine sx_if_eq (tgt := 231) dX12_unit_224 (by decide) (fun c37 => ?_) (fun c37 => ?_)
                  ·
                    refine sx_bipush dX12_unit_231 ⟨by decide, by decide, by decide⟩ ?_
                    refine sx_bipush dX12_unit_233 ⟨by decide, by decide, by decide⟩ ?_
                    refine sx_callVv lk_X12_464 cl_12 s_224 (by decide) dX12_unit_235 (vs := [_, _]) rfl rfl (Nat.le_of_ble_eq_true rfl) (Nat.le_of_ble_eq_true rfl) rfl (c_X12_pushE _ Ih30.1 _ _ (by omega)) (fun h38 ph38 => ?_)
                    obtain ⟨Kh38, c_h38, w_h38, s_h38⟩ := ph38
                    have Ih38 := Ih30.tr Kh38 (prBW_sub rfl rfl rfl)
                    have th38_224_3 := Kh38.2 224 3 rfl
                    have th38_224_4 := Kh38.2 224 4 rfl
                    have th38_224_6 := Kh38.2 224 6 rfl
                    have th38_224_7 := Kh38.2 224 7 rfl
                    have th38_224_8 := Kh38.2 224 8 rfl
                    have th38_224_37 := Kh38.2 224 37 rfl
                    have th38_224_38 := Kh38.2 224 38 rfl
                    have th38_224_39 := Kh38.2 224 39 rfl
                    have th38_224_41 := Kh38.2 224 41 rfl
                    refine sx_aload_n dX12_unit_238 rfl ?_
                    refine sx_dupr dX12_unit_239 ?_
                    refine sx_getI (k := 39) cl_12 fl_X12_461 dX12_unit_240 s_224 (by decide) rfl (by decide) ?_
                    refine sx_iconst dX12_unit_243 ⟨by decide, by decide⟩ ?_
                    refine sx_iadd dX12_unit_244 ?_
                    refine sy_topw (by omega) ?_
                    refine sy_putI (k := 39) cl_12 fl_X12_461 dX12_unit_245 s_224 (by decide) rfl (by decide) rfl rfl (fun h40 eh40 => ?_)
                    have Ih40 := Ih38.up eh40 trivial rfl
                    have th40_224_3 := eh40.2 (224) 3 (by decide)
                    have th40_224_4 := eh40.2 (224) 4 (by decide)
                    have th40_224_6 := eh40.2 (224) 6 (by decide)
                    have th40_224_7 := eh40.2 (224) 7 (by decide)
                    have th40_224_8 := eh40.2 (224) 8 (by decide)
                    have th40_224_37 := eh40.2 (224) 37 (by decide)
                    have th40_224_38 := eh40.2 (224) 38 (by decide)
                    have th40_224_39 := eh40.1
                    have th40_224_40 := eh40.2 (224) 40 (by decide)
                    have th40_224_41 := eh40.2 (224) 41 (by decide)
                    refine sx_iconst dX12_unit_248 ⟨by decide, by decide⟩ ?_
                    refine sx_ireturn dX12_unit_249 ?_
                    have EI : eI h40 (1 - (b : Int)) 1 := eI_in (h := h0) (x := 7) hE (by omega) (by decide) (by omega) (by omega) (by rw [eh40.2 229 (1 - (b : Int)).toNat (fun q => absurd q.1 (by decide)), show h38 229 (1 - (b : Int)).toNat = _ from Kh38.2 229 (1 - (b : Int)).toNat rfl, show h30 229 (1 - (b : Int)).toNat = _ from Kh30.2 229 (1 - (b : Int)).toNat rfl, eh15.2 229 (1 - (b : Int)).toNat (fun q => absurd q.1 (by decide)), eh13.at 229 (1 - (b : Int)).toNat]; all_goals (try simp only [Nat.reduceEqDiff, false_and, if_false, true_and]); all_goals (try rw [if_pos (by omega)]); all_goals (try rw [e37]); all_goals omega) (by omega) (by omega) (fun k => by rw [eh40.2 249 k (fun q => absurd q.1 (by decide)), w_h38 k, show h30 249 k = _ from Kh30.2 249 k rfl, eh15.2 249 k (fun q => absurd q.1 (by decide)), eh13.2 249 k (fun q => absurd q.1 (by decide))]; all_goals (try simp only [Nat.reduceEqDiff, false_and, if_false, true_and]); all_goals (by_cases q : (k : Int) = h0 224 40; (focus first | (rw [if_pos (by omega), if_pos q]; done) | (rw [if_pos (by omega), if_pos q]; omega)); (rw [if_neg (by omega), if_neg q]))) (fun k => by rw [eh40.2 250 k (fun q => absurd q.1 (by decide)), s_h38 k, show h30 250 k = _ from Kh30.2 250 k rfl, eh15.2 250 k (fun q => absurd q.1 (by decide)), eh13.2 250 k (fun q => absurd q.1 (by decide))]; all_goals (try simp only [Nat.reduceEqDiff, false_and, if_false, true_and]); all_goals (by_cases q : (k : Int) = h0 224 40; (focus first | (rw [if_pos (by omega), if_pos q]; done) | (rw [if_pos (by omega), if_pos q]; omega)); (rw [if_neg (by omega), if_neg q]))) (fun k => by rw [eh40.2 247 k (fun q => absurd q.1 (by decide)), show h38 247 k = _ from Kh38.2 247 k rfl, show h30 247 k = _ from Kh30.2 247 k rfl, eh15.2 247 k (fun q => absurd q.1 (by decide)), eh13.2 247 k (fun q => absurd q.1 (by decide))]) (by rw [eh40.2 244 _ (fun q => absurd q.1 (by decide)), show h38 244 _ = _ from Kh38.2 244 _ rfl, show h30 244 _ = _ from Kh30.2 244 _ rfl, eh15.2 244 _ (fun q => absurd q.1 (by decide)), eh13.2 244 _ (fun q => absurd q.1 (by decide))])
                    exact ⟨_, rfl, by omega, ⟨Ih40, by omega, by omega, fun _ => EI, eP_eQ EI, (fun _ => Or.inl ⟨by omega, by omega, by omega⟩)⟩⟩
                  ·
                    first | exact absurd c37 c12 | exact absurd c12 c37
          ·
            first | exact absurd c14 c12 | exact absurd c12 c14
        ·
          refine sx_iconst dX12_unit_170 ⟨by decide, by decide⟩ ?_
          refine sx_goto (tgt := 175) dX12_unit_171 (by decide) ?_
          refine sx_iadd dX12_unit_175 ?_
          refine sy_topw (by omega) ?_
          refine sy_iastore dX12_unit_176 s_229 (by decide) (by decide) ⟨by omega, by omega⟩ (fun h41 eh41 => ?_)
          have Ih41 := hI.up eh41 (show (0 : Int) ≤ _ ∧ _ ≤ (60 : Int) from ⟨by omega, by omega⟩) (beq_eq_false_iff_ne.mpr (show _ ≠ _ by omega))
          have th41_224_3 := eh41.2 (224) 3 (fun q => absurd q.1 (by decide))
          have th41_224_4 := eh41.2 (224) 4 (fun q => absurd q.1 (by decide))
          have th41_224_6 := eh41.2 (224) 6 (fun q => absurd q.1 (by decide))
          have th41_224_7 := eh41.2 (224) 7 (fun q => absurd q.1 (by decide))
          have th41_224_8 := eh41.2 (224) 8 (fun q => absurd q.1 (by decide))
          have th41_224_37 := eh41.2 (224) 37 (fun q => absurd q.1 (by decide))
          have th41_224_38 := eh41.2 (224) 38 (fun q => absurd q.1 (by decide))
          have th41_224_39 := eh41.2 (224) 39 (fun q => absurd q.1 (by decide))
          have th41_224_40 := eh41.2 (224) 40 (fun q => absurd q.1 (by decide))
          have th41_224_41 := eh41.2 (224) 41 (fun q => absurd q.1 (by decide))
          refine sx_aload_n dX12_unit_177 rfl ?_
          refine sx_dupr dX12_unit_178 ?_
          refine sx_getI (k := 41) cl_12 fl_X12_452 dX12_unit_179 s_224 (by decide) rfl (by decide) ?_
          refine sx_iload_n dX12_unit_182 rfl ?_
          refine sx_if_eq (tgt := 190) dX12_unit_183 (by decide) (fun c42 => ?_) (fun c42 => ?_)
          ·
            first | exact absurd c42 c12 | exact absurd c12 c42
          ·
            refine sx_iconst dX12_unit_186 ⟨by decide, by decide⟩ ?_
            refine sx_goto (tgt := 191) dX12_unit_187 (by decide) ?_
            refine sx_iadd dX12_unit_191 ?_
            refine sy_topw (by omega) ?_
            refine sy_putI (k := 41) cl_12 fl_X12_452 dX12_unit_192 s_224 (by decide) rfl (by decide) rfl rfl (fun h43 eh43 => ?_)
            have Ih43 := Ih41.up eh43 trivial rfl
            have th43_224_3 := eh43.2 (224) 3 (by decide)
            have th43_224_4 := eh43.2 (224) 4 (by decide)
            have th43_224_6 := eh43.2 (224) 6 (by decide)
            have th43_224_7 := eh43.2 (224) 7 (by decide)
            have th43_224_8 := eh43.2 (224) 8 (by decide)
            have th43_224_37 := eh43.2 (224) 37 (by decide)
            have th43_224_38 := eh43.2 (224) 38 (by decide)
            have th43_224_39 := eh43.2 (224) 39 (by decide)
            have th43_224_40 := eh43.2 (224) 40 (by decide)
            have th43_224_41 := eh43.1
            refine sx_iload dX12_unit_195 rfl ?_
            refine sx_if_ne (tgt := 207) dX12_unit_197 (by decide) (fun c44 => ?_) (fun c44 => ?_)
            ·
              refine sx_iconst dX12_unit_207 ⟨by decide, by decide⟩ ?_
              refine sx_istore dX12_unit_208 (by decide) ?_
              refine sx_aload_n dX12_unit_210 rfl ?_
              refine sx_callVv lk_X12_334 cl_12 s_224 (by decide) dX12_unit_211 (vs := []) rfl rfl (Nat.le_of_ble_eq_true rfl) (Nat.le_of_ble_eq_true rfl) rfl (c_X12_goOn _ Ih43.1 (by omega)) (fun h45 ph45 => ?_)
              obtain ⟨Kh45, a_h45, s_h45, l_h45⟩ := ph45
              have Ih45 := Ih43.tr Kh45 (prBW_sub rfl rfl rfl)
              have th45_224_3 := Kh45.2 224 3 rfl
              have th45_224_4 := Kh45.2 224 4 rfl
              have th45_224_37 := Kh45.2 224 37 rfl
              have th45_224_38 := Kh45.2 224 38 rfl
              have th45_224_39 := Kh45.2 224 39 rfl
              have th45_224_40 := Kh45.2 224 40 rfl
              have th45_224_41 := Kh45.2 224 41 rfl
              refine sx_iload_n dX12_unit_214 rfl ?_
              refine sx_if_ne (tgt := 222) dX12_unit_215 (by decide) (fun c47 => ?_) (fun c47 => ?_)
              ·
                refine sx_aload_n dX12_unit_222 rfl ?_
                refine sx_iload_n dX12_unit_223 rfl ?_
                refine sx_if_eq (tgt := 231) dX12_unit_224 (by decide) (fun c48 => ?_) (fun c48 => ?_)
                ·
                  first | exact absurd c48 c12 | exact absurd c12 c48
                ·
                  refine sx_iconst dX12_unit_227 ⟨by decide, by decide⟩ ?_
                  refine sx_goto (tgt := 233) dX12_unit_228 (by decide) ?_
                  refine sx_bipush dX12_unit_233 ⟨by decide, by decide, by decide⟩ ?_
                  refine sx_callVv lk_X12_464 cl_12 s_224 (by decide) dX12_unit_235 (vs := [_, _]) rfl rfl (Nat.le_of_ble_eq_true rfl) (Nat.le_of_ble_eq_true rfl) rfl (c_X12_pushE _ Ih45.1 _ _ (by omega)) (fun h49 ph49 => ?_)
                  obtain ⟨Kh49, c_h49, w_h49, s_h49⟩ := ph49
                  have Ih49 := Ih45.tr Kh49 (prBW_sub rfl rfl rfl)
                  have th49_224_3 := Kh49.2 224 3 rfl
                  have th49_224_4 := Kh49.2 224 4 rfl
                  have th49_224_6 := Kh49.2 224 6 rfl
                  have th49_224_7 := Kh49.2 224 7 rfl
                  have th49_224_8 := Kh49.2 224 8 rfl
                  have th49_224_37 := Kh49.2 224 37 rfl
                  have th49_224_38 := Kh49.2 224 38 rfl
                  have th49_224_39 := Kh49.2 224 39 rfl
                  have th49_224_41 := Kh49.2 224 41 rfl
                  refine sx_aload_n dX12_unit_238 rfl ?_
                  refine sx_dupr dX12_unit_239 ?_
                  refine sx_getI (k := 39) cl_12 fl_X12_461 dX12_unit_240 s_224 (by decide) rfl (by decide) ?_
                  refine sx_iconst dX12_unit_243 ⟨by decide, by decide⟩ ?_
                  refine sx_iadd dX12_unit_244 ?_
                  refine sy_topw (by omega) ?_
                  refine sy_putI (k := 39) cl_12 fl_X12_461 dX12_unit_245 s_224 (by decide) rfl (by decide) rfl rfl (fun h51 eh51 => ?_)
                  have Ih51 := Ih49.up eh51 trivial rfl
                  have th51_224_3 := eh51.2 (224) 3 (by decide)
                  have th51_224_4 := eh51.2 (224) 4 (by decide)
                  have th51_224_6 := eh51.2 (224) 6 (by decide)
                  have th51_224_7 := eh51.2 (224) 7 (by decide)
                  have th51_224_8 := eh51.2 (224) 8 (by decide)
                  have th51_224_37 := eh51.2 (224) 37 (by decide)
                  have th51_224_38 := eh51.2 (224) 38 (by decide)
                  have th51_224_39 := eh51.1
                  have th51_224_40 := eh51.2 (224) 40 (by decide)
                  have th51_224_41 := eh51.2 (224) 41 (by decide)
                  refine sx_iconst dX12_unit_248 ⟨by decide, by decide⟩ ?_
                  refine sx_ireturn dX12_unit_249 ?_
                  have EI : eI h51 (1 - (b : Int)) 1 := eI_in (h := h0) (x := 3) hE (by omega) (by decide) (by omega) (by omega) (by rw [eh51.2 229 (1 - (b : Int)).toNat (fun q => absurd q.1 (by decide)), show h49 229 (1 - (b : Int)).toNat = _ from Kh49.2 229 (1 - (b : Int)).toNat rfl, show h45 229 (1 - (b : Int)).toNat = _ from Kh45.2 229 (1 - (b : Int)).toNat rfl, eh43.2 229 (1 - (b : Int)).toNat (fun q => absurd q.1 (by decide)), eh41.at 229 (1 - (b : Int)).toNat]; all_goals (try simp only [Nat.reduceEqDiff, false_and, if_false, true_and]); all_goals (try rw [if_pos (by omega)]); all_goals (try rw [e37]); all_goals omega) (by omega) (by omega) (fun k => by rw [eh51.2 249 k (fun q => absurd q.1 (by decide)), w_h49 k, show h45 249 k = _ from Kh45.2 249 k rfl, eh43.2 249 k (fun q => absurd q.1 (by decide)), eh41.2 249 k (fun q => absurd q.1 (by decide))]; all_goals (try simp only [Nat.reduceEqDiff, false_and, if_false, true_and]); all_goals (by_cases q : (k : Int) = h0 224 40; (focus first | (rw [if_pos (by omega), if_pos q]; done) | (rw [if_pos (by omega), if_pos q]; omega)); (rw [if_neg (by omega), if_neg q]))) (fun k => by rw [eh51.2 250 k (fun q => absurd q.1 (by decide)), s_h49 k, show h45 250 k = _ from Kh45.2 250 k rfl, eh43.2 250 k (fun q => absurd q.1 (by decide)), eh41.2 250 k (fun q => absurd q.1 (by decide))]; all_goals (try simp only [Nat.reduceEqDiff, false_and, if_false, true_and]); all_goals (by_cases q : (k : Int) = h0 224 40; (focus first | (rw [if_pos (by omega), if_pos q]; done) | (rw [if_pos (by omega), if_pos q]; omega)); (rw [if_neg (by omega), if_neg q]))) (fun k => by rw [eh51.2 247 k (fun q => absurd q.1 (by decide)), show h49 247 k = _ from Kh49.2 247 k rfl, show h45 247 k = _ from Kh45.2 247 k rfl, eh43.2 247 k (fun q => absurd q.1 (by decide)), eh41.2 247 k (fun q => absurd q.1 (by decide))]) (by rw [eh51.2 244 _ (fun q => absurd q.1 (by decide)), show h49 244 _ = _ from Kh49.2 244 _ rfl, show h45 244 _ = _ from Kh45.2 244 _ rfl, eh43.2 244 _ (fun q => absurd q.1 (by decide)), eh41.2 244 _ (fun q => absurd q.1 (by decide))])
                  exact ⟨_, rfl, by omega, ⟨Ih51, by omega, by omega, fun _ => EI, eP_eQ EI, (fun _ => Or.inl ⟨by omega, by omega, by omega⟩)⟩⟩
              ·
                first | exact absurd c47 c12 | exact absurd c12 c47
            ·
              refine sx_aload_n dX12_unit_200 rfl ?_
              refine sx_getI (k := 9) cl_12 fl_X12_320 dX12_unit_201 s_224 (by decide) rfl (by decide) ?_
              have r52 : (0 : Int) ≤ h43 224 9 ∧ h43 224 9 ≤ 9999 := Ih43.1 224 9
              refine sx_goto (tgt := 208) dX12_unit_204 (by decide) ?_
              refine sy_top (fun v53 ev53 => ?_)
              refine sx_istore dX12_unit_208 (by decide) ?_
              refine sx_aload_n dX12_unit_210 rfl ?_
              refine sx_callVv lk_X12_334 cl_12 s_224 (by decide) dX12_unit_211 (vs := []) rfl rfl (Nat.le_of_ble_eq_true rfl) (Nat.le_of_ble_eq_true rfl) rfl (c_X12_goOn _ Ih43.1 (by omega)) (fun h54 ph54 => ?_)
              obtain ⟨Kh54, a_h54, s_h54, l_h54⟩ := ph54
              have Ih54 := Ih43.tr Kh54 (prBW_sub rfl rfl rfl)
              have th54_224_3 := Kh54.2 224 3 rfl
              have th54_224_4 := Kh54.2 224 4 rfl
              have th54_224_37 := Kh54.2 224 37 rfl
              have th54_224_38 := Kh54.2 224 38 rfl
              have th54_224_39 := Kh54.2 224 39 rfl
              have th54_224_40 := Kh54.2 224 40 rfl
              have th54_224_41 := Kh54.2 224 41 rfl
              refine sx_iload_n dX12_unit_214 rfl ?_
              refine sx_if_ne (tgt := 222) dX12_unit_215 (by decide) (fun c56 => ?_) (fun c56 => ?_)
              ·
                refine sx_aload_n dX12_unit_222 rfl ?_
                refine sx_iload_n dX12_unit_223 rfl ?_
                refine sx_if_eq (tgt := 231) dX12_unit_224 (by decide) (fun c57 => ?_) (fun c57 => ?_)
                ·
                  first | exact absurd c57 c12 | exact absurd c12 c57
                ·
                  refine sx_iconst dX12_unit_227 ⟨by decide, by decide⟩ ?_
                  refine sx_goto (tgt := 233) dX12_unit_228 (by decide) ?_
                  refine sx_bipush dX12_unit_233 ⟨by decide, by decide, by decide⟩ ?_
                  refine sx_callVv lk_X12_464 cl_12 s_224 (by decide) dX12_unit_235 (vs := [_, _]) rfl rfl (Nat.le_of_ble_eq_true rfl) (Nat.le_of_ble_eq_true rfl) rfl (c_X12_pushE _ Ih54.1 _ _ (by omega)) (fun h58 ph58 => ?_)
                  obtain ⟨Kh58, c_h58, w_h58, s_h58⟩ := ph58
                  have Ih58 := Ih54.tr Kh58 (prBW_sub rfl rfl rfl)
                  have th58_224_3 := Kh58.2 224 3 rfl
                  have th58_224_4 := Kh58.2 224 4 rfl
                  have th58_224_6 := Kh58.2 224 6 rfl
                  have th58_224_7 := Kh58.2 224 7 rfl
                  have th58_224_8 := Kh58.2 224 8 rfl
                  have th58_224_37 := Kh58.2 224 37 rfl
                  have th58_224_38 := Kh58.2 224 38 rfl
                  have th58_224_39 := Kh58.2 224 39 rfl
                  have th58_224_41 := Kh58.2 224 41 rfl
                  refine sx_aload_n dX12_unit_238 rfl ?_
                  refine sx_dupr dX12_unit_239 ?_
                  refine sx_getI (k := 39) cl_12 fl_X12_461 dX12_unit_240 s_224 (by decide) rfl (by decide) ?_
                  refine sx_iconst dX12_unit_243 ⟨by decide, by decide⟩ ?_
                  refine sx_iadd dX12_unit_244 ?_
                  refine sy_topw (by omega) ?_
                  refine sy_putI (k := 39) cl_12 fl_X12_461 dX12_unit_245 s_224 (by decide) rfl (by decide) rfl rfl (fun h60 eh60 => ?_)
                  have Ih60 := Ih58.up eh60 trivial rfl
                  have th60_224_3 := eh60.2 (224) 3 (by decide)
                  have th60_224_4 := eh60.2 (224) 4 (by decide)
                  have th60_224_6 := eh60.2 (224) 6 (by decide)
                  have th60_224_7 := eh60.2 (224) 7 (by decide)
                  have th60_224_8 := eh60.2 (224) 8 (by decide)
                  have th60_224_37 := eh60.2 (224) 37 (by decide)
                  have th60_224_38 := eh60.2 (224) 38 (by decide)
                  have th60_224_39 := eh60.1
                  have th60_224_40 := eh60.2 (224) 40 (by decide)
                  have th60_224_41 := eh60.2 (224) 41 (by decide)
                  refine sx_iconst dX12_unit_248 ⟨by decide, by decide⟩ ?_
                  refine sx_ireturn dX12_unit_249 ?_
                  have EI : eI h60 (1 - (b : Int)) 1 := eI_in (h := h0) (x := 3) hE (by omega) (by decide) (by omega) (by omega) (by rw [eh60.2 229 (1 - (b : Int)).toNat (fun q => absurd q.1 (by decide)), show h58 229 (1 - (b : Int)).toNat = _ from Kh58.2 229 (1 - (b : Int)).toNat rfl, show h54 229 (1 - (b : Int)).toNat = _ from Kh54.2 229 (1 - (b : Int)).toNat rfl, eh43.2 229 (1 - (b : Int)).toNat (fun q => absurd q.1 (by decide)), eh41.at 229 (1 - (b : Int)).toNat]; all_goals (try simp only [Nat.reduceEqDiff, false_and, if_false, true_and]); all_goals (try rw [if_pos (by omega)]); all_goals (try rw [e37]); all_goals omega) (by omega) (by omega) (fun k => by rw [eh60.2 249 k (fun q => absurd q.1 (by decide)), w_h58 k, show h54 249 k = _ from Kh54.2 249 k rfl, eh43.2 249 k (fun q => absurd q.1 (by decide)), eh41.2 249 k (fun q => absurd q.1 (by decide))]; all_goals (try simp only [Nat.reduceEqDiff, false_and, if_false, true_and]); all_goals (by_cases q : (k : Int) = h0 224 40; (focus first | (rw [if_pos (by omega), if_pos q]; done) | (rw [if_pos (by omega), if_pos q]; omega)); (rw [if_neg (by omega), if_neg q]))) (fun k => by rw [eh60.2 250 k (fun q => absurd q.1 (by decide)), s_h58 k, show h54 250 k = _ from Kh54.2 250 k rfl, eh43.2 250 k (fun q => absurd q.1 (by decide)), eh41.2 250 k (fun q => absurd q.1 (by decide))]; all_goals (try simp only [Nat.reduceEqDiff, false_and, if_false, true_and]); all_goals (by_cases q : (k : Int) = h0 224 40; (focus first | (rw [if_pos (by omega), if_pos q]; done) | (rw [if_pos (by omega), if_pos q]; omega)); (rw [if_neg (by omega), if_neg q]))) (fun k => by rw [eh60.2 247 k (fun q => absurd q.1 (by decide)), show h58 247 k = _ from Kh58.2 247 k rfl, show h54 247 k = _ from Kh54.2 247 k rfl, eh43.2 247 k (fun q => absurd q.1 (by decide)), eh41.2 247 k (fun q => absurd q.1 (by decide))]) (by rw [eh60.2 244 _ (fun q => absurd q.1 (by decide)), show h58 244 _ = _ from Kh58.2 244 _ rfl, show h54 244 _ = _ from Kh54.2 244 _ rfl, eh43.2 244 _ (fun q => absurd q.1 (by decide)), eh41.2 244 _ (fun q => absurd q.1 (by decide))])
                  exact ⟨_, rfl, by omega, ⟨Ih60, by omega, by omega, fun _ => EI, eP_eQ EI, (fun _ => Or.inl ⟨by omega, by omega, by omega⟩)⟩⟩
              ·
                first | exact absurd c56 c12 | exact absurd c12 c56
      refine sx_iload_n dX12_unit_100 rfl ?_
      refine sx_if_ne (tgt := 126) dX12_unit_101 (by decide) (fun c61 => ?_) (fun c61 => ?_)
      ·
        refine sx_iload_n dX12_unit_126 rfl ?_
        refine sx_if_ne (tgt := 134) dX12_unit_127 (by decide) (fun c62 => ?_) (fun c62 => ?_)
        ·
          refine sx_aload_n dX12_unit_134 rfl ?_
          refine sx_getI (k := 39) cl_12 fl_X12_461 dX12_unit_135 s_224 (by decide) rfl (by decide) ?_
          refine sx_bipush dX12_unit_138 ⟨by decide, by decide, by decide⟩ ?_
          refine sx_icmp_ne (tgt := 147) dX12_unit_140 (by decide) (fun c63 => ?_) (fun c63 => ?_)
          ·
            refine sx_aload_n dX12_unit_147 rfl ?_
            refine sx_callVz lk_X12_330 cl_12 s_224 (by decide) dX12_unit_148 (vs := []) rfl rfl (Nat.le_of_ble_eq_true rfl) (Nat.le_of_ble_eq_true rfl) rfl (c_X12_isGood _ hI.1) (fun x65 h64 zx65 ph64 => ?_)
            obtain ⟨rfl, p_x65⟩ := ph64
            refine sx_if_ne (tgt := 156) dX12_unit_151 (by decide) (fun c66 => ?_) (fun c66 => ?_)
            ·
              have vx65 : x65 = 1 := by rcases zx65 with q | q; (exact absurd q c66); exact q
              replace p_x65 := p_x65.mp vx65
              clear zx65
              refine sx_kill 5 ?_
              exact J156_n9 () (by omega) (by omega)
            ·
              exfalso; omega
          ·
            refine sx_aload_n dX12_unit_143 rfl ?_
            refine sx_callVv lk_X12_337 cl_12 s_224 (by decide) dX12_unit_144 (vs := []) rfl rfl (Nat.le_of_ble_eq_true rfl) (Nat.le_of_ble_eq_true rfl) rfl (c_X12_misplaced _ hI.1) (fun h67 ph67 => ?_)
            obtain ⟨Kh67, g_h67⟩ := ph67
            have Ih67 := hI.tr Kh67 (prBW_sub rfl rfl rfl)
            have th67_224_3 := Kh67.2 224 3 rfl
            have th67_224_6 := Kh67.2 224 6 rfl
            have th67_224_7 := Kh67.2 224 7 rfl
            have th67_224_8 := Kh67.2 224 8 rfl
            have th67_224_37 := Kh67.2 224 37 rfl
            have th67_224_38 := Kh67.2 224 38 rfl
            have th67_224_39 := Kh67.2 224 39 rfl
            have th67_224_40 := Kh67.2 224 40 rfl
            have th67_224_41 := Kh67.2 224 41 rfl
            refine sx_aload_n dX12_unit_147 rfl ?_
            refine sx_callVz lk_X12_330 cl_12 s_224 (by decide) dX12_unit_148 (vs := []) rfl rfl (Nat.le_of_ble_eq_true rfl) (Nat.le_of_ble_eq_true rfl) rfl (c_X12_isGood _ Ih67.1) (fun x70 h69 zx70 ph69 => ?_)
            obtain ⟨rfl, p_x70⟩ := ph69
            refine sx_if_ne (tgt := 156) dX12_unit_151 (by decide) (fun c71 => ?_) (fun c71 => ?_)
            ·
              exfalso; omega
            ·
              replace p_x70 := mt p_x70.mpr (show ¬ (x70 = 1) by rw [c71]; decide)
              clear zx70
              refine sx_iconst dX12_unit_154 ⟨by decide, by decide⟩ ?_
              refine sx_ireturn dX12_unit_155 ?_
              exact ⟨_, rfl, by omega, ⟨Ih67, by omega, by omega, fun q => by exfalso; omega, (eE_eq (by rw [show h67 229 _ = _ from Kh67.2 229 _ rfl]) (by omega) (fun k => by rw [show h67 247 k = _ from Kh67.2 247 k rfl]) (by rw [show h67 244 _ = _ from Kh67.2 244 _ rfl]) hEE), fun q => by exfalso; omega⟩⟩
        ·
          first | exact absurd c62 c61 | exact absurd c61 c62
      ·
        refine sx_iload dX12_unit_104 rfl ?_
        refine sx_if_ne (tgt := 121) dX12_unit_106 (by decide) (fun c72 => ?_) (fun c72 => ?_)
        ·
          refine sx_iload dX12_unit_121 rfl ?_
          refine sx_if_ne (tgt := 143) dX12_unit_123 (by decide) (fun c73 => ?_) (fun c73 => ?_)
          ·
            refine sx_aload_n dX12_unit_143 rfl ?_
            refine sx_callVv lk_X12_337 cl_12 s_224 (by decide) dX12_unit_144 (vs := []) rfl rfl (Nat.le_of_ble_eq_true rfl) (Nat.le_of_ble_eq_true rfl) rfl (c_X12_misplaced _ hI.1) (fun h74 ph74 => ?_)
            obtain ⟨Kh74, g_h74⟩ := ph74
            have Ih74 := hI.tr Kh74 (prBW_sub rfl rfl rfl)
            have th74_224_3 := Kh74.2 224 3 rfl
            have th74_224_6 := Kh74.2 224 6 rfl
            have th74_224_7 := Kh74.2 224 7 rfl
            have th74_224_8 := Kh74.2 224 8 rfl
            have th74_224_37 := Kh74.2 224 37 rfl
            have th74_224_38 := Kh74.2 224 38 rfl
            have th74_224_39 := Kh74.2 224 39 rfl
            have th74_224_40 := Kh74.2 224 40 rfl
            have th74_224_41 := Kh74.2 224 41 rfl
            refine sx_aload_n dX12_unit_147 rfl ?_
            refine sx_callVz lk_X12_330 cl_12 s_224 (by decide) dX12_unit_148 (vs := []) rfl rfl (Nat.le_of_ble_eq_true rfl) (Nat.le_of_ble_eq_true rfl) rfl (c_X12_isGood _ Ih74.1) (fun x77 h76 zx77 ph76 => ?_)
            obtain ⟨rfl, p_x77⟩ := ph76
            refine sx_if_ne (tgt := 156) dX12_unit_151 (by decide) (fun c78 => ?_) (fun c78 => ?_)
            ·
              exfalso; omega
            ·
              replace p_x77 := mt p_x77.mpr (show ¬ (x77 = 1) by rw [c78]; decide)
              clear zx77
              refine sx_iconst dX12_unit_154 ⟨by decide, by decide⟩ ?_
              refine sx_ireturn dX12_unit_155 ?_
              exact ⟨_, rfl, by omega, ⟨Ih74, by omega, by omega, fun q => by exfalso; omega, (eE_eq (by rw [show h74 229 _ = _ from Kh74.2 229 _ rfl]) (by omega) (fun k => by rw [show h74 247 k = _ from Kh74.2 247 k rfl]) (by rw [show h74 244 _ = _ from Kh74.2 244 _ rfl]) hEE), fun q => by exfalso; omega⟩⟩
          ·
            refine sx_iload_n dX12_unit_126 rfl ?_
            refine sx_if_ne (tgt := 134) dX12_unit_127 (by decide) (fun c79 => ?_) (fun c79 => ?_)
            ·
              first | exact absurd c79 c61 | exact absurd c61 c79
            ·
              refine sx_iload_n dX12_unit_130 rfl ?_
              refine sx_if_eq (tgt := 147) dX12_unit_131 (by decide) (fun c80 => ?_) (fun c80 => ?_)
              ·
                clear p_x4
                clear zx4
                refine sx_aload_n dX12_unit_147 rfl ?_
                refine sx_callVz lk_X12_330 cl_12 s_224 (by decide) dX12_unit_148 (vs := []) rfl rfl (Nat.le_of_ble_eq_true rfl) (Nat.le_of_ble_eq_true rfl) rfl (c_X12_isGood _ hI.1) (fun x82 h81 zx82 ph81 => ?_)
                obtain ⟨rfl, p_x82⟩ := ph81
                refine sx_if_ne (tgt := 156) dX12_unit_151 (by decide) (fun c83 => ?_) (fun c83 => ?_)
                ·
                  have vx82 : x82 = 1 := by rcases zx82 with q | q; (exact absurd q c83); exact q
                  replace p_x82 := p_x82.mp vx82
                  clear zx82
                  refine sx_kill 5 ?_
                  exact J156_n9 () (by omega) (by omega)
                ·
                  exfalso; omega
              ·
                have vx4 : x4 = 1 := by rcases zx4 with q | q; (exact absurd q c80); exact q
                replace p_x4 := p_x4 vx4
                clear zx4
                refine sx_aload_n dX12_unit_134 rfl ?_
                refine sx_getI (k := 39) cl_12 fl_X12_461 dX12_unit_135 s_224 (by decide) rfl (by decide) ?_
                refine sx_bipush dX12_unit_138 ⟨by decide, by decide, by decide⟩ ?_
                refine sx_icmp_ne (tgt := 147) dX12_unit_140 (by decide) (fun c84 => ?_) (fun c84 => ?_)
                ·
                  refine sx_aload_n dX12_unit_147 rfl ?_
                  refine sx_callVz lk_X12_330 cl_12 s_224 (by decide) dX12_unit_148 (vs := []) rfl rfl (Nat.le_of_ble_eq_true rfl) (Nat.le_of_ble_eq_true rfl) rfl (c_X12_isGood _ hI.1) (fun x86 h85 zx86 ph85 => ?_)
                  obtain ⟨rfl, p_x86⟩ := ph85
                  refine sx_if_ne (tgt := 156) dX12_unit_151 (by decide) (fun c87 => ?_) (fun c87 => ?_)
                  ·
                    have vx86 : x86 = 1 := by rcases zx86 with q | q; (exact absurd q c87); exact q
                    replace p_x86 := p_x86.mp vx86
                    clear zx86
                    refine sx_kill 5 ?_
                    exact J156_n9 () (by omega) (by omega)
                  ·
                    exfalso; omega
                ·
                  refine sx_aload_n dX12_unit_143 rfl ?_
                  refine sx_callVv lk_X12_337 cl_12 s_224 (by decide) dX12_unit_144 (vs := []) rfl rfl (Nat.le_of_ble_eq_true rfl) (Nat.le_of_ble_eq_true rfl) rfl (c_X12_misplaced _ hI.1) (fun h88 ph88 => ?_)
                  obtain ⟨Kh88, g_h88⟩ := ph88
                  have Ih88 := hI.tr Kh88 (prBW_sub rfl rfl rfl)
                  have th88_224_3 := Kh88.2 224 3 rfl
                  have th88_224_6 := Kh88.2 224 6 rfl
                  have th88_224_7 := Kh88.2 224 7 rfl
                  have th88_224_8 := Kh88.2 224 8 rfl
                  have th88_224_37 := Kh88.2 224 37 rfl
                  have th88_224_38 := Kh88.2 224 38 rfl
                  have th88_224_39 := Kh88.2 224 39 rfl
                  have th88_224_40 := Kh88.2 224 40 rfl
                  have th88_224_41 := Kh88.2 224 41 rfl
                  refine sx_aload_n dX12_unit_147 rfl ?_
                  refine sx_callVz lk_X12_330 cl_12 s_224 (by decide) dX12_unit_148 (vs := []) rfl rfl (Nat.le_of_ble_eq_true rfl) (Nat.le_of_ble_eq_true rfl) rfl (c_X12_isGood _ Ih88.1) (fun x91 h90 zx91 ph90 => ?_)
                  obtain ⟨rfl, p_x91⟩ := ph90
                  refine sx_if_ne (tgt := 156) dX12_unit_151 (by decide) (fun c92 => ?_) (fun c92 => ?_)
                  ·
                    exfalso; omega
                  ·
                    replace p_x91 := mt p_x91.mpr (show ¬ (x91 = 1) by rw [c92]; decide)
                    clear zx91
                    refine sx_iconst dX12_unit_154 ⟨by decide, by decide⟩ ?_
                    refine sx_ireturn dX12_unit_155 ?_
                    exact ⟨_, rfl, by omega, ⟨Ih88, by omega, by omega, fun q => by exfalso; omega, (eE_eq (by rw [show h88 229 _ = _ from Kh88.2 229 _ rfl]) (by omega) (fun k => by rw [show h88 247 k = _ from Kh88.2 247 k rfl]) (by rw [show h88 244 _ = _ from Kh88.2 244 _ rfl]) hEE), fun q => by exfalso; omega⟩⟩
        ·
          refine sx_aload_n dX12_unit_109 rfl ?_
          refine sx_getI (k := 8) cl_12 fl_X12_302 dX12_unit_110 s_224 (by decide) rfl (by decide) ?_
          have r93 : (0 : Int) ≤ h0 224 8 ∧ h0 224 8 ≤ 5 := hI.1 224 8
          refine sx_iconst dX12_unit_113 ⟨by decide, by decide⟩ ?_
          refine sx_icmp_eq (tgt := 121) dX12_unit_114 (by decide) (fun c94 => ?_) (fun c94 => ?_)
          ·
            refine sx_iload dX12_unit_121 rfl ?_
            refine sx_if_ne (tgt := 143) dX12_unit_123 (by decide) (fun c95 => ?_) (fun c95 => ?_)
            ·
              refine sx_aload_n dX12_unit_143 rfl ?_
              refine sx_callVv lk_X12_337 cl_12 s_224 (by decide) dX12_unit_144 (vs := []) rfl rfl (Nat.le_of_ble_eq_true rfl) (Nat.le_of_ble_eq_true rfl) rfl (c_X12_misplaced _ hI.1) (fun h96 ph96 => ?_)
              obtain ⟨Kh96, g_h96⟩ := ph96
              have Ih96 := hI.tr Kh96 (prBW_sub rfl rfl rfl)
              have th96_224_3 := Kh96.2 224 3 rfl
              have th96_224_6 := Kh96.2 224 6 rfl
              have th96_224_7 := Kh96.2 224 7 rfl
              have th96_224_8 := Kh96.2 224 8 rfl
              have th96_224_37 := Kh96.2 224 37 rfl
              have th96_224_38 := Kh96.2 224 38 rfl
              have th96_224_39 := Kh96.2 224 39 rfl
              have th96_224_40 := Kh96.2 224 40 rfl
              have th96_224_41 := Kh96.2 224 41 rfl
              refine sx_aload_n dX12_unit_147 rfl ?_
              refine sx_callVz lk_X12_330 cl_12 s_224 (by decide) dX12_unit_148 (vs := []) rfl rfl (Nat.le_of_ble_eq_true rfl) (Nat.le_of_ble_eq_true rfl) rfl (c_X12_isGood _ Ih96.1) (fun x99 h98 zx99 ph98 => ?_)
              obtain ⟨rfl, p_x99⟩ := ph98
              refine sx_if_ne (tgt := 156) dX12_unit_151 (by decide) (fun c100 => ?_) (fun c100 => ?_)
              ·
                exfalso; omega
              ·
                replace p_x99 := mt p_x99.mpr (show ¬ (x99 = 1) by rw [c100]; decide)
                clear zx99
                refine sx_iconst dX12_unit_154 ⟨by decide, by decide⟩ ?_
                refine sx_ireturn dX12_unit_155 ?_
                exact ⟨_, rfl, by omega, ⟨Ih96, by omega, by omega, fun q => by exfalso; omega, (eE_eq (by rw [show h96 229 _ = _ from Kh96.2 229 _ rfl]) (by omega) (fun k => by rw [show h96 247 k = _ from Kh96.2 247 k rfl]) (by rw [show h96 244 _ = _ from Kh96.2 244 _ rfl]) hEE), fun q => by exfalso; omega⟩⟩
            ·
              refine sx_iload_n dX12_unit_126 rfl ?_
              refine sx_if_ne (tgt := 134) dX12_unit_127 (by decide) (fun c101 => ?_) (fun c101 => ?_)
              ·
                first | exact absurd c101 c61 | exact absurd c61 c101
              ·
                refine sx_iload_n dX12_unit_130 rfl ?_
                refine sx_if_eq (tgt := 147) dX12_unit_131 (by decide) (fun c102 => ?_) (fun c102 => ?_)
                ·
                  clear p_x4
                  clear zx4
                  refine sx_aload_n dX12_unit_147 rfl ?_
                  refine sx_callVz lk_X12_330 cl_12 s_224 (by decide) dX12_unit_148 (vs := []) rfl rfl (Nat.le_of_ble_eq_true rfl) (Nat.le_of_ble_eq_true rfl) rfl (c_X12_isGood _ hI.1) (fun x104 h103 zx104 ph103 => ?_)
                  obtain ⟨rfl, p_x104⟩ := ph103
                  refine sx_if_ne (tgt := 156) dX12_unit_151 (by decide) (fun c105 => ?_) (fun c105 => ?_)
                  ·
                    have vx104 : x104 = 1 := by rcases zx104 with q | q; (exact absurd q c105); exact q
                    replace p_x104 := p_x104.mp vx104
                    clear zx104
                    refine sx_kill 5 ?_
                    exact J156_n9 () (by omega) (by omega)
                  ·
                    exfalso; omega
                ·
                  have vx4 : x4 = 1 := by rcases zx4 with q | q; (exact absurd q c102); exact q
                  replace p_x4 := p_x4 vx4
                  clear zx4
                  refine sx_aload_n dX12_unit_134 rfl ?_
                  refine sx_getI (k := 39) cl_12 fl_X12_461 dX12_unit_135 s_224 (by decide) rfl (by decide) ?_
                  refine sx_bipush dX12_unit_138 ⟨by decide, by decide, by decide⟩ ?_
                  refine sx_icmp_ne (tgt := 147) dX12_unit_140 (by decide) (fun c106 => ?_) (fun c106 => ?_)
                  ·
                    refine sx_aload_n dX12_unit_147 rfl ?_
                    refine sx_callVz lk_X12_330 cl_12 s_224 (by decide) dX12_unit_148 (vs := []) rfl rfl (Nat.le_of_ble_eq_true rfl) (Nat.le_of_ble_eq_true rfl) rfl (c_X12_isGood _ hI.1) (fun x108 h107 zx108 ph107 => ?_)
                    obtain ⟨rfl, p_x108⟩ := ph107
                    refine sx_if_ne (tgt := 156) dX12_unit_151 (by decide) (fun c109 => ?_) (fun c109 => ?_)
                    ·
                      have vx108 : x108 = 1 := by rcases zx108 with q | q; (exact absurd q c109); exact q
                      replace p_x108 := p_x108.mp vx108
                      clear zx108
                      refine sx_kill 5 ?_
                      exact J156_n9 () (by omega) (by omega)
                    ·
                      exfalso; omega
                  ·
                    refine sx_aload_n dX12_unit_143 rfl ?_
                    refine sx_callVv lk_X12_337 cl_12 s_224 (by decide) dX12_unit_144 (vs := []) rfl rfl (Nat.le_of_ble_eq_true rfl) (Nat.le_of_ble_eq_true rfl) rfl (c_X12_misplaced _ hI.1) (fun h110 ph110 => ?_)
                    obtain ⟨Kh110, g_h110⟩ := ph110
                    have Ih110 := hI.tr Kh110 (prBW_sub rfl rfl rfl)
                    have th110_224_3 := Kh110.2 224 3 rfl
                    have th110_224_6 := Kh110.2 224 6 rfl
                    have th110_224_7 := Kh110.2 224 7 rfl
                    have th110_224_8 := Kh110.2 224 8 rfl
                    have th110_224_37 := Kh110.2 224 37 rfl
                    have th110_224_38 := Kh110.2 224 38 rfl
                    have th110_224_39 := Kh110.2 224 39 rfl
                    have th110_224_40 := Kh110.2 224 40 rfl
                    have th110_224_41 := Kh110.2 224 41 rfl
                    refine sx_aload_n dX12_unit_147 rfl ?_
                    refine sx_callVz lk_X12_330 cl_12 s_224 (by decide) dX12_unit_148 (vs := []) rfl rfl (Nat.le_of_ble_eq_true rfl) (Nat.le_of_ble_eq_true rfl) rfl (c_X12_isGood _ Ih110.1) (fun x113 h112 zx113 ph112 => ?_)
                    obtain ⟨rfl, p_x113⟩ := ph112
                    refine sx_if_ne (tgt := 156) dX12_unit_151 (by decide) (fun c114 => ?_) (fun c114 => ?_)
                    ·
                      exfalso; omega
                    ·
                      replace p_x113 := mt p_x113.mpr (show ¬ (x113 = 1) by rw [c114]; decide)
                      clear zx113
                      refine sx_iconst dX12_unit_154 ⟨by decide, by decide⟩ ?_
                      refine sx_ireturn dX12_unit_155 ?_
                      exact ⟨_, rfl, by omega, ⟨Ih110, by omega, by omega, fun q => by exfalso; omega, (eE_eq (by rw [show h110 229 _ = _ from Kh110.2 229 _ rfl]) (by omega) (fun k => by rw [show h110 247 k = _ from Kh110.2 247 k rfl]) (by rw [show h110 244 _ = _ from Kh110.2 244 _ rfl]) hEE), fun q => by exfalso; omega⟩⟩
          ·
            refine sx_iload_n dX12_unit_117 rfl ?_
            refine sx_if_eq (tgt := 143) dX12_unit_118 (by decide) (fun c115 => ?_) (fun c115 => ?_)
            ·
              clear p_x4
              clear zx4
              refine sx_aload_n dX12_unit_143 rfl ?_
              refine sx_callVv lk_X12_337 cl_12 s_224 (by decide) dX12_unit_144 (vs := []) rfl rfl (Nat.le_of_ble_eq_true rfl) (Nat.le_of_ble_eq_true rfl) rfl (c_X12_misplaced _ hI.1) (fun h116 ph116 => ?_)
              obtain ⟨Kh116, g_h116⟩ := ph116
              have Ih116 := hI.tr Kh116 (prBW_sub rfl rfl rfl)
              have th116_224_3 := Kh116.2 224 3 rfl
              have th116_224_6 := Kh116.2 224 6 rfl
              have th116_224_7 := Kh116.2 224 7 rfl
              have th116_224_8 := Kh116.2 224 8 rfl
              have th116_224_37 := Kh116.2 224 37 rfl
              have th116_224_38 := Kh116.2 224 38 rfl
              have th116_224_39 := Kh116.2 224 39 rfl
              have th116_224_40 := Kh116.2 224 40 rfl
              have th116_224_41 := Kh116.2 224 41 rfl
              refine sx_aload_n dX12_unit_147 rfl ?_
              refine sx_callVz lk_X12_330 cl_12 s_224 (by decide) dX12_unit_148 (vs := []) rfl rfl (Nat.le_of_ble_eq_true rfl) (Nat.le_of_ble_eq_true rfl) rfl (c_X12_isGood _ Ih116.1) (fun x119 h118 zx119 ph118 => ?_)
              obtain ⟨rfl, p_x119⟩ := ph118
              refine sx_if_ne (tgt := 156) dX12_unit_151 (by decide) (fun c120 => ?_) (fun c120 => ?_)
              ·
                exfalso; omega
              ·
                replace p_x119 := mt p_x119.mpr (show ¬ (x119 = 1) by rw [c120]; decide)
                clear zx119
                refine sx_iconst dX12_unit_154 ⟨by decide, by decide⟩ ?_
                refine sx_ireturn dX12_unit_155 ?_
                exact ⟨_, rfl, by omega, ⟨Ih116, by omega, by omega, fun q => by exfalso; omega, (eE_eq (by rw [show h116 229 _ = _ from Kh116.2 229 _ rfl]) (by omega) (fun k => by rw [show h116 247 k = _ from Kh116.2 247 k rfl]) (by rw [show h116 244 _ = _ from Kh116.2 244 _ rfl]) hEE), fun q => by exfalso; omega⟩⟩
            ·
              have vx4 : x4 = 1 := by rcases zx4 with q | q; (exact absurd q c115); exact q
              replace p_x4 := p_x4 vx4
              clear zx4
              refine sx_iload dX12_unit_121 rfl ?_
              refine sx_if_ne (tgt := 143) dX12_unit_123 (by decide) (fun c121 => ?_) (fun c121 => ?_)
              ·
                refine sx_aload_n dX12_unit_143 rfl ?_
                refine sx_callVv lk_X12_337 cl_12 s_224 (by decide) dX12_unit_144 (vs := []) rfl rfl (Nat.le_of_ble_eq_true rfl) (Nat.le_of_ble_eq_true rfl) rfl (c_X12_misplaced _ hI.1) (fun h122 ph122 => ?_)
                obtain ⟨Kh122, g_h122⟩ := ph122
                have Ih122 := hI.tr Kh122 (prBW_sub rfl rfl rfl)
                have th122_224_3 := Kh122.2 224 3 rfl
                have th122_224_6 := Kh122.2 224 6 rfl
                have th122_224_7 := Kh122.2 224 7 rfl
                have th122_224_8 := Kh122.2 224 8 rfl
                have th122_224_37 := Kh122.2 224 37 rfl
                have th122_224_38 := Kh122.2 224 38 rfl
                have th122_224_39 := Kh122.2 224 39 rfl
                have th122_224_40 := Kh122.2 224 40 rfl
                have th122_224_41 := Kh122.2 224 41 rfl
                refine sx_aload_n dX12_unit_147 rfl ?_
                refine sx_callVz lk_X12_330 cl_12 s_224 (by decide) dX12_unit_148 (vs := []) rfl rfl (Nat.le_of_ble_eq_true rfl) (Nat.le_of_ble_eq_true rfl) rfl (c_X12_isGood _ Ih122.1) (fun x125 h124 zx125 ph124 => ?_)
                obtain ⟨rfl, p_x125⟩ := ph124
                refine sx_if_ne (tgt := 156) dX12_unit_151 (by decide) (fun c126 => ?_) (fun c126 => ?_)
                ·
                  exfalso; omega
                ·
                  replace p_x125 := mt p_x125.mpr (show ¬ (x125 = 1) by rw [c126]; decide)
                  clear zx125
                  refine sx_iconst dX12_unit_154 ⟨by decide, by decide⟩ ?_
                  refine sx_ireturn dX12_unit_155 ?_
                  exact ⟨_, rfl, by omega, ⟨Ih122, by omega, by omega, fun q => by exfalso; omega, (eE_eq (by rw [show h122 229 _ = _ from Kh122.2 229 _ rfl]) (by omega) (fun k => by rw [show h122 247 k = _ from Kh122.2 247 k rfl]) (by rw [show h122 244 _ = _ from Kh122.2 244 _ rfl]) hEE), fun q => by exfalso; omega⟩⟩
              ·
                refine sx_iload_n dX12_unit_126 rfl ?_
                refine sx_if_ne (tgt := 134) dX12_unit_127 (by decide) (fun c127 => ?_) (fun c127 => ?_)
                ·
                  first | exact absurd c127 c61 | exact absurd c61 c127
                ·
                  refine sx_iload_n dX12_unit_130 rfl ?_
                  refine sx_if_eq (tgt := 147) dX12_unit_131 (by decide) (fun c128 => ?_) (fun c128 => ?_)
                  ·
                    first | exact absurd c128 c115 | exact absurd c115 c128
                  ·
                    refine sx_aload_n dX12_unit_134 rfl ?_
                    refine sx_getI (k := 39) cl_12 fl_X12_461 dX12_unit_135 s_224 (by decide) rfl (by decide) ?_
                    refine sx_bipush dX12_unit_138 ⟨by decide, by decide, by decide⟩ ?_
                    refine sx_icmp_ne (tgt := 147) dX12_unit_140 (by decide) (fun c129 => ?_) (fun c129 => ?_)
                    ·
                      refine sx_aload_n dX12_unit_147 rfl ?_
                      refine sx_callVz lk_X12_330 cl_12 s_224 (by decide) dX12_unit_148 (vs := []) rfl rfl (Nat.le_of_ble_eq_true rfl) (Nat.le_of_ble_eq_true rfl) rfl (c_X12_isGood _ hI.1) (fun x131 h130 zx131 ph130 => ?_)
                      obtain ⟨rfl, p_x131⟩ := ph130
                      refine sx_if_ne (tgt := 156) dX12_unit_151 (by decide) (fun c132 => ?_) (fun c132 => ?_)
                      ·
                        have vx131 : x131 = 1 := by rcases zx131 with q | q; (exact absurd q c132); exact q
                        replace p_x131 := p_x131.mp vx131
                        clear zx131
                        refine sx_kill 5 ?_
                        exact J156_n9 () (by omega) (by omega)
                      ·
                        exfalso; omega
                    ·
                      refine sx_aload_n dX12_unit_143 rfl ?_
                      refine sx_callVv lk_X12_337 cl_12 s_224 (by decide) dX12_unit_144 (vs := []) rfl rfl (Nat.le_of_ble_eq_true rfl) (Nat.le_of_ble_eq_true rfl) rfl (c_X12_misplaced _ hI.1) (fun h133 ph133 => ?_)
                      obtain ⟨Kh133, g_h133⟩ := ph133
                      have Ih133 := hI.tr Kh133 (prBW_sub rfl rfl rfl)
                      have th133_224_3 := Kh133.2 224 3 rfl
                      have th133_224_6 := Kh133.2 224 6 rfl
                      have th133_224_7 := Kh133.2 224 7 rfl
                      have th133_224_8 := Kh133.2 224 8 rfl
                      have th133_224_37 := Kh133.2 224 37 rfl
                      have th133_224_38 := Kh133.2 224 38 rfl
                      have th133_224_39 := Kh133.2 224 39 rfl
                      have th133_224_40 := Kh133.2 224 40 rfl
                      have th133_224_41 := Kh133.2 224 41 rfl
                      refine sx_aload_n dX12_unit_147 rfl ?_
                      refine sx_callVz lk_X12_330 cl_12 s_224 (by decide) dX12_unit_148 (vs := []) rfl rfl (Nat.le_of_ble_eq_true rfl) (Nat.le_of_ble_eq_true rfl) rfl (c_X12_isGood _ Ih133.1) (fun x136 h135 zx136 ph135 => ?_)
                      obtain ⟨rfl, p_x136⟩ := ph135
                      refine sx_if_ne (tgt := 156) dX12_unit_151 (by decide) (fun c137 => ?_) (fun c137 => ?_)
                      ·
                        exfalso; omega
                      ·
                        replace p_x136 := mt p_x136.mpr (show ¬ (x136 = 1) by rw [c137]; decide)
                        clear zx136
                        refine sx_iconst dX12_unit_154 ⟨by decide, by decide⟩ ?_
                        refine sx_ireturn dX12_unit_155 ?_
                        exact ⟨_, rfl, by omega, ⟨Ih133, by omega, by omega, fun q => by exfalso; omega, (eE_eq (by rw [show h133 229 _ = _ from Kh133.2 229 _ rfl]) (by omega) (fun k => by rw [show h133 247 k = _ from Kh133.2 247 k rfl]) (by rw [show h133 244 _ = _ from Kh133.2 244 _ rfl]) hEE), fun q => by exfalso; omega⟩⟩
    refine sx_aload_n dX12_unit_70 rfl ?_
    refine sx_getS (k := 13) (t := 229) cl_12 fl_X12_27 dX12_unit_71 s_224 (by decide) rfl (by decide) ?_
    refine sx_aload_n dX12_unit_74 rfl ?_
    refine sx_getI (k := 37) cl_12 fl_X12_340 dX12_unit_75 s_224 (by decide) rfl (by decide) ?_
    have r138 : (0 : Int) ≤ h0 224 37 ∧ h0 224 37 ≤ 1 := hI.1 224 37
    refine sy_iaF (F := fun z => (0 : Int) ≤ z ∧ z ≤ 60) dX12_unit_78 s_229 (by decide) (by decide) ⟨by omega, by omega⟩ (hI.1 229 _) (fun r139 => ?_)
    refine sx_bipush dX12_unit_79 ⟨by decide, by decide, by decide⟩ ?_
    refine sx_icmp_eq (tgt := 93) dX12_unit_81 (by decide) (fun c140 => ?_) (fun c140 => ?_)
    ·
      refine sx_iconst dX12_unit_93 ⟨by decide, by decide⟩ ?_
      refine sx_goto (tgt := 98) dX12_unit_94 (by decide) ?_
      refine sx_istore dX12_unit_98 (by decide) ?_
      exact J100_n7 _ (by omega)
    ·
      refine sx_aload_n dX12_unit_84 rfl ?_
      refine sx_getI (k := 41) cl_12 fl_X12_452 dX12_unit_85 s_224 (by decide) rfl (by decide) ?_
      refine sx_bipush dX12_unit_88 ⟨by decide, by decide, by decide⟩ ?_
      refine sx_icmp_ne (tgt := 97) dX12_unit_90 (by decide) (fun c141 => ?_) (fun c141 => ?_)
      ·
        refine sx_iconst dX12_unit_97 ⟨by decide, by decide⟩ ?_
        refine sx_istore dX12_unit_98 (by decide) ?_
        exact J100_n7 _ (by omega)
      ·
        refine sx_iconst dX12_unit_93 ⟨by decide, by decide⟩ ?_
        refine sx_goto (tgt := 98) dX12_unit_94 (by decide) ?_
        refine sx_istore dX12_unit_98 (by decide) ?_
        exact J100_n7 _ (by omega)
  refine sx_aload_n dX12_unit_0 rfl ?_
  refine sx_getS (k := 33) (t := 249) cl_12 fl_X12_88 dX12_unit_1 s_224 (by decide) rfl (by decide) ?_
  refine sx_aload_n dX12_unit_4 rfl ?_
  refine sx_getI (k := 40) cl_12 fl_X12_458 dX12_unit_5 s_224 (by decide) rfl (by decide) ?_
  refine sx_iconst dX12_unit_8 ⟨by decide, by decide⟩ ?_
  refine sx_isub dX12_unit_9 ?_
  refine sy_topw (by omega) ?_
  refine sx_iaload dX12_unit_10 s_249 (by decide) (by decide) ⟨by omega, by omega⟩ ?_
  refine sx_iconst dX12_unit_11 ⟨by decide, by decide⟩ ?_
  refine sx_icmp_le (tgt := 31) dX12_unit_12 (by decide) (fun c142 => ?_) (fun c142 => ?_)
  ·
    refine sx_iconst dX12_unit_31 ⟨by decide, by decide⟩ ?_
    refine sx_goto (tgt := 36) dX12_unit_32 (by decide) ?_
    refine sx_istore_n dX12_unit_36 (by decide) ?_
    refine sx_iload_n dX12_unit_37 rfl ?_
    refine sx_if_eq (tgt := 55) dX12_unit_38 (by decide) (fun c143 => ?_) (fun c143 => ?_)
    ·
      exact absurd c143 (by decide)
    ·
      refine sx_aload_n dX12_unit_41 rfl ?_
      refine sx_ldc2 kc_X12_256 ⟨by decide, by decide⟩ dX12_unit_42 ?_
      refine sx_callVz lk_X12_355 cl_12 s_224 (by decide) dX12_unit_45 (vs := [_]) rfl rfl (Nat.le_of_ble_eq_true rfl) (Nat.le_of_ble_eq_true rfl) rfl (c_X12_isWord _ hI.1 _) (fun x145 h144 zx145 ph144 => ?_)
      obtain ⟨rfl, p_x145⟩ := ph144
      refine sx_if_eq (tgt := 55) dX12_unit_48 (by decide) (fun c146 => ?_) (fun c146 => ?_)
      ·
        clear p_x145
        clear zx145
        refine sx_iconst dX12_unit_55 ⟨by decide, by decide⟩ ?_
        refine sx_istore_n dX12_unit_56 (by decide) ?_
        refine sx_kill 1 ?_
        exact J57_n1 _ (by omega) (by omega)
      ·
        have vx145 : x145 = 1 := by rcases zx145 with q | q; (exact absurd q c146); exact q
        replace p_x145 := p_x145 vx145
        clear zx145
        refine sx_iconst dX12_unit_51 ⟨by decide, by decide⟩ ?_
        refine sx_goto (tgt := 56) dX12_unit_52 (by decide) ?_
        refine sx_istore_n dX12_unit_56 (by decide) ?_
        refine sx_kill 1 ?_
        exact J57_n1 _ (by omega) (by omega)
  ·
    refine sx_aload_n dX12_unit_15 rfl ?_
    refine sx_getS (k := 33) (t := 249) cl_12 fl_X12_88 dX12_unit_16 s_224 (by decide) rfl (by decide) ?_
    refine sx_aload_n dX12_unit_19 rfl ?_
    refine sx_getI (k := 40) cl_12 fl_X12_458 dX12_unit_20 s_224 (by decide) rfl (by decide) ?_
    refine sx_iconst dX12_unit_23 ⟨by decide, by decide⟩ ?_
    refine sx_isub dX12_unit_24 ?_
    refine sy_topw (by omega) ?_
    refine sx_iaload dX12_unit_25 s_249 (by decide) (by decide) ⟨by omega, by omega⟩ ?_
    refine sx_bipush dX12_unit_26 ⟨by decide, by decide, by decide⟩ ?_
    refine sx_icmp_lt (tgt := 35) dX12_unit_28 (by decide) (fun c147 => ?_) (fun c147 => ?_)
    ·
      refine sx_iconst dX12_unit_35 ⟨by decide, by decide⟩ ?_
      refine sx_istore_n dX12_unit_36 (by decide) ?_
      refine sx_iload_n dX12_unit_37 rfl ?_
      refine sx_if_eq (tgt := 55) dX12_unit_38 (by decide) (fun c148 => ?_) (fun c148 => ?_)
      ·
        refine sx_iconst dX12_unit_55 ⟨by decide, by decide⟩ ?_
        refine sx_istore_n dX12_unit_56 (by decide) ?_
        refine sx_kill 1 ?_
        exact J57_n1 _ (by omega) (by omega)
      ·
        exact absurd c148 (by decide)
    ·
      refine sx_iconst dX12_unit_31 ⟨by decide, by decide⟩ ?_
      refine sx_goto (tgt := 36) dX12_unit_32 (by decide) ?_
      refine sx_istore_n dX12_unit_36 (by decide) ?_
      refine sx_iload_n dX12_unit_37 rfl ?_
      refine sx_if_eq (tgt := 55) dX12_unit_38 (by decide) (fun c149 => ?_) (fun c149 => ?_)
      ·
        exact absurd c149 (by decide)
      ·
        refine sx_aload_n dX12_unit_41 rfl ?_
        refine sx_ldc2 kc_X12_256 ⟨by decide, by decide⟩ dX12_unit_42 ?_
        refine sx_callVz lk_X12_355 cl_12 s_224 (by decide) dX12_unit_45 (vs := [_]) rfl rfl (Nat.le_of_ble_eq_true rfl) (Nat.le_of_ble_eq_true rfl) rfl (c_X12_isWord _ hI.1 _) (fun x151 h150 zx151 ph150 => ?_)
        obtain ⟨rfl, p_x151⟩ := ph150
        refine sx_if_eq (tgt := 55) dX12_unit_48 (by decide) (fun c152 => ?_) (fun c152 => ?_)
        ·
          clear p_x151
          clear zx151
          refine sx_iconst dX12_unit_55 ⟨by decide, by decide⟩ ?_
          refine sx_istore_n dX12_unit_56 (by decide) ?_
          refine sx_kill 1 ?_
          exact J57_n1 _ (by omega) (by omega)
        ·
          have vx151 : x151 = 1 := by rcases zx151 with q | q; (exact absurd q c152); exact q
          replace p_x151 := p_x151 vx151
          clear zx151
          refine sx_iconst dX12_unit_51 ⟨by decide, by decide⟩ ?_
          refine sx_goto (tgt := 56) dX12_unit_52 (by decide) ?_
          refine sx_istore_n dX12_unit_56 (by decide) ?_
          refine sx_kill 1 ?_
          exact J57_n1 _ (by omega) (by omega)
set_option maxRecDepth 20000 in
set_option maxHeartbeats 4000000 in
theorem c_X12_behindUnit {G : sw_G} (d : Nat) {h0 : sw_H} (hJ : mI h0) (b : Nat) (hr : h0 224 37 = 1 - (b : Int) ∧ b ≤ 1) (ht : h0 224 7 ≤ h0 224 3 ∧ (h0 224 8 = 0 → h0 224 7 = h0 224 3)) (hg : h0 224 4 = 0) (hE : eI h0 (1 - (b : Int)) 0)  : sw_E G NH SH (d + 4) mX12_behindUnit 0 [some (sw_r 224), none] [] h0 (sw_Qz (fun z h' => mK (prB b [4, 5, 6, 7, 8, 9, 10, 38, 39, 40, 41] [229, 247, 248, 249, 250]) h0 h' ∧ (h' 224 7 ≤ h' 224 3 ∧ (h' 224 8 = 0 → h' 224 7 = h' 224 3)) ∧ (h0 224 7 ≤ h' 224 7 ∧ (h0 224 8 = 0 → h' 224 8 = 0)) ∧ (imp (h' 224 4 = 0) (imp (1 ≤ h' 224 40) (eI h' (1 - (b : Int)) z) ∧ imp (h' 224 40 ≤ 0) (h' 224 38 - 560 * (1 - (b : Int)) ≤ 9 * h' 229 (1 - (b : Int)).toNat))) ∧ (eE h' (1 - (b : Int))) ∧ (imp (h' 224 4 = 0) (eGo h0 h')))) := by
  have hI : mK (prB b [4, 5, 6, 7, 8, 9, 10, 38, 39, 40, 41] [229, 247, 248, 249, 250]) h0 h0 := mK.refl hJ
  have rg := eP_rng hE (Or.inl rfl)
  obtain ⟨rg1, rg2, rg3, rg4, rg5, rg6, rg7, rg8, rg9, rg10⟩ := rg
  clear rg9
  rw [if_neg (by decide)] at rg3
  have hEE : eE h0 (1 - (b : Int)) := eP_eQ hE
  have bb : (b : Int) ≤ 1 ∧ 0 ≤ (b : Int) := by omega
  refine sx_aload_n dX12_behindUnit_0 rfl ?_
  refine sx_callVi lk_X12_479 cl_12 s_224 (by decide) dX12_behindUnit_1 (vs := []) rfl rfl (Nat.le_of_ble_eq_true rfl) (Nat.le_of_ble_eq_true rfl) rfl (c_X12_rankHere _ hI.1) (fun x2 h1 ph1 => ?_)
  obtain ⟨rfl, p_x2⟩ := ph1
  obtain ⟨rk1, rk2, rk3, rk4, rk5⟩ := p_x2
  refine sx_istore_n dX12_behindUnit_4 (by decide) ?_
  refine sx_iload_n dX12_behindUnit_5 rfl ?_
  refine sx_iconst dX12_behindUnit_6 ⟨by decide, by decide⟩ ?_
  refine sx_icmp_ne (tgt := 23) dX12_behindUnit_7 (by decide) (fun c3 => ?_) (fun c3 => ?_)
  ·
    refine sx_loop0 (fun (h : sw_H) => (mK (prB b [4, 5, 6, 7, 8, 9, 10, 38, 39, 40, 41] [229, 247, 248, 249, 250]) h0 h) ∧ (eI h (1 - (b : Int)) 0) ∧ (sgn h (h 224 6) = sgn h0 (h0 224 6)) ∧ (h 224 3 = h0 224 3) ∧ (h 224 4 = h0 224 4) ∧ (h 224 6 = h0 224 6) ∧ (h 224 7 = h0 224 7) ∧ (h 224 8 = h0 224 8) ∧ (h 224 37 = h0 224 37) ∧ (h 224 40 ≤ h0 224 40)) (fun (h : sw_H) => (h 224 40).toNat) (fun (h : sw_H) => sw_E G NH SH (d + 4) mX12_behindUnit 23 [some (sw_r 224), some (sw_i x2)] [] h (sw_Qz (fun z h' => mK (prB b [4, 5, 6, 7, 8, 9, 10, 38, 39, 40, 41] [229, 247, 248, 249, 250]) h0 h' ∧ (h' 224 7 ≤ h' 224 3 ∧ (h' 224 8 = 0 → h' 224 7 = h' 224 3)) ∧ (h0 224 7 ≤ h' 224 7 ∧ (h0 224 8 = 0 → h' 224 8 = 0)) ∧ (imp (h' 224 4 = 0) (imp (1 ≤ h' 224 40) (eI h' (1 - (b : Int)) z) ∧ imp (h' 224 40 ≤ 0) (h' 224 38 - 560 * (1 - (b : Int)) ≤ 9 * h' 229 (1 - (b : Int)).toNat))) ∧ (eE h' (1 - (b : Int))) ∧ (imp (h' 224 4 = 0) (eGo h0 h'))))) ?_ _ ?_
    · rintro h4 ⟨Ih4, jE, jS, ji0, ji1, ji2, ji3, ji4, ji5, ji6⟩ ihh4
      try dsimp only at ihh4
      obtain ⟨rg1, rg2, rg3, rg4, rg5, rg6, rg7, rg8, rg9, rg10⟩ := eP_rng jE (Or.inl rfl)
      rw [if_neg (by decide)] at rg3
      have r29 : (0 : Int) ≤ h4 229 (1 - (b : Int)).toNat ∧ h4 229 (1 - (b : Int)).toNat ≤ 60 := Ih4.1 229 _
      have top := rg9 (h4 224 40 - 1).toNat (by omega)
      clear rg9
      refine sx_aload_n dX12_behindUnit_23 rfl ?_
      refine sx_getS (k := 33) (t := 249) cl_12 fl_X12_88 dX12_behindUnit_24 s_224 (by decide) rfl (by decide) ?_
      refine sx_aload_n dX12_behindUnit_27 rfl ?_
      refine sx_getI (k := 40) cl_12 fl_X12_458 dX12_behindUnit_28 s_224 (by decide) rfl (by decide) ?_
      refine sx_iconst dX12_behindUnit_31 ⟨by decide, by decide⟩ ?_
      refine sx_isub dX12_behindUnit_32 ?_
      refine sy_topw (by omega) ?_
      refine sx_iaload dX12_behindUnit_33 s_249 (by decide) (by decide) ⟨by omega, by omega⟩ ?_
      refine sx_bipush dX12_behindUnit_34 ⟨by decide, by decide, by decide⟩ ?_
      refine sx_icmp_gt (tgt := 104) dX12_behindUnit_36 (by decide) (fun c5 => ?_) (fun c5 => ?_)
      ·
        refine sx_iload_n dX12_behindUnit_104 rfl ?_
        refine sx_if_le (tgt := 147) dX12_behindUnit_105 (by decide) (fun c6 => ?_) (fun c6 => ?_)
        ·
          refine sx_aload_n dX12_behindUnit_147 rfl ?_
          refine sx_dupr dX12_behindUnit_148 ?_
          refine sx_getI (k := 40) cl_12 fl_X12_458 dX12_behindUnit_149 s_224 (by decide) rfl (by decide) ?_
          refine sx_iconst dX12_behindUnit_152 ⟨by decide, by decide⟩ ?_
          refine sx_isub dX12_behindUnit_153 ?_
          refine sy_topw (by omega) ?_
          refine sy_putI (k := 40) cl_12 fl_X12_458 dX12_behindUnit_154 s_224 (by decide) rfl (by decide) rfl rfl (fun h7 eh7 => ?_)
          have Ih7 := Ih4.up eh7 trivial rfl
          have th7_224_3 := eh7.2 (224) 3 (by decide)
          have th7_224_4 := eh7.2 (224) 4 (by decide)
          have th7_224_6 := eh7.2 (224) 6 (by decide)
          have th7_224_7 := eh7.2 (224) 7 (by decide)
          have th7_224_8 := eh7.2 (224) 8 (by decide)
          have th7_224_37 := eh7.2 (224) 37 (by decide)
          have th7_224_38 := eh7.2 (224) 38 (by decide)
          have th7_224_39 := eh7.2 (224) 39 (by decide)
          have th7_224_40 := eh7.1
          have th7_224_41 := eh7.2 (224) 41 (by decide)
          refine sx_aload_n dX12_behindUnit_157 rfl ?_
          refine sx_getS (k := 33) (t := 249) cl_12 fl_X12_88 dX12_behindUnit_158 s_224 (by decide) rfl (by decide) ?_
          refine sx_aload_n dX12_behindUnit_161 rfl ?_
          refine sx_getI (k := 40) cl_12 fl_X12_458 dX12_behindUnit_162 s_224 (by decide) rfl (by decide) ?_
          have ew1 : h7 249 (h7 224 40).toNat = h4 249 (h4 224 40 - 1).toNat := by rw [show (h7 224 40).toNat = (h4 224 40 - 1).toNat by omega]; all_goals rw [eh7.2 249 _ (fun q => absurd q.1 (by decide))]
          refine sx_iaload dX12_behindUnit_165 s_249 (by decide) (by decide) ⟨by omega, by omega⟩ ?_
          refine sx_bipush dX12_behindUnit_166 ⟨by decide, by decide, by decide⟩ ?_
          refine sx_icmp_ne (tgt := 191) dX12_behindUnit_168 (by decide) (fun c8 => ?_) (fun c8 => ?_)
          ·
            refine sx_iconst dX12_behindUnit_191 ⟨by decide, by decide⟩ ?_
            refine sx_ireturn dX12_behindUnit_192 ?_
            have en := eP_end jE (by omega)
            have EQ : eE h7 (1 - (b : Int)) := eE_eq (h := h4) (by rw [eh7.2 229 _ (fun q => absurd q.1 (by decide))]) (by omega) (fun k => by rw [eh7.2 247 k (fun q => absurd q.1 (by decide))]) (by rw [eh7.2 244 _ (fun q => absurd q.1 (by decide))]) (eP_eQ jE)
            have e29 : h7 229 (1 - (b : Int)).toNat = h4 229 (1 - (b : Int)).toNat := (by rw [eh7.2 229 _ (fun q => absurd q.1 (by decide))])
            exact ⟨_, rfl, by omega, ⟨Ih7, by omega, by omega, fun _ => ⟨fun q => by exfalso; omega, fun _ => by omega⟩, EQ, fun _ => Or.inr (by omega)⟩⟩
          ·
            refine sx_aload_n dX12_behindUnit_171 rfl ?_
            refine sx_dupr dX12_behindUnit_172 ?_
            refine sx_getI (k := 39) cl_12 fl_X12_461 dX12_behindUnit_173 s_224 (by decide) rfl (by decide) ?_
            refine sx_iconst dX12_behindUnit_176 ⟨by decide, by decide⟩ ?_
            refine sx_isub dX12_behindUnit_177 ?_
            refine sy_topw (by omega) ?_
            refine sy_putI (k := 39) cl_12 fl_X12_461 dX12_behindUnit_178 s_224 (by decide) rfl (by decide) rfl rfl (fun h9 eh9 => ?_)
            have Ih9 := Ih7.up eh9 trivial rfl
            have th9_224_3 := eh9.2 (224) 3 (by decide)
            have th9_224_4 := eh9.2 (224) 4 (by decide)
            have th9_224_6 := eh9.2 (224) 6 (by decide)
            have th9_224_7 := eh9.2 (224) 7 (by decide)
            have th9_224_8 := eh9.2 (224) 8 (by decide)
            have th9_224_37 := eh9.2 (224) 37 (by decide)
            have th9_224_38 := eh9.2 (224) 38 (by decide)
            have th9_224_39 := eh9.1
            have th9_224_40 := eh9.2 (224) 40 (by decide)
            have th9_224_41 := eh9.2 (224) 41 (by decide)
            refine sx_aload_n dX12_behindUnit_181 rfl ?_
            refine sx_aload_n dX12_behindUnit_182 rfl ?_
            refine sx_bipush dX12_behindUnit_183 ⟨by decide, by decide, by decide⟩ ?_
            refine sx_callVz lk_X12_379 cl_12 s_224 (by decide) dX12_behindUnit_185 (vs := [_]) rfl rfl (Nat.le_of_ble_eq_true rfl) (Nat.le_of_ble_eq_true rfl) rfl (c2_X12_isSignHere _ Ih9.1 _) (fun x11 h10 zx11 ph10 => ?_)
            obtain ⟨rfl, p_x11⟩ := ph10
            refine sx_callVv lk_X12_382 cl_12 s_224 (by decide) dX12_behindUnit_188 (vs := [_]) rfl rfl (Nat.le_of_ble_eq_true rfl) (Nat.le_of_ble_eq_true rfl) rfl (c_X12_must _ Ih9.1 _ (by omega)) (fun h12 ph12 => ?_)
            obtain ⟨Kh12, a_h12, m_h12, g_h12⟩ := ph12
            have Ih12 := Ih9.tr Kh12 (prBW_sub rfl rfl rfl)
            have th12_224_3 := Kh12.2 224 3 rfl
            have th12_224_37 := Kh12.2 224 37 rfl
            have th12_224_38 := Kh12.2 224 38 rfl
            have th12_224_39 := Kh12.2 224 39 rfl
            have th12_224_40 := Kh12.2 224 40 rfl
            have th12_224_41 := Kh12.2 224 41 rfl
            refine sx_iconst dX12_behindUnit_191 ⟨by decide, by decide⟩ ?_
            refine sx_ireturn dX12_behindUnit_192 ?_
            have p2 := (eP_shut jE (by omega)).1
            have EI : eI h12 (1 - (b : Int)) 0 := eI_shut (h := h4) jE (by omega) (by omega) (by omega) (by rw [show h12 229 _ = _ from Kh12.2 229 _ rfl, eh9.2 229 _ (fun q => absurd q.1 (by decide)), eh7.2 229 _ (fun q => absurd q.1 (by decide))]) (by omega) (by omega) (fun k => by rw [show h12 249 k = _ from Kh12.2 249 k rfl, eh9.2 249 k (fun q => absurd q.1 (by decide)), eh7.2 249 k (fun q => absurd q.1 (by decide))]) (fun k => by rw [show h12 250 k = _ from Kh12.2 250 k rfl, eh9.2 250 k (fun q => absurd q.1 (by decide)), eh7.2 250 k (fun q => absurd q.1 (by decide))]) (fun k => by rw [show h12 247 k = _ from Kh12.2 247 k rfl, eh9.2 247 k (fun q => absurd q.1 (by decide)), eh7.2 247 k (fun q => absurd q.1 (by decide))]) (by rw [show h12 244 _ = _ from Kh12.2 244 _ rfl, eh9.2 244 _ (fun q => absurd q.1 (by decide)), eh7.2 244 _ (fun q => absurd q.1 (by decide))])
            exact ⟨_, rfl, by omega, ⟨Ih12, by omega, by omega, fun _ => ⟨fun _ => EI, fun q => by exfalso; omega⟩, eP_eQ EI, fun _ => Or.inr (by omega)⟩⟩
        ·
          refine sx_aload_n dX12_behindUnit_108 rfl ?_
          refine sx_iload_n dX12_behindUnit_109 rfl ?_
          refine sx_iload_n dX12_behindUnit_110 rfl ?_
          refine sx_iconst dX12_behindUnit_111 ⟨by decide, by decide⟩ ?_
          refine sx_icmp_ne (tgt := 120) dX12_behindUnit_112 (by decide) (fun c14 => ?_) (fun c14 => ?_)
          ·
            refine sx_iload_n dX12_behindUnit_120 rfl ?_
            refine sx_iconst dX12_behindUnit_121 ⟨by decide, by decide⟩ ?_
            refine sx_icmp_ne (tgt := 130) dX12_behindUnit_122 (by decide) (fun c15 => ?_) (fun c15 => ?_)
            ·
              refine sx_aload_n dX12_behindUnit_130 rfl ?_
              refine sx_aload_n dX12_behindUnit_131 rfl ?_
              refine sx_getI (k := 6) cl_12 fl_X12_295 dX12_behindUnit_132 s_224 (by decide) rfl (by decide) ?_
              have r16 : (0 : Int) ≤ h4 224 6 ∧ h4 224 6 ≤ 1700 := Ih4.1 224 6
              refine sx_callVi lk_X12_298 cl_12 s_224 (by decide) dX12_behindUnit_135 (vs := [_]) rfl rfl (Nat.le_of_ble_eq_true rfl) (Nat.le_of_ble_eq_true rfl) rfl (c_X12_sign _ Ih4.1 _ (by omega)) (fun x18 h17 ph17 => ?_)
              obtain ⟨rfl, p_x18⟩ := ph17
              have hop : opS x18 := by rw [p_x18.2.2.2, jS]; exact rk5 (by omega)
              refine sx_callVv lk_X12_464 cl_12 s_224 (by decide) dX12_behindUnit_138 (vs := [_, _]) rfl rfl (Nat.le_of_ble_eq_true rfl) (Nat.le_of_ble_eq_true rfl) rfl (c_X12_pushE _ Ih4.1 _ _ (by omega)) (fun h19 ph19 => ?_)
              obtain ⟨Kh19, c_h19, w_h19, s_h19⟩ := ph19
              have Ih19 := Ih4.tr Kh19 (prBW_sub rfl rfl rfl)
              have th19_224_3 := Kh19.2 224 3 rfl
              have th19_224_4 := Kh19.2 224 4 rfl
              have th19_224_6 := Kh19.2 224 6 rfl
              have th19_224_7 := Kh19.2 224 7 rfl
              have th19_224_8 := Kh19.2 224 8 rfl
              have th19_224_37 := Kh19.2 224 37 rfl
              have th19_224_38 := Kh19.2 224 38 rfl
              have th19_224_39 := Kh19.2 224 39 rfl
              have th19_224_41 := Kh19.2 224 41 rfl
              refine sx_aload_n dX12_behindUnit_141 rfl ?_
              refine sx_callVv lk_X12_334 cl_12 s_224 (by decide) dX12_behindUnit_142 (vs := []) rfl rfl (Nat.le_of_ble_eq_true rfl) (Nat.le_of_ble_eq_true rfl) rfl (c_X12_goOn _ Ih19.1 (by omega)) (fun h21 ph21 => ?_)
              obtain ⟨Kh21, a_h21, s_h21, l_h21⟩ := ph21
              have Ih21 := Ih19.tr Kh21 (prBW_sub rfl rfl rfl)
              have th21_224_3 := Kh21.2 224 3 rfl
              have th21_224_4 := Kh21.2 224 4 rfl
              have th21_224_37 := Kh21.2 224 37 rfl
              have th21_224_38 := Kh21.2 224 38 rfl
              have th21_224_39 := Kh21.2 224 39 rfl
              have th21_224_40 := Kh21.2 224 40 rfl
              have th21_224_41 := Kh21.2 224 41 rfl
              refine sx_iconst dX12_behindUnit_145 ⟨by decide, by decide⟩ ?_
              refine sx_ireturn dX12_behindUnit_146 ?_
              have EI : eI h21 (1 - (b : Int)) 1 := eI_two (h := h4) (x := x2) jE (by omega) hop (by omega) (by omega) (by rw [show h21 229 _ = _ from Kh21.2 229 _ rfl, show h19 229 _ = _ from Kh19.2 229 _ rfl]) (by omega) (by omega) (fun k => by rw [show h21 249 k = _ from Kh21.2 249 k rfl, w_h19 k]; all_goals (try simp only [Nat.reduceEqDiff, false_and, if_false, true_and]); all_goals (by_cases q : (k : Int) = h4 224 40; (focus first | (rw [if_pos (by omega), if_pos q]; done) | (rw [if_pos (by omega), if_pos q]; omega)); (rw [if_neg (by omega), if_neg q]))) (fun k => by rw [show h21 250 k = _ from Kh21.2 250 k rfl, s_h19 k]; all_goals (try simp only [Nat.reduceEqDiff, false_and, if_false, true_and]); all_goals (by_cases q : (k : Int) = h4 224 40; (focus first | (rw [if_pos (by omega), if_pos q]; done) | (rw [if_pos (by omega), if_pos q]; omega)); (rw [if_neg (by omega), if_neg q]))) (fun k => by rw [show h21 247 k = _ from Kh21.2 247 k rfl, show h19 247 k = _ from Kh19.2 247 k rfl]) (by rw [show h21 244 _ = _ from Kh21.2 244 _ rfl, show h19 244 _ = _ from Kh19.2 244 _ rfl])
              exact ⟨_, rfl, by omega, ⟨Ih21, by omega, by omega, fun _ => ⟨fun _ => EI, fun q => by exfalso; omega⟩, eP_eQ EI, fun _ => Or.inl ⟨by omega, by omega, by omega⟩⟩⟩
            ·
              refine sx_bipush dX12_behindUnit_125 ⟨by decide, by decide, by decide⟩ ?_
              have hop : opS 124 := by unfold opS; omega
              refine sx_goto (tgt := 138) dX12_behindUnit_127 (by decide) ?_
              refine sx_callVv lk_X12_464 cl_12 s_224 (by decide) dX12_behindUnit_138 (vs := [_, _]) rfl rfl (Nat.le_of_ble_eq_true rfl) (Nat.le_of_ble_eq_true rfl) rfl (c_X12_pushE _ Ih4.1 _ _ (by omega)) (fun h23 ph23 => ?_)
              obtain ⟨Kh23, c_h23, w_h23, s_h23⟩ := ph23
              have Ih23 := Ih4.tr Kh23 (prBW_sub rfl rfl rfl)
              have th23_224_3 := Kh23.2 224 3 rfl
              have th23_224_4 := Kh23.2 224 4 rfl
              have th23_224_6 := Kh23.2 224 6 rfl
              have th23_224_7 := Kh23.2 224 7 rfl
              have th23_224_8 := Kh23.2 224 8 rfl
              have th23_224_37 := Kh23.2 224 37 rfl
              have th23_224_38 := Kh23.2 224 38 rfl
              have th23_224_39 := Kh23.2 224 39 rfl
              have th23_224_41 := Kh23.2 224 41 rfl
              refine sx_aload_n dX12_behindUnit_141 rfl ?_
              refine sx_callVv lk_X12_334 cl_12 s_224 (by decide) dX12_behindUnit_142 (vs := []) rfl rfl (Nat.le_of_ble_eq_true rfl) (Nat.le_of_ble_eq_true rfl) rfl (c_X12_goOn _ Ih23.1 (by omega)) (fun h25 ph25 => ?_)
              obtain ⟨Kh25, a_h25, s_h25, l_h25⟩ := ph25
              have Ih25 := Ih23.tr Kh25 (prBW_sub rfl rfl rfl)
              have th25_224_3 := Kh25.2 224 3 rfl
              have th25_224_4 := Kh25.2 224 4 rfl
              have th25_224_37 := Kh25.2 224 37 rfl
              have th25_224_38 := Kh25.2 224 38 rfl
              have th25_224_39 := Kh25.2 224 39 rfl
              have th25_224_40 := Kh25.2 224 40 rfl
              have th25_224_41 := Kh25.2 224 41 rfl
              refine sx_iconst dX12_behindUnit_145 ⟨by decide, by decide⟩ ?_
              refine sx_ireturn dX12_behindUnit_146 ?_
              have EI : eI h25 (1 - (b : Int)) 1 := eI_two (h := h4) (x := x2) jE (by omega) hop (by omega) (by omega) (by rw [show h25 229 _ = _ from Kh25.2 229 _ rfl, show h23 229 _ = _ from Kh23.2 229 _ rfl]) (by omega) (by omega) (fun k => by rw [show h25 249 k = _ from Kh25.2 249 k rfl, w_h23 k]; all_goals (try simp only [Nat.reduceEqDiff, false_and, if_false, true_and]); all_goals (by_cases q : (k : Int) = h4 224 40; (focus first | (rw [if_pos (by omega), if_pos q]; done) | (rw [if_pos (by omega), if_pos q]; omega)); (rw [if_neg (by omega), if_neg q]))) (fun k => by rw [show h25 250 k = _ from Kh25.2 250 k rfl, s_h23 k]; all_goals (try simp only [Nat.reduceEqDiff, false_and, if_false, true_and]); all_goals (by_cases q : (k : Int) = h4 224 40; (focus first | (rw [if_pos (by omega), if_pos q]; done) | (rw [if_pos (by omega), if_pos q]; omega)); (rw [if_neg (by omega), if_neg q]))) (fun k => by rw [show h25 247 k = _ from Kh25.2 247 k rfl, show h23 247 k = _ from Kh23.2 247 k rfl]) (by rw [show h25 244 _ = _ from Kh25.2 244 _ rfl, show h23 244 _ = _ from Kh23.2 244 _ rfl])
              exact ⟨_, rfl, by omega, ⟨Ih25, by omega, by omega, fun _ => ⟨fun _ => EI, fun q => by exfalso; omega⟩, eP_eQ EI, fun _ => Or.inl ⟨by omega, by omega, by omega⟩⟩⟩
          ·
            refine sx_bipush dX12_behindUnit_115 ⟨by decide, by decide, by decide⟩ ?_
            have hop : opS 38 := by unfold opS; omega
            refine sx_goto (tgt := 138) dX12_behindUnit_117 (by decide) ?_
            refine sx_callVv lk_X12_464 cl_12 s_224 (by decide) dX12_behindUnit_138 (vs := [_, _]) rfl rfl (Nat.le_of_ble_eq_true rfl) (Nat.le_of_ble_eq_true rfl) rfl (c_X12_pushE _ Ih4.1 _ _ (by omega)) (fun h27 ph27 => ?_)
            obtain ⟨Kh27, c_h27, w_h27, s_h27⟩ := ph27
            have Ih27 := Ih4.tr Kh27 (prBW_sub rfl rfl rfl)
            have th27_224_3 := Kh27.2 224 3 rfl
            have th27_224_4 := Kh27.2 224 4 rfl
            have th27_224_6 := Kh27.2 224 6 rfl
            have th27_224_7 := Kh27.2 224 7 rfl
            have th27_224_8 := Kh27.2 224 8 rfl
            have th27_224_37 := Kh27.2 224 37 rfl
            have th27_224_38 := Kh27.2 224 38 rfl
            have th27_224_39 := Kh27.2 224 39 rfl
            have th27_224_41 := Kh27.2 224 41 rfl
            refine sx_aload_n dX12_behindUnit_141 rfl ?_
            refine sx_callVv lk_X12_334 cl_12 s_224 (by decide) dX12_behindUnit_142 (vs := []) rfl rfl (Nat.le_of_ble_eq_true rfl) (Nat.le_of_ble_eq_true rfl) rfl (c_X12_goOn _ Ih27.1 (by omega)) (fun h29 ph29 => ?_)
            obtain ⟨Kh29, a_h29, s_h29, l_h29⟩ := ph29
            have Ih29 := Ih27.tr Kh29 (prBW_sub rfl rfl rfl)
            have th29_224_3 := Kh29.2 224 3 rfl
            have th29_224_4 := Kh29.2 224 4 rfl
            have th29_224_37 := Kh29.2 224 37 rfl
            have th29_224_38 := Kh29.2 224 38 rfl
            have th29_224_39 := Kh29.2 224 39 rfl
            have th29_224_40 := Kh29.2 224 40 rfl
            have th29_224_41 := Kh29.2 224 41 rfl
            refine sx_iconst dX12_behindUnit_145 ⟨by decide, by decide⟩ ?_
            refine sx_ireturn dX12_behindUnit_146 ?_
            have EI : eI h29 (1 - (b : Int)) 1 := eI_two (h := h4) (x := x2) jE (by omega) hop (by omega) (by omega) (by rw [show h29 229 _ = _ from Kh29.2 229 _ rfl, show h27 229 _ = _ from Kh27.2 229 _ rfl]) (by omega) (by omega) (fun k => by rw [show h29 249 k = _ from Kh29.2 249 k rfl, w_h27 k]; all_goals (try simp only [Nat.reduceEqDiff, false_and, if_false, true_and]); all_goals (by_cases q : (k : Int) = h4 224 40; (focus first | (rw [if_pos (by omega), if_pos q]; done) | (rw [if_pos (by omega), if_pos q]; omega)); (rw [if_neg (by omega), if_neg q]))) (fun k => by rw [show h29 250 k = _ from Kh29.2 250 k rfl, s_h27 k]; all_goals (try simp only [Nat.reduceEqDiff, false_and, if_false, true_and]); all_goals (by_cases q : (k : Int) = h4 224 40; (focus first | (rw [if_pos (by omega), if_pos q]; done) | (rw [if_pos (by omega), if_pos q]; omega)); (rw [if_neg (by omega), if_neg q]))) (fun k => by rw [show h29 247 k = _ from Kh29.2 247 k rfl, show h27 247 k = _ from Kh27.2 247 k rfl]) (by rw [show h29 244 _ = _ from Kh29.2 244 _ rfl, show h27 244 _ = _ from Kh27.2 244 _ rfl])
            exact ⟨_, rfl, by omega, ⟨Ih29, by omega, by omega, fun _ => ⟨fun _ => EI, fun q => by exfalso; omega⟩, eP_eQ EI, fun _ => Or.inl ⟨by omega, by omega, by omega⟩⟩⟩
      ·
        refine sx_aload_n dX12_behindUnit_39 rfl ?_
        refine sx_getS (k := 33) (t := 249) cl_12 fl_X12_88 dX12_behindUnit_40 s_224 (by decide) rfl (by decide) ?_
        refine sx_aload_n dX12_behindUnit_43 rfl ?_
        refine sx_getI (k := 40) cl_12 fl_X12_458 dX12_behindUnit_44 s_224 (by decide) rfl (by decide) ?_
        refine sx_iconst dX12_behindUnit_47 ⟨by decide, by decide⟩ ?_
        refine sx_isub dX12_behindUnit_48 ?_
        refine sy_topw (by omega) ?_
        refine sx_iaload dX12_behindUnit_49 s_249 (by decide) (by decide) ⟨by omega, by omega⟩ ?_
        refine sx_iload_n dX12_behindUnit_50 rfl ?_
        refine sx_icmp_lt (tgt := 104) dX12_behindUnit_51 (by decide) (fun c31 => ?_) (fun c31 => ?_)
        ·
          refine sx_iload_n dX12_behindUnit_104 rfl ?_
          refine sx_if_le (tgt := 147) dX12_behindUnit_105 (by decide) (fun c32 => ?_) (fun c32 => ?_)
          ·
            refine sx_aload_n dX12_behindUnit_147 rfl ?_
            refine sx_dupr dX12_behindUnit_148 ?_
            refine sx_getI (k := 40) cl_12 fl_X12_458 dX12_behindUnit_149 s_224 (by decide) rfl (by decide) ?_
            refine sx_iconst dX12_behindUnit_152 ⟨by decide, by decide⟩ ?_
            refine sx_isub dX12_behindUnit_153 ?_
            refine sy_topw (by omega) ?_
            refine sy_putI (k := 40) cl_12 fl_X12_458 dX12_behindUnit_154 s_224 (by decide) rfl (by decide) rfl rfl (fun h33 eh33 => ?_)
            have Ih33 := Ih4.up eh33 trivial rfl
            have th33_224_3 := eh33.2 (224) 3 (by decide)
            have th33_224_4 := eh33.2 (224) 4 (by decide)
            have th33_224_6 := eh33.2 (224) 6 (by decide)
            have th33_224_7 := eh33.2 (224) 7 (by decide)
            have th33_224_8 := eh33.2 (224) 8 (by decide)
            have th33_224_37 := eh33.2 (224) 37 (by decide)
            have th33_224_38 := eh33.2 (224) 38 (by decide)
            have th33_224_39 := eh33.2 (224) 39 (by decide)
            have th33_224_40 := eh33.1
            have th33_224_41 := eh33.2 (224) 41 (by decide)
            refine sx_aload_n dX12_behindUnit_157 rfl ?_
            refine sx_getS (k := 33) (t := 249) cl_12 fl_X12_88 dX12_behindUnit_158 s_224 (by decide) rfl (by decide) ?_
            refine sx_aload_n dX12_behindUnit_161 rfl ?_
            refine sx_getI (k := 40) cl_12 fl_X12_458 dX12_behindUnit_162 s_224 (by decide) rfl (by decide) ?_
            have ew1 : h33 249 (h33 224 40).toNat = h4 249 (h4 224 40 - 1).toNat := by rw [show (h33 224 40).toNat = (h4 224 40 - 1).toNat by omega]; all_goals rw [eh33.2 249 _ (fun q => absurd q.1 (by decide))]
            refine sx_iaload dX12_behindUnit_165 s_249 (by decide) (by decide) ⟨by omega, by omega⟩ ?_
            refine sx_bipush dX12_behindUnit_166 ⟨by decide, by decide, by decide⟩ ?_
            refine sx_icmp_ne (tgt := 191) dX12_behindUnit_168 (by decide) (fun c34 => ?_) (fun c34 => ?_)
            ·
              refine sx_iconst dX12_behindUnit_191 ⟨by decide, by decide⟩ ?_
              refine sx_ireturn dX12_behindUnit_192 ?_
              have en := eP_end jE (by omega)
              have EQ : eE h33 (1 - (b : Int)) := eE_eq (h := h4) (by rw [eh33.2 229 _ (fun q => absurd q.1 (by decide))]) (by omega) (fun k => by rw [eh33.2 247 k (fun q => absurd q.1 (by decide))]) (by rw [eh33.2 244 _ (fun q => absurd q.1 (by decide))]) (eP_eQ jE)
              have e29 : h33 229 (1 - (b : Int)).toNat = h4 229 (1 - (b : Int)).toNat := (by rw [eh33.2 229 _ (fun q => absurd q.1 (by decide))])
              exact ⟨_, rfl, by omega, ⟨Ih33, by omega, by omega, fun _ => ⟨fun q => by exfalso; omega, fun _ => by omega⟩, EQ, fun _ => Or.inr (by omega)⟩⟩
            ·
              refine sx_aload_n dX12_behindUnit_171 rfl ?_
              refine sx_dupr dX12_behindUnit_172 ?_
              refine sx_getI (k := 39) cl_12 fl_X12_461 dX12_behindUnit_173 s_224 (by decide) rfl (by decide) ?_
              refine sx_iconst dX12_behindUnit_176 ⟨by decide, by decide⟩ ?_
              refine sx_isub dX12_behindUnit_177 ?_
              refine sy_topw (by omega) ?_
              refine sy_putI (k := 39) cl_12 fl_X12_461 dX12_behindUnit_178 s_224 (by decide) rfl (by decide) rfl rfl (fun h35 eh35 => ?_)
              have Ih35 := Ih33.up eh35 trivial rfl
              have th35_224_3 := eh35.2 (224) 3 (by decide)
              have th35_224_4 := eh35.2 (224) 4 (by decide)
              have th35_224_6 := eh35.2 (224) 6 (by decide)
              have th35_224_7 := eh35.2 (224) 7 (by decide)
              have th35_224_8 := eh35.2 (224) 8 (by decide)
              have th35_224_37 := eh35.2 (224) 37 (by decide)
              have th35_224_38 := eh35.2 (224) 38 (by decide)
              have th35_224_39 := eh35.1
              have th35_224_40 := eh35.2 (224) 40 (by decide)
              have th35_224_41 := eh35.2 (224) 41 (by decide)
              refine sx_aload_n dX12_behindUnit_181 rfl ?_
              refine sx_aload_n dX12_behindUnit_182 rfl ?_
              refine sx_bipush dX12_behindUnit_183 ⟨by decide, by decide, by decide⟩ ?_
              refine sx_callVz lk_X12_379 cl_12 s_224 (by decide) dX12_behindUnit_185 (vs := [_]) rfl rfl (Nat.le_of_ble_eq_true rfl) (Nat.le_of_ble_eq_true rfl) rfl (c2_X12_isSignHere _ Ih35.1 _) (fun x37 h36 zx37 ph36 => ?_)
              obtain ⟨rfl, p_x37⟩ := ph36
              refine sx_callVv lk_X12_382 cl_12 s_224 (by decide) dX12_behindUnit_188 (vs := [_]) rfl rfl (Nat.le_of_ble_eq_true rfl) (Nat.le_of_ble_eq_true rfl) rfl (c_X12_must _ Ih35.1 _ (by omega)) (fun h38 ph38 => ?_)
              obtain ⟨Kh38, a_h38, m_h38, g_h38⟩ := ph38
              have Ih38 := Ih35.tr Kh38 (prBW_sub rfl rfl rfl)
              have th38_224_3 := Kh38.2 224 3 rfl
              have th38_224_37 := Kh38.2 224 37 rfl
              have th38_224_38 := Kh38.2 224 38 rfl
              have th38_224_39 := Kh38.2 224 39 rfl
              have th38_224_40 := Kh38.2 224 40 rfl
              have th38_224_41 := Kh38.2 224 41 rfl
              refine sx_iconst dX12_behindUnit_191 ⟨by decide, by decide⟩ ?_
              refine sx_ireturn dX12_behindUnit_192 ?_
              have p2 := (eP_shut jE (by omega)).1
              have EI : eI h38 (1 - (b : Int)) 0 := eI_shut (h := h4) jE (by omega) (by omega) (by omega) (by rw [show h38 229 _ = _ from Kh38.2 229 _ rfl, eh35.2 229 _ (fun q => absurd q.1 (by decide)), eh33.2 229 _ (fun q => absurd q.1 (by decide))]) (by omega) (by omega) (fun k => by rw [show h38 249 k = _ from Kh38.2 249 k rfl, eh35.2 249 k (fun q => absurd q.1 (by decide)), eh33.2 249 k (fun q => absurd q.1 (by decide))]) (fun k => by rw [show h38 250 k = _ from Kh38.2 250 k rfl, eh35.2 250 k (fun q => absurd q.1 (by decide)), eh33.2 250 k (fun q => absurd q.1 (by decide))]) (fun k => by rw [show h38 247 k = _ from Kh38.2 247 k rfl, eh35.2 247 k (fun q => absurd q.1 (by decide)), eh33.2 247 k (fun q => absurd q.1 (by decide))]) (by rw [show h38 244 _ = _ from Kh38.2 244 _ rfl, eh35.2 244 _ (fun q => absurd q.1 (by decide)), eh33.2 244 _ (fun q => absurd q.1 (by decide))])
              exact ⟨_, rfl, by omega, ⟨Ih38, by omega, by omega, fun _ => ⟨fun _ => EI, fun q => by exfalso; omega⟩, eP_eQ EI, fun _ => Or.inr (by omega)⟩⟩
          ·
            refine sx_aload_n dX12_behindUnit_108 rfl ?_
            refine sx_iload_n dX12_behindUnit_109 rfl ?_
            refine sx_iload_n dX12_behindUnit_110 rfl ?_
            refine sx_iconst dX12_behindUnit_111 ⟨by decide, by decide⟩ ?_
            refine sx_icmp_ne (tgt := 120) dX12_behindUnit_112 (by decide) (fun c40 => ?_) (fun c40 => ?_)
            ·
              refine sx_iload_n dX12_behindUnit_120 rfl ?_
              refine sx_iconst dX12_behindUnit_121 ⟨by decide, by decide⟩ ?_
              refine sx_icmp_ne (tgt := 130) dX12_behindUnit_122 (by decide) (fun c41 => ?_) (fun c41 => ?_)
              ·
                refine sx_aload_n dX12_behindUnit_130 rfl ?_
                refine sx_aload_n dX12_behindUnit_131 rfl ?_
                refine sx_getI (k := 6) cl_12 fl_X12_295 dX12_behindUnit_132 s_224 (by decide) rfl (by decide) ?_
                have r42 : (0 : Int) ≤ h4 224 6 ∧ h4 224 6 ≤ 1700 := Ih4.1 224 6
                refine sx_callVi lk_X12_298 cl_12 s_224 (by decide) dX12_behindUnit_135 (vs := [_]) rfl rfl (Nat.le_of_ble_eq_true rfl) (Nat.le_of_ble_eq_true rfl) rfl (c_X12_sign _ Ih4.1 _ (by omega)) (fun x44 h43 ph43 => ?_)
                obtain ⟨rfl, p_x44⟩ := ph43
                have hop : opS x44 := by rw [p_x44.2.2.2, jS]; exact rk5 (by omega)
                refine sx_callVv lk_X12_464 cl_12 s_224 (by decide) dX12_behindUnit_138 (vs := [_, _]) rfl rfl (Nat.le_of_ble_eq_true rfl) (Nat.le_of_ble_eq_true rfl) rfl (c_X12_pushE _ Ih4.1 _ _ (by omega)) (fun h45 ph45 => ?_)
                obtain ⟨Kh45, c_h45, w_h45, s_h45⟩ := ph45
                have Ih45 := Ih4.tr Kh45 (prBW_sub rfl rfl rfl)
                have th45_224_3 := Kh45.2 224 3 rfl
                have th45_224_4 := Kh45.2 224 4 rfl
                have th45_224_6 := Kh45.2 224 6 rfl
                have th45_224_7 := Kh45.2 224 7 rfl
                have th45_224_8 := Kh45.2 224 8 rfl
                have th45_224_37 := Kh45.2 224 37 rfl
                have th45_224_38 := Kh45.2 224 38 rfl
                have th45_224_39 := Kh45.2 224 39 rfl
                have th45_224_41 := Kh45.2 224 41 rfl
                refine sx_aload_n dX12_behindUnit_141 rfl ?_
                refine sx_callVv lk_X12_334 cl_12 s_224 (by decide) dX12_behindUnit_142 (vs := []) rfl rfl (Nat.le_of_ble_eq_true rfl) (Nat.le_of_ble_eq_true rfl) rfl (c_X12_goOn _ Ih45.1 (by omega)) (fun h47 ph47 => ?_)
                obtain ⟨Kh47, a_h47, s_h47, l_h47⟩ := ph47
                have Ih47 := Ih45.tr Kh47 (prBW_sub rfl rfl rfl)
                have th47_224_3 := Kh47.2 224 3 rfl
                have th47_224_4 := Kh47.2 224 4 rfl
                have th47_224_37 := Kh47.2 224 37 rfl
                have th47_224_38 := Kh47.2 224 38 rfl
                have th47_224_39 := Kh47.2 224 39 rfl
                have th47_224_40 := Kh47.2 224 40 rfl
                have th47_224_41 := Kh47.2 224 41 rfl
                refine sx_iconst dX12_behindUnit_145 ⟨by decide, by decide⟩ ?_
                refine sx_ireturn dX12_behindUnit_146 ?_
                have EI : eI h47 (1 - (b : Int)) 1 := eI_two (h := h4) (x := x2) jE (by omega) hop (by omega) (by omega) (by rw [show h47 229 _ = _ from Kh47.2 229 _ rfl, show h45 229 _ = _ from Kh45.2 229 _ rfl]) (by omega) (by omega) (fun k => by rw [show h47 249 k = _ from Kh47.2 249 k rfl, w_h45 k]; all_goals (try simp only [Nat.reduceEqDiff, false_and, if_false, true_and]); all_goals (by_cases q : (k : Int) = h4 224 40; (focus first | (rw [if_pos (by omega), if_pos q]; done) | (rw [if_pos (by omega), if_pos q]; omega)); (rw [if_neg (by omega), if_neg q]))) (fun k => by rw [show h47 250 k = _ from Kh47.2 250 k rfl, s_h45 k]; all_goals (try simp only [Nat.reduceEqDiff, false_and, if_false, true_and]); all_goals (by_cases q : (k : Int) = h4 224 40; (focus first | (rw [if_pos (by omega), if_pos q]; done) | (rw [if_pos (by omega), if_pos q]; omega)); (rw [if_neg (by omega), if_neg q]))) (fun k => by rw [show h47 247 k = _ from Kh47.2 247 k rfl, show h45 247 k = _ from Kh45.2 247 k rfl]) (by rw [show h47 244 _ = _ from Kh47.2 244 _ rfl, show h45 244 _ = _ from Kh45.2 244 _ rfl])
                exact ⟨_, rfl, by omega, ⟨Ih47, by omega, by omega, fun _ => ⟨fun _ => EI, fun q => by exfalso; omega⟩, eP_eQ EI, fun _ => Or.inl ⟨by omega, by omega, by omega⟩⟩⟩
              ·
                refine sx_bipush dX12_behindUnit_125 ⟨by decide, by decide, by decide⟩ ?_
                have hop : opS 124 := by unfold opS; omega
                refine sx_goto (tgt := 138) dX12_behindUnit_127 (by decide) ?_
                refine sx_callVv lk_X12_464 cl_12 s_224 (by decide) dX12_behindUnit_138 (vs := [_, _]) rfl rfl (Nat.le_of_ble_eq_true rfl) (Nat.le_of_ble_eq_true rfl) rfl (c_X12_pushE _ Ih4.1 _ _ (by omega)) (fun h49 ph49 => ?_)
                obtain ⟨Kh49, c_h49, w_h49, s_h49⟩ := ph49
                have Ih49 := Ih4.tr Kh49 (prBW_sub rfl rfl rfl)
                have th49_224_3 := Kh49.2 224 3 rfl
                have th49_224_4 := Kh49.2 224 4 rfl
                have th49_224_6 := Kh49.2 224 6 rfl
                have th49_224_7 := Kh49.2 224 7 rfl
                have th49_224_8 := Kh49.2 224 8 rfl
                have th49_224_37 := Kh49.2 224 37 rfl
                have th49_224_38 := Kh49.2 224 38 rfl
                have th49_224_39 := Kh49.2 224 39 rfl
                have th49_224_41 := Kh49.2 224 41 rfl
                refine sx_aload_n dX12_behindUnit_141 rfl ?_
                refine sx_callVv lk_X12_334 cl_12 s_224 (by decide) dX12_behindUnit_142 (vs := []) rfl rfl (Nat.le_of_ble_eq_true rfl) (Nat.le_of_ble_eq_true rfl) rfl (c_X12_goOn _ Ih49.1 (by omega)) (fun h51 ph51 => ?_)
                obtain ⟨Kh51, a_h51, s_h51, l_h51⟩ := ph51
                have Ih51 := Ih49.tr Kh51 (prBW_sub rfl rfl rfl)
                have th51_224_3 := Kh51.2 224 3 rfl
                have th51_224_4 := Kh51.2 224 4 rfl
                have th51_224_37 := Kh51.2 224 37 rfl
                have th51_224_38 := Kh51.2 224 38 rfl
                have th51_224_39 := Kh51.2 224 39 rfl
                have th51_224_40 := Kh51.2 224 40 rfl
                have th51_224_41 := Kh51.2 224 41 rfl
                refine sx_iconst dX12_behindUnit_145 ⟨by decide, by decide⟩ ?_
                refine sx_ireturn dX12_behindUnit_146 ?_
                have EI : eI h51 (1 - (b : Int)) 1 := eI_two (h := h4) (x := x2) jE (by omega) hop (by omega) (by omega) (by rw [show h51 229 _ = _ from Kh51.2 229 _ rfl, show h49 229 _ = _ from Kh49.2 229 _ rfl]) (by omega) (by omega) (fun k => by rw [show h51 249 k = _ from Kh51.2 249 k rfl, w_h49 k]; all_goals (try simp only [Nat.reduceEqDiff, false_and, if_false, true_and]); all_goals (by_cases q : (k : Int) = h4 224 40; (focus first | (rw [if_pos (by omega), if_pos q]; done) | (rw [if_pos (by omega), if_pos q]; omega)); (rw [if_neg (by omega), if_neg q]))) (fun k => by rw [show h51 250 k = _ from Kh51.2 250 k rfl, s_h49 k]; all_goals (try simp only [Nat.reduceEqDiff, false_and, if_false, true_and]); all_goals (by_cases q : (k : Int) = h4 224 40; (focus first | (rw [if_pos (by omega), if_pos q]; done) | (rw [if_pos (by omega), if_pos q]; omega)); (rw [if_neg (by omega), if_neg q]))) (fun k => by rw [show h51 247 k = _ from Kh51.2 247 k rfl, show h49 247 k = _ from Kh49.2 247 k rfl]) (by rw [show h51 244 _ = _ from Kh51.2 244 _ rfl, show h49 244 _ = _ from Kh49.2 244 _ rfl])
                exact ⟨_, rfl, by omega, ⟨Ih51, by omega, by omega, fun _ => ⟨fun _ => EI, fun q => by exfalso; omega⟩, eP_eQ EI, fun _ => Or.inl ⟨by omega, by omega, by omega⟩⟩⟩
            ·
              refine sx_bipush dX12_behindUnit_115 ⟨by decide, by decide, by decide⟩ ?_
              have hop : opS 38 := by unfold opS; omega
              refine sx_goto (tgt := 138) dX12_behindUnit_117 (by decide) ?_
              refine sx_callVv lk_X12_464 cl_12 s_224 (by decide) dX12_behindUnit_138 (vs := [_, _]) rfl rfl (Nat.le_of_ble_eq_true rfl) (Nat.le_of_ble_eq_true rfl) rfl (c_X12_pushE _ Ih4.1 _ _ (by omega)) (fun h53 ph53 => ?_)
              obtain ⟨Kh53, c_h53, w_h53, s_h53⟩ := ph53
              have Ih53 := Ih4.tr Kh53 (prBW_sub rfl rfl rfl)
              have th53_224_3 := Kh53.2 224 3 rfl
              have th53_224_4 := Kh53.2 224 4 rfl
              have th53_224_6 := Kh53.2 224 6 rfl
              have th53_224_7 := Kh53.2 224 7 rfl
              have th53_224_8 := Kh53.2 224 8 rfl
              have th53_224_37 := Kh53.2 224 37 rfl
              have th53_224_38 := Kh53.2 224 38 rfl
              have th53_224_39 := Kh53.2 224 39 rfl
              have th53_224_41 := Kh53.2 224 41 rfl
              refine sx_aload_n dX12_behindUnit_141 rfl ?_
              refine sx_callVv lk_X12_334 cl_12 s_224 (by decide) dX12_behindUnit_142 (vs := []) rfl rfl (Nat.le_of_ble_eq_true rfl) (Nat.le_of_ble_eq_true rfl) rfl (c_X12_goOn _ Ih53.1 (by omega)) (fun h55 ph55 => ?_)
              obtain ⟨Kh55, a_h55, s_h55, l_h55⟩ := ph55
              have Ih55 := Ih53.tr Kh55 (prBW_sub rfl rfl rfl)
              have th55_224_3 := Kh55.2 224 3 rfl
              have th55_224_4 := Kh55.2 224 4 rfl
              have th55_224_37 := Kh55.2 224 37 rfl
              have th55_224_38 := Kh55.2 224 38 rfl
              have th55_224_39 := Kh55.2 224 39 rfl
              have th55_224_40 := Kh55.2 224 40 rfl
              have th55_224_41 := Kh55.2 224 41 rfl
              refine sx_iconst dX12_behindUnit_145 ⟨by decide, by decide⟩ ?_
              refine sx_ireturn dX12_behindUnit_146 ?_
              have EI : eI h55 (1 - (b : Int)) 1 := eI_two (h := h4) (x := x2) jE (by omega) hop (by omega) (by omega) (by rw [show h55 229 _ = _ from Kh55.2 229 _ rfl, show h53 229 _ = _ from Kh53.2 229 _ rfl]) (by omega) (by omega) (fun k => by rw [show h55 249 k = _ from Kh55.2 249 k rfl, w_h53 k]; all_goals (try simp only [Nat.reduceEqDiff, false_and, if_false, true_and]); all_goals (by_cases q : (k : Int) = h4 224 40; (focus first | (rw [if_pos (by omega), if_pos q]; done) | (rw [if_pos (by omega), if_pos q]; omega)); (rw [if_neg (by omega), if_neg q]))) (fun k => by rw [show h55 250 k = _ from Kh55.2 250 k rfl, s_h53 k]; all_goals (try simp only [Nat.reduceEqDiff, false_and, if_false, true_and]); all_goals (by_cases q : (k : Int) = h4 224 40; (focus first | (rw [if_pos (by omega), if_pos q]; done) | (rw [if_pos (by omega), if_pos q]; omega)); (rw [if_neg (by omega), if_neg q]))) (fun k => by rw [show h55 247 k = _ from Kh55.2 247 k rfl, show h53 247 k = _ from Kh53.2 247 k rfl]) (by rw [show h55 244 _ = _ from Kh55.2 244 _ rfl, show h53 244 _ = _ from Kh53.2 244 _ rfl])
              exact ⟨_, rfl, by omega, ⟨Ih55, by omega, by omega, fun _ => ⟨fun _ => EI, fun q => by exfalso; omega⟩, eP_eQ EI, fun _ => Or.inl ⟨by omega, by omega, by omega⟩⟩⟩
        ·
          refine sx_aload_n dX12_behindUnit_54 rfl ?_
          refine sx_dupr dX12_behindUnit_55 ?_
          refine sx_getI (k := 40) cl_12 fl_X12_458 dX12_behindUnit_56 s_224 (by decide) rfl (by decide) ?_
          refine sx_iconst dX12_behindUnit_59 ⟨by decide, by decide⟩ ?_
          refine sx_isub dX12_behindUnit_60 ?_
          refine sy_topw (by omega) ?_
          refine sy_putI (k := 40) cl_12 fl_X12_458 dX12_behindUnit_61 s_224 (by decide) rfl (by decide) rfl rfl (fun h57 eh57 => ?_)
          have Ih57 := Ih4.up eh57 trivial rfl
          have th57_224_3 := eh57.2 (224) 3 (by decide)
          have th57_224_4 := eh57.2 (224) 4 (by decide)
          have th57_224_6 := eh57.2 (224) 6 (by decide)
          have th57_224_7 := eh57.2 (224) 7 (by decide)
          have th57_224_8 := eh57.2 (224) 8 (by decide)
          have th57_224_37 := eh57.2 (224) 37 (by decide)
          have th57_224_38 := eh57.2 (224) 38 (by decide)
          have th57_224_39 := eh57.2 (224) 39 (by decide)
          have th57_224_40 := eh57.1
          have th57_224_41 := eh57.2 (224) 41 (by decide)
          refine sx_aload_n dX12_behindUnit_64 rfl ?_
          refine sx_getS (k := 33) (t := 249) cl_12 fl_X12_88 dX12_behindUnit_65 s_224 (by decide) rfl (by decide) ?_
          refine sx_aload_n dX12_behindUnit_68 rfl ?_
          refine sx_getI (k := 40) cl_12 fl_X12_458 dX12_behindUnit_69 s_224 (by decide) rfl (by decide) ?_
          have ew1 : h57 249 (h57 224 40).toNat = h4 249 (h4 224 40 - 1).toNat := by rw [show (h57 224 40).toNat = (h4 224 40 - 1).toNat by omega]; all_goals rw [eh57.2 249 _ (fun q => absurd q.1 (by decide))]
          refine sx_iaload dX12_behindUnit_72 s_249 (by decide) (by decide) ⟨by omega, by omega⟩ ?_
          refine sx_iconst dX12_behindUnit_73 ⟨by decide, by decide⟩ ?_
          refine sx_icmp_ne (tgt := 87) dX12_behindUnit_74 (by decide) (fun c58 => ?_) (fun c58 => ?_)
          ·
            refine sx_aload_n dX12_behindUnit_87 rfl ?_
            refine sx_aload_n dX12_behindUnit_88 rfl ?_
            refine sx_getS (k := 34) (t := 250) cl_12 fl_X12_91 dX12_behindUnit_89 s_224 (by decide) rfl (by decide) ?_
            refine sx_aload_n dX12_behindUnit_92 rfl ?_
            refine sx_getI (k := 40) cl_12 fl_X12_458 dX12_behindUnit_93 s_224 (by decide) rfl (by decide) ?_
            have es1 : h57 250 (h57 224 40).toNat = h4 250 (h4 224 40 - 1).toNat := by rw [show (h57 224 40).toNat = (h4 224 40 - 1).toNat by omega]; all_goals rw [eh57.2 250 _ (fun q => absurd q.1 (by decide))]
            refine sx_iaload dX12_behindUnit_96 s_250 (by decide) (by decide) ⟨by omega, by omega⟩ ?_
            refine sx_iconst dX12_behindUnit_97 ⟨by decide, by decide⟩ ?_
            refine sx_callVv lk_X12_476 cl_12 s_224 (by decide) dX12_behindUnit_98 (vs := [_, _]) rfl rfl (Nat.le_of_ble_eq_true rfl) (Nat.le_of_ble_eq_true rfl) rfl (c_X12_emit _ Ih57.1 b _ _ (by omega)) (fun h59 ph59 => ?_)
            obtain ⟨Kh59, c_h59, v_h59⟩ := ph59
            have Ih59 := Ih57.tr Kh59 (prB_sub rfl rfl)
            have th59_224_3 := Kh59.2 224 3 rfl
            have th59_224_4 := Kh59.2 224 4 rfl
            have th59_224_6 := Kh59.2 224 6 rfl
            have th59_224_7 := Kh59.2 224 7 rfl
            have th59_224_8 := Kh59.2 224 8 rfl
            have th59_224_37 := Kh59.2 224 37 rfl
            have th59_224_39 := Kh59.2 224 39 rfl
            have th59_224_40 := Kh59.2 224 40 rfl
            have th59_224_41 := Kh59.2 224 41 rfl
            have eI2 : eI h59 (1 - (b : Int)) 0 := eI_pop (h := h4) (by omega) jE (by omega) (by omega) (by first | (rw [if_pos (by omega)]; omega) | (rw [if_neg (by omega)]; omega)) (by rw [show h59 229 _ = _ from Kh59.2 229 _ rfl, eh57.2 229 _ (fun q => absurd q.1 (by decide))]) (by omega) (by omega) (fun k => by rw [show h59 249 k = _ from Kh59.2 249 k rfl, eh57.2 249 k (fun q => absurd q.1 (by decide))]) (fun k => by rw [show h59 250 k = _ from Kh59.2 250 k rfl, eh57.2 250 k (fun q => absurd q.1 (by decide))]) (fun k => by rw [v_h59 k, eh57.2 247 k (fun q => absurd q.1 (by decide))]; all_goals (try rw [es1]); all_goals (by_cases q : (k : Int) = h4 224 38; (rw [if_pos (by omega), if_pos q]); (rw [if_neg (by omega), if_neg q]))) (by rw [show h59 244 _ = _ from Kh59.2 244 _ rfl, eh57.2 244 _ (fun q => absurd q.1 (by decide))])
            have sg2 : sgn h59 (h59 224 6) = sgn h0 (h0 224 6) := by rw [sgn_eq (h := h4) (by omega) (fun k => by rw [show h59 226 k = _ from Kh59.2 226 k rfl, eh57.2 226 k (fun q => absurd q.1 (by decide))]), show h59 224 6 = h4 224 6 by omega]; exact jS
            refine sx_goto (tgt := 23) dX12_behindUnit_101 (by decide) ?_
            exact ihh4 _ ⟨Ih59, by exact eI2, by exact sg2, by omega, by omega, by omega, by omega, by omega, by omega, by omega⟩ (by exact sy_dec (by omega) (by omega))
          ·
            refine sx_aload_n dX12_behindUnit_77 rfl ?_
            refine sx_dupr dX12_behindUnit_78 ?_
            refine sx_getI (k := 39) cl_12 fl_X12_461 dX12_behindUnit_79 s_224 (by decide) rfl (by decide) ?_
            refine sx_iconst dX12_behindUnit_82 ⟨by decide, by decide⟩ ?_
            refine sx_isub dX12_behindUnit_83 ?_
            refine sy_topw (by omega) ?_
            refine sy_putI (k := 39) cl_12 fl_X12_461 dX12_behindUnit_84 s_224 (by decide) rfl (by decide) rfl rfl (fun h61 eh61 => ?_)
            have Ih61 := Ih57.up eh61 trivial rfl
            have th61_224_3 := eh61.2 (224) 3 (by decide)
            have th61_224_4 := eh61.2 (224) 4 (by decide)
            have th61_224_6 := eh61.2 (224) 6 (by decide)
            have th61_224_7 := eh61.2 (224) 7 (by decide)
            have th61_224_8 := eh61.2 (224) 8 (by decide)
            have th61_224_37 := eh61.2 (224) 37 (by decide)
            have th61_224_38 := eh61.2 (224) 38 (by decide)
            have th61_224_39 := eh61.1
            have th61_224_40 := eh61.2 (224) 40 (by decide)
            have th61_224_41 := eh61.2 (224) 41 (by decide)
            refine sx_aload_n dX12_behindUnit_87 rfl ?_
            refine sx_aload_n dX12_behindUnit_88 rfl ?_
            refine sx_getS (k := 34) (t := 250) cl_12 fl_X12_91 dX12_behindUnit_89 s_224 (by decide) rfl (by decide) ?_
            refine sx_aload_n dX12_behindUnit_92 rfl ?_
            refine sx_getI (k := 40) cl_12 fl_X12_458 dX12_behindUnit_93 s_224 (by decide) rfl (by decide) ?_
            have es1 : h61 250 (h61 224 40).toNat = h4 250 (h4 224 40 - 1).toNat := by rw [show (h61 224 40).toNat = (h4 224 40 - 1).toNat by omega]; all_goals rw [eh61.2 250 _ (fun q => absurd q.1 (by decide)), eh57.2 250 _ (fun q => absurd q.1 (by decide))]
            refine sx_iaload dX12_behindUnit_96 s_250 (by decide) (by decide) ⟨by omega, by omega⟩ ?_
            refine sx_iconst dX12_behindUnit_97 ⟨by decide, by decide⟩ ?_
            refine sx_callVv lk_X12_476 cl_12 s_224 (by decide) dX12_behindUnit_98 (vs := [_, _]) rfl rfl (Nat.le_of_ble_eq_true rfl) (Nat.le_of_ble_eq_true rfl) rfl (c_X12_emit _ Ih61.1 b _ _ (by omega)) (fun h62 ph62 => ?_)
            obtain ⟨Kh62, c_h62, v_h62⟩ := ph62
            have Ih62 := Ih61.tr Kh62 (prB_sub rfl rfl)
            have th62_224_3 := Kh62.2 224 3 rfl
            have th62_224_4 := Kh62.2 224 4 rfl
            have th62_224_6 := Kh62.2 224 6 rfl
            have th62_224_7 := Kh62.2 224 7 rfl
            have th62_224_8 := Kh62.2 224 8 rfl
            have th62_224_37 := Kh62.2 224 37 rfl
            have th62_224_39 := Kh62.2 224 39 rfl
            have th62_224_40 := Kh62.2 224 40 rfl
            have th62_224_41 := Kh62.2 224 41 rfl
            have eI2 : eI h62 (1 - (b : Int)) 0 := eI_pop (h := h4) (by omega) jE (by omega) (by omega) (by first | (rw [if_pos (by omega)]; omega) | (rw [if_neg (by omega)]; omega)) (by rw [show h62 229 _ = _ from Kh62.2 229 _ rfl, eh61.2 229 _ (fun q => absurd q.1 (by decide)), eh57.2 229 _ (fun q => absurd q.1 (by decide))]) (by omega) (by omega) (fun k => by rw [show h62 249 k = _ from Kh62.2 249 k rfl, eh61.2 249 k (fun q => absurd q.1 (by decide)), eh57.2 249 k (fun q => absurd q.1 (by decide))]) (fun k => by rw [show h62 250 k = _ from Kh62.2 250 k rfl, eh61.2 250 k (fun q => absurd q.1 (by decide)), eh57.2 250 k (fun q => absurd q.1 (by decide))]) (fun k => by rw [v_h62 k, eh61.2 247 k (fun q => absurd q.1 (by decide)), eh57.2 247 k (fun q => absurd q.1 (by decide))]; all_goals (try rw [es1]); all_goals (by_cases q : (k : Int) = h4 224 38; (rw [if_pos (by omega), if_pos q]); (rw [if_neg (by omega), if_neg q]))) (by rw [show h62 244 _ = _ from Kh62.2 244 _ rfl, eh61.2 244 _ (fun q => absurd q.1 (by decide)), eh57.2 244 _ (fun q => absurd q.1 (by decide))])
            have sg2 : sgn h62 (h62 224 6) = sgn h0 (h0 224 6) := by rw [sgn_eq (h := h4) (by omega) (fun k => by rw [show h62 226 k = _ from Kh62.2 226 k rfl, eh61.2 226 k (fun q => absurd q.1 (by decide)), eh57.2 226 k (fun q => absurd q.1 (by decide))]), show h62 224 6 = h4 224 6 by omega]; exact jS
            refine sx_goto (tgt := 23) dX12_behindUnit_101 (by decide) ?_
            exact ihh4 _ ⟨Ih62, by exact eI2, by exact sg2, by omega, by omega, by omega, by omega, by omega, by omega, by omega⟩ (by exact sy_dec (by omega) (by omega))
    · exact ⟨hI, by exact hE, by rfl, by omega, by omega, by omega, by omega, by omega, by omega, by omega⟩
  ·
    refine sx_aload_n dX12_behindUnit_10 rfl ?_
    refine sx_callVz lk_X12_482 cl_12 s_224 (by decide) dX12_behindUnit_11 (vs := []) rfl rfl (Nat.le_of_ble_eq_true rfl) (Nat.le_of_ble_eq_true rfl) rfl (c_X12_isCompared _ hI.1 (by omega) (rg10)) (fun x65 h64 zx65 ph64 => ?_)
    subst ph64
    refine sx_if_eq (tgt := 23) dX12_behindUnit_14 (by decide) (fun c66 => ?_) (fun c66 => ?_)
    ·
      clear zx65
      refine sx_loop0 (fun (h : sw_H) => (mK (prB b [4, 5, 6, 7, 8, 9, 10, 38, 39, 40, 41] [229, 247, 248, 249, 250]) h0 h) ∧ (eI h (1 - (b : Int)) 0) ∧ (sgn h (h 224 6) = sgn h0 (h0 224 6)) ∧ (h 224 3 = h0 224 3) ∧ (h 224 4 = h0 224 4) ∧ (h 224 6 = h0 224 6) ∧ (h 224 7 = h0 224 7) ∧ (h 224 8 = h0 224 8) ∧ (h 224 37 = h0 224 37) ∧ (h 224 40 ≤ h0 224 40)) (fun (h : sw_H) => (h 224 40).toNat) (fun (h : sw_H) => sw_E G NH SH (d + 4) mX12_behindUnit 23 [some (sw_r 224), some (sw_i x2)] [] h (sw_Qz (fun z h' => mK (prB b [4, 5, 6, 7, 8, 9, 10, 38, 39, 40, 41] [229, 247, 248, 249, 250]) h0 h' ∧ (h' 224 7 ≤ h' 224 3 ∧ (h' 224 8 = 0 → h' 224 7 = h' 224 3)) ∧ (h0 224 7 ≤ h' 224 7 ∧ (h0 224 8 = 0 → h' 224 8 = 0)) ∧ (imp (h' 224 4 = 0) (imp (1 ≤ h' 224 40) (eI h' (1 - (b : Int)) z) ∧ imp (h' 224 40 ≤ 0) (h' 224 38 - 560 * (1 - (b : Int)) ≤ 9 * h' 229 (1 - (b : Int)).toNat))) ∧ (eE h' (1 - (b : Int))) ∧ (imp (h' 224 4 = 0) (eGo h0 h'))))) ?_ _ ?_
      · rintro h67 ⟨Ih67, jE, jS, ji0, ji1, ji2, ji3, ji4, ji5, ji6⟩ ihh67
        try dsimp only at ihh67
        obtain ⟨rg1, rg2, rg3, rg4, rg5, rg6, rg7, rg8, rg9, rg10⟩ := eP_rng jE (Or.inl rfl)
        rw [if_neg (by decide)] at rg3
        have r29 : (0 : Int) ≤ h67 229 (1 - (b : Int)).toNat ∧ h67 229 (1 - (b : Int)).toNat ≤ 60 := Ih67.1 229 _
        have top := rg9 (h67 224 40 - 1).toNat (by omega)
        clear rg9
        refine sx_aload_n dX12_behindUnit_23 rfl ?_
        refine sx_getS (k := 33) (t := 249) cl_12 fl_X12_88 dX12_behindUnit_24 s_224 (by decide) rfl (by decide) ?_
        refine sx_aload_n dX12_behindUnit_27 rfl ?_
        refine sx_getI (k := 40) cl_12 fl_X12_458 dX12_behindUnit_28 s_224 (by decide) rfl (by decide) ?_
        refine sx_iconst dX12_behindUnit_31 ⟨by decide, by decide⟩ ?_
        refine sx_isub dX12_behindUnit_32 ?_
        refine sy_topw (by omega) ?_
        refine sx_iaload dX12_behindUnit_33 s_249 (by decide) (by decide) ⟨by omega, by omega⟩ ?_
        refine sx_bipush dX12_behindUnit_34 ⟨by decide, by decide, by decide⟩ ?_
        refine sx_icmp_gt (tgt := 104) dX12_behindUnit_36 (by decide) (fun c68 => ?_) (fun c68 => ?_)
        ·
          refine sx_iload_n dX12_behindUnit_104 rfl ?_
          refine sx_if_le (tgt := 147) dX12_behindUnit_105 (by decide) (fun c69 => ?_) (fun c69 => ?_)
          ·
            refine sx_aload_n dX12_behindUnit_147 rfl ?_
            refine sx_dupr dX12_behindUnit_148 ?_
            refine sx_getI (k := 40) cl_12 fl_X12_458 dX12_behindUnit_149 s_224 (by decide) rfl (by decide) ?_
            refine sx_iconst dX12_behindUnit_152 ⟨by decide, by decide⟩ ?_
            refine sx_isub dX12_behindUnit_153 ?_
            refine sy_topw (by omega) ?_
            refine sy_putI (k := 40) cl_12 fl_X12_458 dX12_behindUnit_154 s_224 (by decide) rfl (by decide) rfl rfl (fun h70 eh70 => ?_)
            have Ih70 := Ih67.up eh70 trivial rfl
            have th70_224_3 := eh70.2 (224) 3 (by decide)
            have th70_224_4 := eh70.2 (224) 4 (by decide)
            have th70_224_6 := eh70.2 (224) 6 (by decide)
            have th70_224_7 := eh70.2 (224) 7 (by decide)
            have th70_224_8 := eh70.2 (224) 8 (by decide)
            have th70_224_37 := eh70.2 (224) 37 (by decide)
            have th70_224_38 := eh70.2 (224) 38 (by decide)
            have th70_224_39 := eh70.2 (224) 39 (by decide)
            have th70_224_40 := eh70.1
            have th70_224_41 := eh70.2 (224) 41 (by decide)
            refine sx_aload_n dX12_behindUnit_157 rfl ?_
            refine sx_getS (k := 33) (t := 249) cl_12 fl_X12_88 dX12_behindUnit_158 s_224 (by decide) rfl (by decide) ?_
            refine sx_aload_n dX12_behindUnit_161 rfl ?_
            refine sx_getI (k := 40) cl_12 fl_X12_458 dX12_behindUnit_162 s_224 (by decide) rfl (by decide) ?_
            have ew1 : h70 249 (h70 224 40).toNat = h67 249 (h67 224 40 - 1).toNat := by rw [show (h70 224 40).toNat = (h67 224 40 - 1).toNat by omega]; all_goals rw [eh70.2 249 _ (fun q => absurd q.1 (by decide))]
            refine sx_iaload dX12_behindUnit_165 s_249 (by decide) (by decide) ⟨by omega, by omega⟩ ?_
            refine sx_bipush dX12_behindUnit_166 ⟨by decide, by decide, by decide⟩ ?_
            refine sx_icmp_ne (tgt := 191) dX12_behindUnit_168 (by decide) (fun c71 => ?_) (fun c71 => ?_)
            ·
              refine sx_iconst dX12_behindUnit_191 ⟨by decide, by decide⟩ ?_
              refine sx_ireturn dX12_behindUnit_192 ?_
              have en := eP_end jE (by omega)
              have EQ : eE h70 (1 - (b : Int)) := eE_eq (h := h67) (by rw [eh70.2 229 _ (fun q => absurd q.1 (by decide))]) (by omega) (fun k => by rw [eh70.2 247 k (fun q => absurd q.1 (by decide))]) (by rw [eh70.2 244 _ (fun q => absurd q.1 (by decide))]) (eP_eQ jE)
              have e29 : h70 229 (1 - (b : Int)).toNat = h67 229 (1 - (b : Int)).toNat := (by rw [eh70.2 229 _ (fun q => absurd q.1 (by decide))])
              exact ⟨_, rfl, by omega, ⟨Ih70, by omega, by omega, fun _ => ⟨fun q => by exfalso; omega, fun _ => by omega⟩, EQ, fun _ => Or.inr (by omega)⟩⟩
            ·
              refine sx_aload_n dX12_behindUnit_171 rfl ?_
              refine sx_dupr dX12_behindUnit_172 ?_
              refine sx_getI (k := 39) cl_12 fl_X12_461 dX12_behindUnit_173 s_224 (by decide) rfl (by decide) ?_
              refine sx_iconst dX12_behindUnit_176 ⟨by decide, by decide⟩ ?_
              refine sx_isub dX12_behindUnit_177 ?_
              refine sy_topw (by omega) ?_
              refine sy_putI (k := 39) cl_12 fl_X12_461 dX12_behindUnit_178 s_224 (by decide) rfl (by decide) rfl rfl (fun h72 eh72 => ?_)
              have Ih72 := Ih70.up eh72 trivial rfl
              have th72_224_3 := eh72.2 (224) 3 (by decide)
              have th72_224_4 := eh72.2 (224) 4 (by decide)
              have th72_224_6 := eh72.2 (224) 6 (by decide)
              have th72_224_7 := eh72.2 (224) 7 (by decide)
              have th72_224_8 := eh72.2 (224) 8 (by decide)
              have th72_224_37 := eh72.2 (224) 37 (by decide)
              have th72_224_38 := eh72.2 (224) 38 (by decide)
              have th72_224_39 := eh72.1
              have th72_224_40 := eh72.2 (224) 40 (by decide)
              have th72_224_41 := eh72.2 (224) 41 (by decide)
              refine sx_aload_n dX12_behindUnit_181 rfl ?_
              refine sx_aload_n dX12_behindUnit_182 rfl ?_
              refine sx_bipush dX12_behindUnit_183 ⟨by decide, by decide, by decide⟩ ?_
              refine sx_callVz lk_X12_379 cl_12 s_224 (by decide) dX12_behindUnit_185 (vs := [_]) rfl rfl (Nat.le_of_ble_eq_true rfl) (Nat.le_of_ble_eq_true rfl) rfl (c2_X12_isSignHere _ Ih72.1 _) (fun x74 h73 zx74 ph73 => ?_)
              obtain ⟨rfl, p_x74⟩ := ph73
              refine sx_callVv lk_X12_382 cl_12 s_224 (by decide) dX12_behindUnit_188 (vs := [_]) rfl rfl (Nat.le_of_ble_eq_true rfl) (Nat.le_of_ble_eq_true rfl) rfl (c_X12_must _ Ih72.1 _ (by omega)) (fun h75 ph75 => ?_)
              obtain ⟨Kh75, a_h75, m_h75, g_h75⟩ := ph75
              have Ih75 := Ih72.tr Kh75 (prBW_sub rfl rfl rfl)
              have th75_224_3 := Kh75.2 224 3 rfl
              have th75_224_37 := Kh75.2 224 37 rfl
              have th75_224_38 := Kh75.2 224 38 rfl
              have th75_224_39 := Kh75.2 224 39 rfl
              have th75_224_40 := Kh75.2 224 40 rfl
              have th75_224_41 := Kh75.2 224 41 rfl
              refine sx_iconst dX12_behindUnit_191 ⟨by decide, by decide⟩ ?_
              refine sx_ireturn dX12_behindUnit_192 ?_
              have p2 := (eP_shut jE (by omega)).1
              have EI : eI h75 (1 - (b : Int)) 0 := eI_shut (h := h67) jE (by omega) (by omega) (by omega) (by rw [show h75 229 _ = _ from Kh75.2 229 _ rfl, eh72.2 229 _ (fun q => absurd q.1 (by decide)), eh70.2 229 _ (fun q => absurd q.1 (by decide))]) (by omega) (by omega) (fun k => by rw [show h75 249 k = _ from Kh75.2 249 k rfl, eh72.2 249 k (fun q => absurd q.1 (by decide)), eh70.2 249 k (fun q => absurd q.1 (by decide))]) (fun k => by rw [show h75 250 k = _ from Kh75.2 250 k rfl, eh72.2 250 k (fun q => absurd q.1 (by decide)), eh70.2 250 k (fun q => absurd q.1 (by decide))]) (fun k => by rw [show h75 247 k = _ from Kh75.2 247 k rfl, eh72.2 247 k (fun q => absurd q.1 (by decide)), eh70.2 247 k (fun q => absurd q.1 (by decide))]) (by rw [show h75 244 _ = _ from Kh75.2 244 _ rfl, eh72.2 244 _ (fun q => absurd q.1 (by decide)), eh70.2 244 _ (fun q => absurd q.1 (by decide))])
              exact ⟨_, rfl, by omega, ⟨Ih75, by omega, by omega, fun _ => ⟨fun _ => EI, fun q => by exfalso; omega⟩, eP_eQ EI, fun _ => Or.inr (by omega)⟩⟩
          ·
            refine sx_aload_n dX12_behindUnit_108 rfl ?_
            refine sx_iload_n dX12_behindUnit_109 rfl ?_
            refine sx_iload_n dX12_behindUnit_110 rfl ?_
            refine sx_iconst dX12_behindUnit_111 ⟨by decide, by decide⟩ ?_
            refine sx_icmp_ne (tgt := 120) dX12_behindUnit_112 (by decide) (fun c77 => ?_) (fun c77 => ?_)
            ·
              refine sx_iload_n dX12_behindUnit_120 rfl ?_
              refine sx_iconst dX12_behindUnit_121 ⟨by decide, by decide⟩ ?_
              refine sx_icmp_ne (tgt := 130) dX12_behindUnit_122 (by decide) (fun c78 => ?_) (fun c78 => ?_)
              ·
                refine sx_aload_n dX12_behindUnit_130 rfl ?_
                refine sx_aload_n dX12_behindUnit_131 rfl ?_
                refine sx_getI (k := 6) cl_12 fl_X12_295 dX12_behindUnit_132 s_224 (by decide) rfl (by decide) ?_
                have r79 : (0 : Int) ≤ h67 224 6 ∧ h67 224 6 ≤ 1700 := Ih67.1 224 6
                refine sx_callVi lk_X12_298 cl_12 s_224 (by decide) dX12_behindUnit_135 (vs := [_]) rfl rfl (Nat.le_of_ble_eq_true rfl) (Nat.le_of_ble_eq_true rfl) rfl (c_X12_sign _ Ih67.1 _ (by omega)) (fun x81 h80 ph80 => ?_)
                obtain ⟨rfl, p_x81⟩ := ph80
                have hop : opS x81 := by rw [p_x81.2.2.2, jS]; exact rk5 (by omega)
                refine sx_callVv lk_X12_464 cl_12 s_224 (by decide) dX12_behindUnit_138 (vs := [_, _]) rfl rfl (Nat.le_of_ble_eq_true rfl) (Nat.le_of_ble_eq_true rfl) rfl (c_X12_pushE _ Ih67.1 _ _ (by omega)) (fun h82 ph82 => ?_)
                obtain ⟨Kh82, c_h82, w_h82, s_h82⟩ := ph82
                have Ih82 := Ih67.tr Kh82 (prBW_sub rfl rfl rfl)
                have th82_224_3 := Kh82.2 224 3 rfl
                have th82_224_4 := Kh82.2 224 4 rfl
                have th82_224_6 := Kh82.2 224 6 rfl
                have th82_224_7 := Kh82.2 224 7 rfl
                have th82_224_8 := Kh82.2 224 8 rfl
                have th82_224_37 := Kh82.2 224 37 rfl
                have th82_224_38 := Kh82.2 224 38 rfl
                have th82_224_39 := Kh82.2 224 39 rfl
                have th82_224_41 := Kh82.2 224 41 rfl
                refine sx_aload_n dX12_behindUnit_141 rfl ?_
                refine sx_callVv lk_X12_334 cl_12 s_224 (by decide) dX12_behindUnit_142 (vs := []) rfl rfl (Nat.le_of_ble_eq_true rfl) (Nat.le_of_ble_eq_true rfl) rfl (c_X12_goOn _ Ih82.1 (by omega)) (fun h84 ph84 => ?_)
                obtain ⟨Kh84, a_h84, s_h84, l_h84⟩ := ph84
                have Ih84 := Ih82.tr Kh84 (prBW_sub rfl rfl rfl)
                have th84_224_3 := Kh84.2 224 3 rfl
                have th84_224_4 := Kh84.2 224 4 rfl
                have th84_224_37 := Kh84.2 224 37 rfl
                have th84_224_38 := Kh84.2 224 38 rfl
                have th84_224_39 := Kh84.2 224 39 rfl
                have th84_224_40 := Kh84.2 224 40 rfl
                have th84_224_41 := Kh84.2 224 41 rfl
                refine sx_iconst dX12_behindUnit_145 ⟨by decide, by decide⟩ ?_
                refine sx_ireturn dX12_behindUnit_146 ?_
                have EI : eI h84 (1 - (b : Int)) 1 := eI_two (h := h67) (x := x2) jE (by omega) hop (by omega) (by omega) (by rw [show h84 229 _ = _ from Kh84.2 229 _ rfl, show h82 229 _ = _ from Kh82.2 229 _ rfl]) (by omega) (by omega) (fun k => by rw [show h84 249 k = _ from Kh84.2 249 k rfl, w_h82 k]; all_goals (try simp only [Nat.reduceEqDiff, false_and, if_false, true_and]); all_goals (by_cases q : (k : Int) = h67 224 40; (focus first | (rw [if_pos (by omega), if_pos q]; done) | (rw [if_pos (by omega), if_pos q]; omega)); (rw [if_neg (by omega), if_neg q]))) (fun k => by rw [show h84 250 k = _ from Kh84.2 250 k rfl, s_h82 k]; all_goals (try simp only [Nat.reduceEqDiff, false_and, if_false, true_and]); all_goals (by_cases q : (k : Int) = h67 224 40; (focus first | (rw [if_pos (by omega), if_pos q]; done) | (rw [if_pos (by omega), if_pos q]; omega)); (rw [if_neg (by omega), if_neg q]))) (fun k => by rw [show h84 247 k = _ from Kh84.2 247 k rfl, show h82 247 k = _ from Kh82.2 247 k rfl]) (by rw [show h84 244 _ = _ from Kh84.2 244 _ rfl, show h82 244 _ = _ from Kh82.2 244 _ rfl])
                exact ⟨_, rfl, by omega, ⟨Ih84, by omega, by omega, fun _ => ⟨fun _ => EI, fun q => by exfalso; omega⟩, eP_eQ EI, fun _ => Or.inl ⟨by omega, by omega, by omega⟩⟩⟩
              ·
                refine sx_bipush dX12_behindUnit_125 ⟨by decide, by decide, by decide⟩ ?_
                have hop : opS 124 := by unfold opS; omega
                refine sx_goto (tgt := 138) dX12_behindUnit_127 (by decide) ?_
                refine sx_callVv lk_X12_464 cl_12 s_224 (by decide) dX12_behindUnit_138 (vs := [_, _]) rfl rfl (Nat.le_of_ble_eq_true rfl) (Nat.le_of_ble_eq_true rfl) rfl (c_X12_pushE _ Ih67.1 _ _ (by omega)) (fun h86 ph86 => ?_)
                obtain ⟨Kh86, c_h86, w_h86, s_h86⟩ := ph86
                have Ih86 := Ih67.tr Kh86 (prBW_sub rfl rfl rfl)
                have th86_224_3 := Kh86.2 224 3 rfl
                have th86_224_4 := Kh86.2 224 4 rfl
                have th86_224_6 := Kh86.2 224 6 rfl
                have th86_224_7 := Kh86.2 224 7 rfl
                have th86_224_8 := Kh86.2 224 8 rfl
                have th86_224_37 := Kh86.2 224 37 rfl
                have th86_224_38 := Kh86.2 224 38 rfl
                have th86_224_39 := Kh86.2 224 39 rfl
                have th86_224_41 := Kh86.2 224 41 rfl
                refine sx_aload_n dX12_behindUnit_141 rfl ?_
                refine sx_callVv lk_X12_334 cl_12 s_224 (by decide) dX12_behindUnit_142 (vs := []) rfl rfl (Nat.le_of_ble_eq_true rfl) (Nat.le_of_ble_eq_true rfl) rfl (c_X12_goOn _ Ih86.1 (by omega)) (fun h88 ph88 => ?_)
                obtain ⟨Kh88, a_h88, s_h88, l_h88⟩ := ph88
                have Ih88 := Ih86.tr Kh88 (prBW_sub rfl rfl rfl)
                have th88_224_3 := Kh88.2 224 3 rfl
                have th88_224_4 := Kh88.2 224 4 rfl
                have th88_224_37 := Kh88.2 224 37 rfl
                have th88_224_38 := Kh88.2 224 38 rfl
                have th88_224_39 := Kh88.2 224 39 rfl
                have th88_224_40 := Kh88.2 224 40 rfl
                have th88_224_41 := Kh88.2 224 41 rfl
                refine sx_iconst dX12_behindUnit_145 ⟨by decide, by decide⟩ ?_
                refine sx_ireturn dX12_behindUnit_146 ?_
                have EI : eI h88 (1 - (b : Int)) 1 := eI_two (h := h67) (x := x2) jE (by omega) hop (by omega) (by omega) (by rw [show h88 229 _ = _ from Kh88.2 229 _ rfl, show h86 229 _ = _ from Kh86.2 229 _ rfl]) (by omega) (by omega) (fun k => by rw [show h88 249 k = _ from Kh88.2 249 k rfl, w_h86 k]; all_goals (try simp only [Nat.reduceEqDiff, false_and, if_false, true_and]); all_goals (by_cases q : (k : Int) = h67 224 40; (focus first | (rw [if_pos (by omega), if_pos q]; done) | (rw [if_pos (by omega), if_pos q]; omega)); (rw [if_neg (by omega), if_neg q]))) (fun k => by rw [show h88 250 k = _ from Kh88.2 250 k rfl, s_h86 k]; all_goals (try simp only [Nat.reduceEqDiff, false_and, if_false, true_and]); all_goals (by_cases q : (k : Int) = h67 224 40; (focus first | (rw [if_pos (by omega), if_pos q]; done) | (rw [if_pos (by omega), if_pos q]; omega)); (rw [if_neg (by omega), if_neg q]))) (fun k => by rw [show h88 247 k = _ from Kh88.2 247 k rfl, show h86 247 k = _ from Kh86.2 247 k rfl]) (by rw [show h88 244 _ = _ from Kh88.2 244 _ rfl, show h86 244 _ = _ from Kh86.2 244 _ rfl])
                exact ⟨_, rfl, by omega, ⟨Ih88, by omega, by omega, fun _ => ⟨fun _ => EI, fun q => by exfalso; omega⟩, eP_eQ EI, fun _ => Or.inl ⟨by omega, by omega, by omega⟩⟩⟩
            ·
              refine sx_bipush dX12_behindUnit_115 ⟨by decide, by decide, by decide⟩ ?_
              have hop : opS 38 := by unfold opS; omega
              refine sx_goto (tgt := 138) dX12_behindUnit_117 (by decide) ?_
              refine sx_callVv lk_X12_464 cl_12 s_224 (by decide) dX12_behindUnit_138 (vs := [_, _]) rfl rfl (Nat.le_of_ble_eq_true rfl) (Nat.le_of_ble_eq_true rfl) rfl (c_X12_pushE _ Ih67.1 _ _ (by omega)) (fun h90 ph90 => ?_)
              obtain ⟨Kh90, c_h90, w_h90, s_h90⟩ := ph90
              have Ih90 := Ih67.tr Kh90 (prBW_sub rfl rfl rfl)
              have th90_224_3 := Kh90.2 224 3 rfl
              have th90_224_4 := Kh90.2 224 4 rfl
              have th90_224_6 := Kh90.2 224 6 rfl
              have th90_224_7 := Kh90.2 224 7 rfl
              have th90_224_8 := Kh90.2 224 8 rfl
              have th90_224_37 := Kh90.2 224 37 rfl
              have th90_224_38 := Kh90.2 224 38 rfl
              have th90_224_39 := Kh90.2 224 39 rfl
              have th90_224_41 := Kh90.2 224 41 rfl
              refine sx_aload_n dX12_behindUnit_141 rfl ?_
              refine sx_callVv lk_X12_334 cl_12 s_224 (by decide) dX12_behindUnit_142 (vs := []) rfl rfl (Nat.le_of_ble_eq_true rfl) (Nat.le_of_ble_eq_true rfl) rfl (c_X12_goOn _ Ih90.1 (by omega)) (fun h92 ph92 => ?_)
              obtain ⟨Kh92, a_h92, s_h92, l_h92⟩ := ph92
              have Ih92 := Ih90.tr Kh92 (prBW_sub rfl rfl rfl)
              have th92_224_3 := Kh92.2 224 3 rfl
              have th92_224_4 := Kh92.2 224 4 rfl
              have th92_224_37 := Kh92.2 224 37 rfl
              have th92_224_38 := Kh92.2 224 38 rfl
              have th92_224_39 := Kh92.2 224 39 rfl
              have th92_224_40 := Kh92.2 224 40 rfl
              have th92_224_41 := Kh92.2 224 41 rfl
              refine sx_iconst dX12_behindUnit_145 ⟨by decide, by decide⟩ ?_
              refine sx_ireturn dX12_behindUnit_146 ?_
              have EI : eI h92 (1 - (b : Int)) 1 := eI_two (h := h67) (x := x2) jE (by omega) hop (by omega) (by omega) (by rw [show h92 229 _ = _ from Kh92.2 229 _ rfl, show h90 229 _ = _ from Kh90.2 229 _ rfl]) (by omega) (by omega) (fun k => by rw [show h92 249 k = _ from Kh92.2 249 k rfl, w_h90 k]; all_goals (try simp only [Nat.reduceEqDiff, false_and, if_false, true_and]); all_goals (by_cases q : (k : Int) = h67 224 40; (focus first | (rw [if_pos (by omega), if_pos q]; done) | (rw [if_pos (by omega), if_pos q]; omega)); (rw [if_neg (by omega), if_neg q]))) (fun k => by rw [show h92 250 k = _ from Kh92.2 250 k rfl, s_h90 k]; all_goals (try simp only [Nat.reduceEqDiff, false_and, if_false, true_and]); all_goals (by_cases q : (k : Int) = h67 224 40; (focus first | (rw [if_pos (by omega), if_pos q]; done) | (rw [if_pos (by omega), if_pos q]; omega)); (rw [if_neg (by omega), if_neg q]))) (fun k => by rw [show h92 247 k = _ from Kh92.2 247 k rfl, show h90 247 k = _ from Kh90.2 247 k rfl]) (by rw [show h92 244 _ = _ from Kh92.2 244 _ rfl, show h90 244 _ = _ from Kh90.2 244 _ rfl])
              exact ⟨_, rfl, by omega, ⟨Ih92, by omega, by omega, fun _ => ⟨fun _ => EI, fun q => by exfalso; omega⟩, eP_eQ EI, fun _ => Or.inl ⟨by omega, by omega, by omega⟩⟩⟩
        ·
          refine sx_aload_n dX12_behindUnit_39 rfl ?_
          refine sx_getS (k := 33) (t := 249) cl_12 fl_X12_88 dX12_behindUnit_40 s_224 (by decide) rfl (by decide) ?_
          refine sx_aload_n dX12_behindUnit_43 rfl ?_
          refine sx_getI (k := 40) cl_12 fl_X12_458 dX12_behindUnit_44 s_224 (by decide) rfl (by decide) ?_
          refine sx_iconst dX12_behindUnit_47 ⟨by decide, by decide⟩ ?_
          refine sx_isub dX12_behindUnit_48 ?_
          refine sy_topw (by omega) ?_
          refine sx_iaload dX12_behindUnit_49 s_249 (by decide) (by decide) ⟨by omega, by omega⟩ ?_
          refine sx_iload_n dX12_behindUnit_50 rfl ?_
          refine sx_icmp_lt (tgt := 104) dX12_behindUnit_51 (by decide) (fun c94 => ?_) (fun c94 => ?_)
          ·
            refine sx_iload_n dX12_behindUnit_104 rfl ?_
            refine sx_if_le (tgt := 147) dX12_behindUnit_105 (by decide) (fun c95 => ?_) (fun c95 => ?_)
            ·
              refine sx_aload_n dX12_behindUnit_147 rfl ?_
              refine sx_dupr dX12_behindUnit_148 ?_
              refine sx_getI (k := 40) cl_12 fl_X12_458 dX12_behindUnit_149 s_224 (by decide) rfl (by decide) ?_
              refine sx_iconst dX12_behindUnit_152 ⟨by decide, by decide⟩ ?_
              refine sx_isub dX12_behindUnit_153 ?_
              refine sy_topw (by omega) ?_
              refine sy_putI (k := 40) cl_12 fl_X12_458 dX12_behindUnit_154 s_224 (by decide) rfl (by decide) rfl rfl (fun h96 eh96 => ?_)
              have Ih96 := Ih67.up eh96 trivial rfl
              have th96_224_3 := eh96.2 (224) 3 (by decide)
              have th96_224_4 := eh96.2 (224) 4 (by decide)
              have th96_224_6 := eh96.2 (224) 6 (by decide)
              have th96_224_7 := eh96.2 (224) 7 (by decide)
              have th96_224_8 := eh96.2 (224) 8 (by decide)
              have th96_224_37 := eh96.2 (224) 37 (by decide)
              have th96_224_38 := eh96.2 (224) 38 (by decide)
              have th96_224_39 := eh96.2 (224) 39 (by decide)
              have th96_224_40 := eh96.1
              have th96_224_41 := eh96.2 (224) 41 (by decide)
              refine sx_aload_n dX12_behindUnit_157 rfl ?_
              refine sx_getS (k := 33) (t := 249) cl_12 fl_X12_88 dX12_behindUnit_158 s_224 (by decide) rfl (by decide) ?_
              refine sx_aload_n dX12_behindUnit_161 rfl ?_
              refine sx_getI (k := 40) cl_12 fl_X12_458 dX12_behindUnit_162 s_224 (by decide) rfl (by decide) ?_
              have ew1 : h96 249 (h96 224 40).toNat = h67 249 (h67 224 40 - 1).toNat := by rw [show (h96 224 40).toNat = (h67 224 40 - 1).toNat by omega]; all_goals rw [eh96.2 249 _ (fun q => absurd q.1 (by decide))]
              refine sx_iaload dX12_behindUnit_165 s_249 (by decide) (by decide) ⟨by omega, by omega⟩ ?_
              refine sx_bipush dX12_behindUnit_166 ⟨by decide, by decide, by decide⟩ ?_
              refine sx_icmp_ne (tgt := 191) dX12_behindUnit_168 (by decide) (fun c97 => ?_) (fun c97 => ?_)
              ·
                refine sx_iconst dX12_behindUnit_191 ⟨by decide, by decide⟩ ?_
                refine sx_ireturn dX12_behindUnit_192 ?_
                have en := eP_end jE (by omega)
                have EQ : eE h96 (1 - (b : Int)) := eE_eq (h := h67) (by rw [eh96.2 229 _ (fun q => absurd q.1 (by decide))]) (by omega) (fun k => by rw [eh96.2 247 k (fun q => absurd q.1 (by decide))]) (by rw [eh96.2 244 _ (fun q => absurd q.1 (by decide))]) (eP_eQ jE)
                have e29 : h96 229 (1 - (b : Int)).toNat = h67 229 (1 - (b : Int)).toNat := (by rw [eh96.2 229 _ (fun q => absurd q.1 (by decide))])
                exact ⟨_, rfl, by omega, ⟨Ih96, by omega, by omega, fun _ => ⟨fun q => by exfalso; omega, fun _ => by omega⟩, EQ, fun _ => Or.inr (by omega)⟩⟩
              ·
                refine sx_aload_n dX12_behindUnit_171 rfl ?_
                refine sx_dupr dX12_behindUnit_172 ?_
                refine sx_getI (k := 39) cl_12 fl_X12_461 dX12_behindUnit_173 s_224 (by decide) rfl (by decide) ?_
                refine sx_iconst dX12_behindUnit_176 ⟨by decide, by decide⟩ ?_
                refine sx_isub dX12_behindUnit_177 ?_
                refine sy_topw (by omega) ?_
                refine sy_putI (k := 39) cl_12 fl_X12_461 dX12_behindUnit_178 s_224 (by decide) rfl (by decide) rfl rfl (fun h98 eh98 => ?_)
                have Ih98 := Ih96.up eh98 trivial rfl
                have th98_224_3 := eh98.2 (224) 3 (by decide)
                have th98_224_4 := eh98.2 (224) 4 (by decide)
                have th98_224_6 := eh98.2 (224) 6 (by decide)
                have th98_224_7 := eh98.2 (224) 7 (by decide)
                have th98_224_8 := eh98.2 (224) 8 (by decide)
                have th98_224_37 := eh98.2 (224) 37 (by decide)
                have th98_224_38 := eh98.2 (224) 38 (by decide)
                have th98_224_39 := eh98.1
                have th98_224_40 := eh98.2 (224) 40 (by decide)
                have th98_224_41 := eh98.2 (224) 41 (by decide)
                refine sx_aload_n dX12_behindUnit_181 rfl ?_
                refine sx_aload_n dX12_behindUnit_182 rfl ?_
                refine sx_bipush dX12_behindUnit_183 ⟨by decide, by decide, by decide⟩ ?_
                refine sx_callVz lk_X12_379 cl_12 s_224 (by decide) dX12_behindUnit_185 (vs := [_]) rfl rfl (Nat.le_of_ble_eq_true rfl) (Nat.le_of_ble_eq_true rfl) rfl (c2_X12_isSignHere _ Ih98.1 _) (fun x100 h99 zx100 ph99 => ?_)
                obtain ⟨rfl, p_x100⟩ := ph99
                refine sx_callVv lk_X12_382 cl_12 s_224 (by decide) dX12_behindUnit_188 (vs := [_]) rfl rfl (Nat.le_of_ble_eq_true rfl) (Nat.le_of_ble_eq_true rfl) rfl (c_X12_must _ Ih98.1 _ (by omega)) (fun h101 ph101 => ?_)
                obtain ⟨Kh101, a_h101, m_h101, g_h101⟩ := ph101
                have Ih101 := Ih98.tr Kh101 (prBW_sub rfl rfl rfl)
                have th101_224_3 := Kh101.2 224 3 rfl
                have th101_224_37 := Kh101.2 224 37 rfl
                have th101_224_38 := Kh101.2 224 38 rfl
                have th101_224_39 := Kh101.2 224 39 rfl
                have th101_224_40 := Kh101.2 224 40 rfl
                have th101_224_41 := Kh101.2 224 41 rfl
                refine sx_iconst dX12_behindUnit_191 ⟨by decide, by decide⟩ ?_
                refine sx_ireturn dX12_behindUnit_192 ?_
                have p2 := (eP_shut jE (by omega)).1
                have EI : eI h101 (1 - (b : Int)) 0 := eI_shut (h := h67) jE (by omega) (by omega) (by omega) (by rw [show h101 229 _ = _ from Kh101.2 229 _ rfl, eh98.2 229 _ (fun q => absurd q.1 (by decide)), eh96.2 229 _ (fun q => absurd q.1 (by decide))]) (by omega) (by omega) (fun k => by rw [show h101 249 k = _ from Kh101.2 249 k rfl, eh98.2 249 k (fun q => absurd q.1 (by decide)), eh96.2 249 k (fun q => absurd q.1 (by decide))]) (fun k => by rw [show h101 250 k = _ from Kh101.2 250 k rfl, eh98.2 250 k (fun q => absurd q.1 (by decide)), eh96.2 250 k (fun q => absurd q.1 (by decide))]) (fun k => by rw [show h101 247 k = _ from Kh101.2 247 k rfl, eh98.2 247 k (fun q => absurd q.1 (by decide)), eh96.2 247 k (fun q => absurd q.1 (by decide))]) (by rw [show h101 244 _ = _ from Kh101.2 244 _ rfl, eh98.2 244 _ (fun q => absurd q.1 (by decide)), eh96.2 244 _ (fun q => absurd q.1 (by decide))])
                exact ⟨_, rfl, by omega, ⟨Ih101, by omega, by omega, fun _ => ⟨fun _ => EI, fun q => by exfalso; omega⟩, eP_eQ EI, fun _ => Or.inr (by omega)⟩⟩
            ·
              refine sx_aload_n dX12_behindUnit_108 rfl ?_
              refine sx_iload_n dX12_behindUnit_109 rfl ?_
              refine sx_iload_n dX12_behindUnit_110 rfl ?_
              refine sx_iconst dX12_behindUnit_111 ⟨by decide, by decide⟩ ?_
              refine sx_icmp_ne (tgt := 120) dX12_behindUnit_112 (by decide) (fun c103 => ?_) (fun c103 => ?_)
              ·
                refine sx_iload_n dX12_behindUnit_120 rfl ?_
                refine sx_iconst dX12_behindUnit_121 ⟨by decide, by decide⟩ ?_
                refine sx_icmp_ne (tgt := 130) dX12_behindUnit_122 (by decide) (fun c104 => ?_) (fun c104 => ?_)
                ·
                  refine sx_aload_n dX12_behindUnit_130 rfl ?_
                  refine sx_aload_n dX12_behindUnit_131 rfl ?_
                  refine sx_getI (k := 6) cl_12 fl_X12_295 dX12_behindUnit_132 s_224 (by decide) rfl (by decide) ?_
                  have r105 : (0 : Int) ≤ h67 224 6 ∧ h67 224 6 ≤ 1700 := Ih67.1 224 6
                  refine sx_callVi lk_X12_298 cl_12 s_224 (by decide) dX12_behindUnit_135 (vs := [_]) rfl rfl (Nat.le_of_ble_eq_true rfl) (Nat.le_of_ble_eq_true rfl) rfl (c_X12_sign _ Ih67.1 _ (by omega)) (fun x107 h106 ph106 => ?_)
                  obtain ⟨rfl, p_x107⟩ := ph106
                  have hop : opS x107 := by rw [p_x107.2.2.2, jS]; exact rk5 (by omega)
                  refine sx_callVv lk_X12_464 cl_12 s_224 (by decide) dX12_behindUnit_138 (vs := [_, _]) rfl rfl (Nat.le_of_ble_eq_true rfl) (Nat.le_of_ble_eq_true rfl) rfl (c_X12_pushE _ Ih67.1 _ _ (by omega)) (fun h108 ph108 => ?_)
                  obtain ⟨Kh108, c_h108, w_h108, s_h108⟩ := ph108
                  have Ih108 := Ih67.tr Kh108 (prBW_sub rfl rfl rfl)
                  have th108_224_3 := Kh108.2 224 3 rfl
                  have th108_224_4 := Kh108.2 224 4 rfl
                  have th108_224_6 := Kh108.2 224 6 rfl
                  have th108_224_7 := Kh108.2 224 7 rfl
                  have th108_224_8 := Kh108.2 224 8 rfl
                  have th108_224_37 := Kh108.2 224 37 rfl
                  have th108_224_38 := Kh108.2 224 38 rfl
                  have th108_224_39 := Kh108.2 224 39 rfl
                  have th108_224_41 := Kh108.2 224 41 rfl
                  refine sx_aload_n dX12_behindUnit_141 rfl ?_
                  refine sx_callVv lk_X12_334 cl_12 s_224 (by decide) dX12_behindUnit_142 (vs := []) rfl rfl (Nat.le_of_ble_eq_true rfl) (Nat.le_of_ble_eq_true rfl) rfl (c_X12_goOn _ Ih108.1 (by omega)) (fun h110 ph110 => ?_)
                  obtain ⟨Kh110, a_h110, s_h110, l_h110⟩ := ph110
                  have Ih110 := Ih108.tr Kh110 (prBW_sub rfl rfl rfl)
                  have th110_224_3 := Kh110.2 224 3 rfl
                  have th110_224_4 := Kh110.2 224 4 rfl
                  have th110_224_37 := Kh110.2 224 37 rfl
                  have th110_224_38 := Kh110.2 224 38 rfl
                  have th110_224_39 := Kh110.2 224 39 rfl
                  have th110_224_40 := Kh110.2 224 40 rfl
                  have th110_224_41 := Kh110.2 224 41 rfl
                  refine sx_iconst dX12_behindUnit_145 ⟨by decide, by decide⟩ ?_
                  refine sx_ireturn dX12_behindUnit_146 ?_
                  have EI : eI h110 (1 - (b : Int)) 1 := eI_two (h := h67) (x := x2) jE (by omega) hop (by omega) (by omega) (by rw [show h110 229 _ = _ from Kh110.2 229 _ rfl, show h108 229 _ = _ from Kh108.2 229 _ rfl]) (by omega) (by omega) (fun k => by rw [show h110 249 k = _ from Kh110.2 249 k rfl, w_h108 k]; all_goals (try simp only [Nat.reduceEqDiff, false_and, if_false, true_and]); all_goals (by_cases q : (k : Int) = h67 224 40; (focus first | (rw [if_pos (by omega), if_pos q]; done) | (rw [if_pos (by omega), if_pos q]; omega)); (rw [if_neg (by omega), if_neg q]))) (fun k => by rw [show h110 250 k = _ from Kh110.2 250 k rfl, s_h108 k]; all_goals (try simp only [Nat.reduceEqDiff, false_and, if_false, true_and]); all_goals (by_cases q : (k : Int) = h67 224 40; (focus first | (rw [if_pos (by omega), if_pos q]; done) | (rw [if_pos (by omega), if_pos q]; omega)); (rw [if_neg (by omega), if_neg q]))) (fun k => by rw [show h110 247 k = _ from Kh110.2 247 k rfl, show h108 247 k = _ from Kh108.2 247 k rfl]) (by rw [show h110 244 _ = _ from Kh110.2 244 _ rfl, show h108 244 _ = _ from Kh108.2 244 _ rfl])
                  exact ⟨_, rfl, by omega, ⟨Ih110, by omega, by omega, fun _ => ⟨fun _ => EI, fun q => by exfalso; omega⟩, eP_eQ EI, fun _ => Or.inl ⟨by omega, by omega, by omega⟩⟩⟩
                ·
                  refine sx_bipush dX12_behindUnit_125 ⟨by decide, by decide, by decide⟩ ?_
                  have hop : opS 124 := by unfold opS; omega
                  refine sx_goto (tgt := 138) dX12_behindUnit_127 (by decide) ?_
                  refine sx_callVv lk_X12_464 cl_12 s_224 (by decide) dX12_behindUnit_138 (vs := [_, _]) rfl rfl (Nat.le_of_ble_eq_true rfl) (Nat.le_of_ble_eq_true rfl) rfl (c_X12_pushE _ Ih67.1 _ _ (by omega)) (fun h112 ph112 => ?_)
                  obtain ⟨Kh112, c_h112, w_h112, s_h112⟩ := ph112
                  have Ih112 := Ih67.tr Kh112 (prBW_sub rfl rfl rfl)
                  have th112_224_3 := Kh112.2 224 3 rfl
                  have th112_224_4 := Kh112.2 224 4 rfl
                  have th112_224_6 := Kh112.2 224 6 rfl
                  have th112_224_7 := Kh112.2 224 7 rfl
                  have th112_224_8 := Kh112.2 224 8 rfl
                  have th112_224_37 := Kh112.2 224 37 rfl
                  have th112_224_38 := Kh112.2 224 38 rfl
                  have th112_224_39 := Kh112.2 224 39 rfl
                  have th112_224_41 := Kh112.2 224 41 rfl
                  refine sx_aload_n dX12_behindUnit_141 rfl ?_
                  refine sx_callVv lk_X12_334 cl_12 s_224 (by decide) dX12_behindUnit_142 (vs := []) rfl rfl (Nat.le_of_ble_eq_true rfl) (Nat.le_of_ble_eq_true rfl) rfl (c_X12_goOn _ Ih112.1 (by omega)) (fun h114 ph114 => ?_)
                  obtain ⟨Kh114, a_h114, s_h114, l_h114⟩ := ph114
                  have Ih114 := Ih112.tr Kh114 (prBW_sub rfl rfl rfl)
                  have th114_224_3 := Kh114.2 224 3 rfl
                  have th114_224_4 := Kh114.2 224 4 rfl
                  have th114_224_37 := Kh114.2 224 37 rfl
                  have th114_224_38 := Kh114.2 224 38 rfl
                  have th114_224_39 := Kh114.2 224 39 rfl
                  have th114_224_40 := Kh114.2 224 40 rfl
                  have th114_224_41 := Kh114.2 224 41 rfl
                  refine sx_iconst dX12_behindUnit_145 ⟨by decide, by decide⟩ ?_
                  refine sx_ireturn dX12_behindUnit_146 ?_
                  have EI : eI h114 (1 - (b : Int)) 1 := eI_two (h := h67) (x := x2) jE (by omega) hop (by omega) (by omega) (by rw [show h114 229 _ = _ from Kh114.2 229 _ rfl, show h112 229 _ = _ from Kh112.2 229 _ rfl]) (by omega) (by omega) (fun k => by rw [show h114 249 k = _ from Kh114.2 249 k rfl, w_h112 k]; all_goals (try simp only [Nat.reduceEqDiff, false_and, if_false, true_and]); all_goals (by_cases q : (k : Int) = h67 224 40; (focus first | (rw [if_pos (by omega), if_pos q]; done) | (rw [if_pos (by omega), if_pos q]; omega)); (rw [if_neg (by omega), if_neg q]))) (fun k => by rw [show h114 250 k = _ from Kh114.2 250 k rfl, s_h112 k]; all_goals (try simp only [Nat.reduceEqDiff, false_and, if_false, true_and]); all_goals (by_cases q : (k : Int) = h67 224 40; (focus first | (rw [if_pos (by omega), if_pos q]; done) | (rw [if_pos (by omega), if_pos q]; omega)); (rw [if_neg (by omega), if_neg q]))) (fun k => by rw [show h114 247 k = _ from Kh114.2 247 k rfl, show h112 247 k = _ from Kh112.2 247 k rfl]) (by rw [show h114 244 _ = _ from Kh114.2 244 _ rfl, show h112 244 _ = _ from Kh112.2 244 _ rfl])
                  exact ⟨_, rfl, by omega, ⟨Ih114, by omega, by omega, fun _ => ⟨fun _ => EI, fun q => by exfalso; omega⟩, eP_eQ EI, fun _ => Or.inl ⟨by omega, by omega, by omega⟩⟩⟩
              ·
                refine sx_bipush dX12_behindUnit_115 ⟨by decide, by decide, by decide⟩ ?_
                have hop : opS 38 := by unfold opS; omega
                refine sx_goto (tgt := 138) dX12_behindUnit_117 (by decide) ?_
                refine sx_callVv lk_X12_464 cl_12 s_224 (by decide) dX12_behindUnit_138 (vs := [_, _]) rfl rfl (Nat.le_of_ble_eq_true rfl) (Nat.le_of_ble_eq_true rfl) rfl (c_X12_pushE _ Ih67.1 _ _ (by omega)) (fun h116 ph116 => ?_)
                obtain ⟨Kh116, c_h116, w_h116, s_h116⟩ := ph116
                have Ih116 := Ih67.tr Kh116 (prBW_sub rfl rfl rfl)
                have th116_224_3 := Kh116.2 224 3 rfl
                have th116_224_4 := Kh116.2 224 4 rfl
                have th116_224_6 := Kh116.2 224 6 rfl
                have th116_224_7 := Kh116.2 224 7 rfl
                have th116_224_8 := Kh116.2 224 8 rfl
                have th116_224_37 := Kh116.2 224 37 rfl
                have th116_224_38 := Kh116.2 224 38 rfl
                have th116_224_39 := Kh116.2 224 39 rfl
                have th116_224_41 := Kh116.2 224 41 rfl
                refine sx_aload_n dX12_behindUnit_141 rfl ?_
                refine sx_callVv lk_X12_334 cl_12 s_224 (by decide) dX12_behindUnit_142 (vs := []) rfl rfl (Nat.le_of_ble_eq_true rfl) (Nat.le_of_ble_eq_true rfl) rfl (c_X12_goOn _ Ih116.1 (by omega)) (fun h118 ph118 => ?_)
                obtain ⟨Kh118, a_h118, s_h118, l_h118⟩ := ph118
                have Ih118 := Ih116.tr Kh118 (prBW_sub rfl rfl rfl)
                have th118_224_3 := Kh118.2 224 3 rfl
                have th118_224_4 := Kh118.2 224 4 rfl
                have th118_224_37 := Kh118.2 224 37 rfl
                have th118_224_38 := Kh118.2 224 38 rfl
                have th118_224_39 := Kh118.2 224 39 rfl
                have th118_224_40 := Kh118.2 224 40 rfl
                have th118_224_41 := Kh118.2 224 41 rfl
                refine sx_iconst dX12_behindUnit_145 ⟨by decide, by decide⟩ ?_
                refine sx_ireturn dX12_behindUnit_146 ?_
                have EI : eI h118 (1 - (b : Int)) 1 := eI_two (h := h67) (x := x2) jE (by omega) hop (by omega) (by omega) (by rw [show h118 229 _ = _ from Kh118.2 229 _ rfl, show h116 229 _ = _ from Kh116.2 229 _ rfl]) (by omega) (by omega) (fun k => by rw [show h118 249 k = _ from Kh118.2 249 k rfl, w_h116 k]; all_goals (try simp only [Nat.reduceEqDiff, false_and, if_false, true_and]); all_goals (by_cases q : (k : Int) = h67 224 40; (focus first | (rw [if_pos (by omega), if_pos q]; done) | (rw [if_pos (by omega), if_pos q]; omega)); (rw [if_neg (by omega), if_neg q]))) (fun k => by rw [show h118 250 k = _ from Kh118.2 250 k rfl, s_h116 k]; all_goals (try simp only [Nat.reduceEqDiff, false_and, if_false, true_and]); all_goals (by_cases q : (k : Int) = h67 224 40; (focus first | (rw [if_pos (by omega), if_pos q]; done) | (rw [if_pos (by omega), if_pos q]; omega)); (rw [if_neg (by omega), if_neg q]))) (fun k => by rw [show h118 247 k = _ from Kh118.2 247 k rfl, show h116 247 k = _ from Kh116.2 247 k rfl]) (by rw [show h118 244 _ = _ from Kh118.2 244 _ rfl, show h116 244 _ = _ from Kh116.2 244 _ rfl])
                exact ⟨_, rfl, by omega, ⟨Ih118, by omega, by omega, fun _ => ⟨fun _ => EI, fun q => by exfalso; omega⟩, eP_eQ EI, fun _ => Or.inl ⟨by omega, by omega, by omega⟩⟩⟩
          ·
            refine sx_aload_n dX12_behindUnit_54 rfl ?_
            refine sx_dupr dX12_behindUnit_55 ?_
            refine sx_getI (k := 40) cl_12 fl_X12_458 dX12_behindUnit_56 s_224 (by decide) rfl (by decide) ?_
            refine sx_iconst dX12_behindUnit_59 ⟨by decide, by decide⟩ ?_
            refine sx_isub dX12_behindUnit_60 ?_
            refine sy_topw (by omega) ?_
            refine sy_putI (k := 40) cl_12 fl_X12_458 dX12_behindUnit_61 s_224 (by decide) rfl (by decide) rfl rfl (fun h120 eh120 => ?_)
            have Ih120 := Ih67.up eh120 trivial rfl
            have th120_224_3 := eh120.2 (224) 3 (by decide)
            have th120_224_4 := eh120.2 (224) 4 (by decide)
            have th120_224_6 := eh120.2 (224) 6 (by decide)
            have th120_224_7 := eh120.2 (224) 7 (by decide)
            have th120_224_8 := eh120.2 (224) 8 (by decide)
            have th120_224_37 := eh120.2 (224) 37 (by decide)
            have th120_224_38 := eh120.2 (224) 38 (by decide)
            have th120_224_39 := eh120.2 (224) 39 (by decide)
            have th120_224_40 := eh120.1
            have th120_224_41 := eh120.2 (224) 41 (by decide)
            refine sx_aload_n dX12_behindUnit_64 rfl ?_
            refine sx_getS (k := 33) (t := 249) cl_12 fl_X12_88 dX12_behindUnit_65 s_224 (by decide) rfl (by decide) ?_
            refine sx_aload_n dX12_behindUnit_68 rfl ?_
            refine sx_getI (k := 40) cl_12 fl_X12_458 dX12_behindUnit_69 s_224 (by decide) rfl (by decide) ?_
            have ew1 : h120 249 (h120 224 40).toNat = h67 249 (h67 224 40 - 1).toNat := by rw [show (h120 224 40).toNat = (h67 224 40 - 1).toNat by omega]; all_goals rw [eh120.2 249 _ (fun q => absurd q.1 (by decide))]
            refine sx_iaload dX12_behindUnit_72 s_249 (by decide) (by decide) ⟨by omega, by omega⟩ ?_
            refine sx_iconst dX12_behindUnit_73 ⟨by decide, by decide⟩ ?_
            refine sx_icmp_ne (tgt := 87) dX12_behindUnit_74 (by decide) (fun c121 => ?_) (fun c121 => ?_)
            ·
              refine sx_aload_n dX12_behindUnit_87 rfl ?_
              refine sx_aload_n dX12_behindUnit_88 rfl ?_
              refine sx_getS (k := 34) (t := 250) cl_12 fl_X12_91 dX12_behindUnit_89 s_224 (by decide) rfl (by decide) ?_
              refine sx_aload_n dX12_behindUnit_92 rfl ?_
              refine sx_getI (k := 40) cl_12 fl_X12_458 dX12_behindUnit_93 s_224 (by decide) rfl (by decide) ?_
              have es1 : h120 250 (h120 224 40).toNat = h67 250 (h67 224 40 - 1).toNat := by rw [show (h120 224 40).toNat = (h67 224 40 - 1).toNat by omega]; all_goals rw [eh120.2 250 _ (fun q => absurd q.1 (by decide))]
              refine sx_iaload dX12_behindUnit_96 s_250 (by decide) (by decide) ⟨by omega, by omega⟩ ?_
              refine sx_iconst dX12_behindUnit_97 ⟨by decide, by decide⟩ ?_
              refine sx_callVv lk_X12_476 cl_12 s_224 (by decide) dX12_behindUnit_98 (vs := [_, _]) rfl rfl (Nat.le_of_ble_eq_true rfl) (Nat.le_of_ble_eq_true rfl) rfl (c_X12_emit _ Ih120.1 b _ _ (by omega)) (fun h122 ph122 => ?_)
              obtain ⟨Kh122, c_h122, v_h122⟩ := ph122
              have Ih122 := Ih120.tr Kh122 (prB_sub rfl rfl)
              have th122_224_3 := Kh122.2 224 3 rfl
              have th122_224_4 := Kh122.2 224 4 rfl
              have th122_224_6 := Kh122.2 224 6 rfl
              have th122_224_7 := Kh122.2 224 7 rfl
              have th122_224_8 := Kh122.2 224 8 rfl
              have th122_224_37 := Kh122.2 224 37 rfl
              have th122_224_39 := Kh122.2 224 39 rfl
              have th122_224_40 := Kh122.2 224 40 rfl
              have th122_224_41 := Kh122.2 224 41 rfl
              have eI2 : eI h122 (1 - (b : Int)) 0 := eI_pop (h := h67) (by omega) jE (by omega) (by omega) (by first | (rw [if_pos (by omega)]; omega) | (rw [if_neg (by omega)]; omega)) (by rw [show h122 229 _ = _ from Kh122.2 229 _ rfl, eh120.2 229 _ (fun q => absurd q.1 (by decide))]) (by omega) (by omega) (fun k => by rw [show h122 249 k = _ from Kh122.2 249 k rfl, eh120.2 249 k (fun q => absurd q.1 (by decide))]) (fun k => by rw [show h122 250 k = _ from Kh122.2 250 k rfl, eh120.2 250 k (fun q => absurd q.1 (by decide))]) (fun k => by rw [v_h122 k, eh120.2 247 k (fun q => absurd q.1 (by decide))]; all_goals (try rw [es1]); all_goals (by_cases q : (k : Int) = h67 224 38; (rw [if_pos (by omega), if_pos q]); (rw [if_neg (by omega), if_neg q]))) (by rw [show h122 244 _ = _ from Kh122.2 244 _ rfl, eh120.2 244 _ (fun q => absurd q.1 (by decide))])
              have sg2 : sgn h122 (h122 224 6) = sgn h0 (h0 224 6) := by rw [sgn_eq (h := h67) (by omega) (fun k => by rw [show h122 226 k = _ from Kh122.2 226 k rfl, eh120.2 226 k (fun q => absurd q.1 (by decide))]), show h122 224 6 = h67 224 6 by omega]; exact jS
              refine sx_goto (tgt := 23) dX12_behindUnit_101 (by decide) ?_
              exact ihh67 _ ⟨Ih122, by exact eI2, by exact sg2, by omega, by omega, by omega, by omega, by omega, by omega, by omega⟩ (by exact sy_dec (by omega) (by omega))
            ·
              refine sx_aload_n dX12_behindUnit_77 rfl ?_
              refine sx_dupr dX12_behindUnit_78 ?_
              refine sx_getI (k := 39) cl_12 fl_X12_461 dX12_behindUnit_79 s_224 (by decide) rfl (by decide) ?_
              refine sx_iconst dX12_behindUnit_82 ⟨by decide, by decide⟩ ?_
              refine sx_isub dX12_behindUnit_83 ?_
              refine sy_topw (by omega) ?_
              refine sy_putI (k := 39) cl_12 fl_X12_461 dX12_behindUnit_84 s_224 (by decide) rfl (by decide) rfl rfl (fun h124 eh124 => ?_)
              have Ih124 := Ih120.up eh124 trivial rfl
              have th124_224_3 := eh124.2 (224) 3 (by decide)
              have th124_224_4 := eh124.2 (224) 4 (by decide)
              have th124_224_6 := eh124.2 (224) 6 (by decide)
              have th124_224_7 := eh124.2 (224) 7 (by decide)
              have th124_224_8 := eh124.2 (224) 8 (by decide)
              have th124_224_37 := eh124.2 (224) 37 (by decide)
              have th124_224_38 := eh124.2 (224) 38 (by decide)
              have th124_224_39 := eh124.1
              have th124_224_40 := eh124.2 (224) 40 (by decide)
              have th124_224_41 := eh124.2 (224) 41 (by decide)
              refine sx_aload_n dX12_behindUnit_87 rfl ?_
              refine sx_aload_n dX12_behindUnit_88 rfl ?_
              refine sx_getS (k := 34) (t := 250) cl_12 fl_X12_91 dX12_behindUnit_89 s_224 (by decide) rfl (by decide) ?_
              refine sx_aload_n dX12_behindUnit_92 rfl ?_
              refine sx_getI (k := 40) cl_12 fl_X12_458 dX12_behindUnit_93 s_224 (by decide) rfl (by decide) ?_
              have es1 : h124 250 (h124 224 40).toNat = h67 250 (h67 224 40 - 1).toNat := by rw [show (h124 224 40).toNat = (h67 224 40 - 1).toNat by omega]; all_goals rw [eh124.2 250 _ (fun q => absurd q.1 (by decide)), eh120.2 250 _ (fun q => absurd q.1 (by decide))]
              refine sx_iaload dX12_behindUnit_96 s_250 (by decide) (by decide) ⟨by omega, by omega⟩ ?_
              refine sx_iconst dX12_behindUnit_97 ⟨by decide, by decide⟩ ?_
              refine sx_callVv lk_X12_476 cl_12 s_224 (by decide) dX12_behindUnit_98 (vs := [_, _]) rfl rfl (Nat.le_of_ble_eq_true rfl) (Nat.le_of_ble_eq_true rfl) rfl (c_X12_emit _ Ih124.1 b _ _ (by omega)) (fun h125 ph125 => ?_)
              obtain ⟨Kh125, c_h125, v_h125⟩ := ph125
              have Ih125 := Ih124.tr Kh125 (prB_sub rfl rfl)
              have th125_224_3 := Kh125.2 224 3 rfl
              have th125_224_4 := Kh125.2 224 4 rfl
              have th125_224_6 := Kh125.2 224 6 rfl
              have th125_224_7 := Kh125.2 224 7 rfl
              have th125_224_8 := Kh125.2 224 8 rfl
              have th125_224_37 := Kh125.2 224 37 rfl
              have th125_224_39 := Kh125.2 224 39 rfl
              have th125_224_40 := Kh125.2 224 40 rfl
              have th125_224_41 := Kh125.2 224 41 rfl
              have eI2 : eI h125 (1 - (b : Int)) 0 := eI_pop (h := h67) (by omega) jE (by omega) (by omega) (by first | (rw [if_pos (by omega)]; omega) | (rw [if_neg (by omega)]; omega)) (by rw [show h125 229 _ = _ from Kh125.2 229 _ rfl, eh124.2 229 _ (fun q => absurd q.1 (by decide)), eh120.2 229 _ (fun q => absurd q.1 (by decide))]) (by omega) (by omega) (fun k => by rw [show h125 249 k = _ from Kh125.2 249 k rfl, eh124.2 249 k (fun q => absurd q.1 (by decide)), eh120.2 249 k (fun q => absurd q.1 (by decide))]) (fun k => by rw [show h125 250 k = _ from Kh125.2 250 k rfl, eh124.2 250 k (fun q => absurd q.1 (by decide)), eh120.2 250 k (fun q => absurd q.1 (by decide))]) (fun k => by rw [v_h125 k, eh124.2 247 k (fun q => absurd q.1 (by decide)), eh120.2 247 k (fun q => absurd q.1 (by decide))]; all_goals (try rw [es1]); all_goals (by_cases q : (k : Int) = h67 224 38; (rw [if_pos (by omega), if_pos q]); (rw [if_neg (by omega), if_neg q]))) (by rw [show h125 244 _ = _ from Kh125.2 244 _ rfl, eh124.2 244 _ (fun q => absurd q.1 (by decide)), eh120.2 244 _ (fun q => absurd q.1 (by decide))])
              have sg2 : sgn h125 (h125 224 6) = sgn h0 (h0 224 6) := by rw [sgn_eq (h := h67) (by omega) (fun k => by rw [show h125 226 k = _ from Kh125.2 226 k rfl, eh124.2 226 k (fun q => absurd q.1 (by decide)), eh120.2 226 k (fun q => absurd q.1 (by decide))]), show h125 224 6 = h67 224 6 by omega]; exact jS
              refine sx_goto (tgt := 23) dX12_behindUnit_101 (by decide) ?_
              exact ihh67 _ ⟨Ih125, by exact eI2, by exact sg2, by omega, by omega, by omega, by omega, by omega, by omega, by omega⟩ (by exact sy_dec (by omega) (by omega))
      · exact ⟨hI, by exact hE, by rfl, by omega, by omega, by omega, by omega, by omega, by omega, by omega⟩
    ·
      have vx65 : x65 = 1 := by rcases zx65 with q | q; (exact absurd q c66); exact q
      clear zx65
      refine sx_aload_n dX12_behindUnit_17 rfl ?_
      refine sx_callVv lk_X12_337 cl_12 s_224 (by decide) dX12_behindUnit_18 (vs := []) rfl rfl (Nat.le_of_ble_eq_true rfl) (Nat.le_of_ble_eq_true rfl) rfl (c_X12_misplaced _ hI.1) (fun h127 ph127 => ?_)
      obtain ⟨Kh127, g_h127⟩ := ph127
      have Ih127 := hI.tr Kh127 (prBW_sub rfl rfl rfl)
      have th127_224_3 := Kh127.2 224 3 rfl
      have th127_224_6 := Kh127.2 224 6 rfl
      have th127_224_7 := Kh127.2 224 7 rfl
      have th127_224_8 := Kh127.2 224 8 rfl
      have th127_224_37 := Kh127.2 224 37 rfl
      have th127_224_38 := Kh127.2 224 38 rfl
      have th127_224_39 := Kh127.2 224 39 rfl
      have th127_224_40 := Kh127.2 224 40 rfl
      have th127_224_41 := Kh127.2 224 41 rfl
      refine sx_iconst dX12_behindUnit_21 ⟨by decide, by decide⟩ ?_
      refine sx_ireturn dX12_behindUnit_22 ?_
      exact ⟨_, rfl, by omega, ⟨Ih127, by omega, by omega, fun q => by exfalso; omega, (eE_eq (by rw [show h127 229 _ = _ from Kh127.2 229 _ rfl]) (by omega) (fun k => by rw [show h127 247 k = _ from Kh127.2 247 k rfl]) (by rw [show h127 244 _ = _ from Kh127.2 244 _ rfl]) hEE), fun q => by exfalso; omega⟩⟩
set_option maxRecDepth 20000 in
set_option maxHeartbeats 4000000 in
theorem c_X12_e {G : sw_G} (d : Nat) {h0 : sw_H} (hJ : mI h0) (b : Nat) (hr : h0 224 37 = 1 - (b : Int) ∧ b ≤ 1) (ht : h0 224 7 ≤ h0 224 3 ∧ (h0 224 8 = 0 → h0 224 7 = h0 224 3)) (hc : 560 * (1 - (b : Int)) ≤ h0 224 38 ∧ h0 224 38 - 560 * (1 - (b : Int)) ≤ 9 * h0 229 (1 - (b : Int)).toNat) (h41 : h0 224 41 = 0 ∧ h0 244 (1 - (b : Int)).toNat = h0 224 38)  : sw_E G NH SH (d + 5) mX12_e 0 [some (sw_r 224), none] [] h0 (sw_Qv (fun h' => mK (prB b [4, 5, 6, 7, 8, 9, 10, 38, 39, 40, 41] [229, 247, 248, 249, 250]) h0 h' ∧ (h' 224 7 ≤ h' 224 3 ∧ (h' 224 8 = 0 → h' 224 7 = h' 224 3)) ∧ (h0 224 7 ≤ h' 224 7 ∧ (h0 224 8 = 0 → h' 224 8 = 0)) ∧ (eE h' (1 - (b : Int))) ∧ (imp (h' 224 4 = 0) (h' 224 38 - 560 * (1 - (b : Int)) ≤ 9 * h' 229 (1 - (b : Int)).toNat)))) := by
  have hI : mK (prB b [4, 5, 6, 7, 8, 9, 10, 38, 39, 40, 41] [229, 247, 248, 249, 250]) h0 h0 := mK.refl hJ
  refine sx_aload_n dX12_e_0 rfl ?_
  refine sx_iconst dX12_e_1 ⟨by decide, by decide⟩ ?_
  refine sy_putI (k := 40) cl_12 fl_X12_458 dX12_e_2 s_224 (by decide) rfl (by decide) rfl rfl (fun h1 eh1 => ?_)
  have Ih1 := hI.up eh1 trivial rfl
  have th1_224_3 := eh1.2 (224) 3 (by decide)
  have th1_224_4 := eh1.2 (224) 4 (by decide)
  have th1_224_6 := eh1.2 (224) 6 (by decide)
  have th1_224_7 := eh1.2 (224) 7 (by decide)
  have th1_224_8 := eh1.2 (224) 8 (by decide)
  have th1_224_37 := eh1.2 (224) 37 (by decide)
  have th1_224_38 := eh1.2 (224) 38 (by decide)
  have th1_224_39 := eh1.2 (224) 39 (by decide)
  have th1_224_40 := eh1.1
  have th1_224_41 := eh1.2 (224) 41 (by decide)
  refine sx_aload_n dX12_e_5 rfl ?_
  refine sx_iconst dX12_e_6 ⟨by decide, by decide⟩ ?_
  refine sy_putI (k := 39) cl_12 fl_X12_461 dX12_e_7 s_224 (by decide) rfl (by decide) rfl rfl (fun h2 eh2 => ?_)
  have Ih2 := Ih1.up eh2 trivial rfl
  have th2_224_3 := eh2.2 (224) 3 (by decide)
  have th2_224_4 := eh2.2 (224) 4 (by decide)
  have th2_224_6 := eh2.2 (224) 6 (by decide)
  have th2_224_7 := eh2.2 (224) 7 (by decide)
  have th2_224_8 := eh2.2 (224) 8 (by decide)
  have th2_224_37 := eh2.2 (224) 37 (by decide)
  have th2_224_38 := eh2.2 (224) 38 (by decide)
  have th2_224_39 := eh2.1
  have th2_224_40 := eh2.2 (224) 40 (by decide)
  have th2_224_41 := eh2.2 (224) 41 (by decide)
  refine sx_aload_n dX12_e_10 rfl ?_
  refine sx_bipush dX12_e_11 ⟨by decide, by decide, by decide⟩ ?_
  refine sx_iconst dX12_e_13 ⟨by decide, by decide⟩ ?_
  refine sx_callVv lk_X12_464 cl_12 s_224 (by decide) dX12_e_14 (vs := [_, _]) rfl rfl (Nat.le_of_ble_eq_true rfl) (Nat.le_of_ble_eq_true rfl) rfl (c_X12_pushE _ Ih2.1 _ _ (by omega)) (fun h3 ph3 => ?_)
  obtain ⟨Kh3, c_h3, w_h3, s_h3⟩ := ph3
  have Ih3 := Ih2.tr Kh3 (prBW_sub rfl rfl rfl)
  have th3_224_3 := Kh3.2 224 3 rfl
  have th3_224_4 := Kh3.2 224 4 rfl
  have th3_224_6 := Kh3.2 224 6 rfl
  have th3_224_7 := Kh3.2 224 7 rfl
  have th3_224_8 := Kh3.2 224 8 rfl
  have th3_224_37 := Kh3.2 224 37 rfl
  have th3_224_38 := Kh3.2 224 38 rfl
  have th3_224_39 := Kh3.2 224 39 rfl
  have th3_224_41 := Kh3.2 224 41 rfl
  have f44 : h3 244 (1 - (b : Int)).toNat = h0 244 (1 - (b : Int)).toNat := (by rw [show h3 244 _ = _ from Kh3.2 244 _ rfl, eh2.2 244 _ (fun q => absurd q.1 (by decide)), eh1.2 244 _ (fun q => absurd q.1 (by decide))])
  have f29 : h3 229 (1 - (b : Int)).toNat = h0 229 (1 - (b : Int)).toNat := (by rw [show h3 229 _ = _ from Kh3.2 229 _ rfl, eh2.2 229 _ (fun q => absurd q.1 (by decide)), eh1.2 229 _ (fun q => absurd q.1 (by decide))])
  have EI0 : eI h3 (1 - (b : Int)) 1 := by unfold eI; rw [show h3 224 40 = 1 by omega, show h3 224 39 = 0 by omega, show h3 224 41 = 0 by omega, show h3 244 (1 - (b : Int)).toNat = h3 224 38 by omega]; exact eP_new (by rw [w_h3, if_pos (by omega)]) (by omega) (by omega)
  refine sx_iconst dX12_e_17 ⟨by decide, by decide⟩ ?_
  refine sx_istore_n dX12_e_18 (by decide) ?_
  refine sx_loop1 (fun (h : sw_H) (wt : Int) => (mK (prB b [4, 5, 6, 7, 8, 9, 10, 38, 39, 40, 41] [229, 247, 248, 249, 250]) h0 h) ∧ (wt = 0 ∨ wt = 1) ∧ (imp (h 224 4 = 0) (imp (1 ≤ h 224 40) (eI h (1 - (b : Int)) wt) ∧ imp (h 224 40 ≤ 0) (h 224 38 - 560 * (1 - (b : Int)) ≤ 9 * h 229 (1 - (b : Int)).toNat))) ∧ (eE h (1 - (b : Int))) ∧ (h 224 37 = h0 224 37) ∧ (h 224 7 ≤ h 224 3 ∧ (h 224 8 = 0 → h 224 7 = h 224 3)) ∧ (h0 224 7 ≤ h 224 7) ∧ ((h0 224 8 = 0 → h 224 8 = 0))) (fun (h : sw_H) (wt : Int) => eMu h) (fun (h : sw_H) (wt : Int) => sw_E G NH SH (d + 5) mX12_e 19 [some (sw_r 224), some (sw_i wt)] [] h (sw_Qv (fun h' => mK (prB b [4, 5, 6, 7, 8, 9, 10, 38, 39, 40, 41] [229, 247, 248, 249, 250]) h0 h' ∧ (h' 224 7 ≤ h' 224 3 ∧ (h' 224 8 = 0 → h' 224 7 = h' 224 3)) ∧ (h0 224 7 ≤ h' 224 7 ∧ (h0 224 8 = 0 → h' 224 8 = 0)) ∧ (eE h' (1 - (b : Int))) ∧ (imp (h' 224 4 = 0) (h' 224 38 - 560 * (1 - (b : Int)) ≤ 9 * h' 229 (1 - (b : Int)).toNat))))) ?_ _ _ ?_
  · rintro h5 wt_6 ⟨Ih5, jw, je, jf, j1, j2, j3, j4⟩ ihh5
    try dsimp only at ihh5
    have r7 : (0 : Int) ≤ h5 224 7 ∧ h5 224 7 ≤ 1700 := Ih5.1 224 7
    refine sx_aload_n dX12_e_19 rfl ?_
    refine sx_callVz lk_X12_330 cl_12 s_224 (by decide) dX12_e_20 (vs := []) rfl rfl (Nat.le_of_ble_eq_true rfl) (Nat.le_of_ble_eq_true rfl) rfl (c_X12_isGood _ Ih5.1) (fun x8 h7 zx8 ph7 => ?_)
    obtain ⟨rfl, p_x8⟩ := ph7
    refine sx_if_eq (tgt := 52) dX12_e_23 (by decide) (fun c9 => ?_) (fun c9 => ?_)
    ·
      replace p_x8 := mt p_x8.mpr (show ¬ (x8 = 1) by rw [c9]; decide)
      clear zx8
      refine sx_ret dX12_e_52 ?_
      exact ⟨rfl, ⟨Ih5, by omega, by omega, jf, fun q => (je q).2 (by omega)⟩⟩
    ·
      have vx8 : x8 = 1 := by rcases zx8 with q | q; (exact absurd q c9); exact q
      replace p_x8 := p_x8.mp vx8
      clear zx8
      refine sx_aload_n dX12_e_26 rfl ?_
      refine sx_getI (k := 40) cl_12 fl_X12_458 dX12_e_27 s_224 (by decide) rfl (by decide) ?_
      refine sx_if_le (tgt := 52) dX12_e_30 (by decide) (fun c10 => ?_) (fun c10 => ?_)
      ·
        refine sx_ret dX12_e_52 ?_
        exact ⟨rfl, ⟨Ih5, by omega, by omega, jf, fun q => (je q).2 (by omega)⟩⟩
      ·
        refine sx_iload_n dX12_e_33 rfl ?_
        refine sx_if_eq (tgt := 44) dX12_e_34 (by decide) (fun c11 => ?_) (fun c11 => ?_)
        ·
          have hE0 : eI h5 (1 - (b : Int)) 0 := by have q := (je (by omega)).1 (by omega); have q2 : wt_6 = 0 := (by omega); rw [q2] at q; exact q
          refine sx_aload_n dX12_e_44 rfl ?_
          refine sx_callVz lk_X12_470 cl_12 s_224 (by decide) dX12_e_45 (vs := []) rfl rfl (Nat.le_of_ble_eq_true rfl) (Nat.le_of_ble_eq_true rfl) rfl (c_X12_behindUnit _ Ih5.1 b (by omega) (by omega) (by omega) (hE0)) (fun x13 h12 zx13 ph12 => ?_)
          obtain ⟨Kh12, a_h12, m_h12, e_h12, f_h12, n_h12⟩ := ph12
          have Ih12 := Ih5.tr Kh12 (prB_sub rfl rfl)
          have th12_224_3 := Kh12.2 224 3 rfl
          have th12_224_37 := Kh12.2 224 37 rfl
          refine sx_istore_n dX12_e_48 (by decide) ?_
          refine sx_goto (tgt := 19) dX12_e_49 (by decide) ?_
          exact ihh5 _ _ ⟨Ih12, by omega, e_h12, f_h12, by omega, by omega, by omega, by omega⟩ (eMu_dec (by omega) (by omega) r7 (by omega) n_h12)
        ·
          have hE1 : eI h5 (1 - (b : Int)) 1 := by have q := (je (by omega)).1 (by omega); have q2 : wt_6 = 1 := (by omega); rw [q2] at q; exact q
          refine sx_aload_n dX12_e_37 rfl ?_
          refine sx_callVz lk_X12_467 cl_12 s_224 (by decide) dX12_e_38 (vs := []) rfl rfl (Nat.le_of_ble_eq_true rfl) (Nat.le_of_ble_eq_true rfl) rfl (c_X12_unit _ Ih5.1 b (by omega) (by omega) (by omega) (hE1)) (fun x15 h14 zx15 ph14 => ?_)
          obtain ⟨Kh14, a_h14, m_h14, e_h14, f_h14, n_h14⟩ := ph14
          have Ih14 := Ih5.tr Kh14 (prB_sub rfl rfl)
          have th14_224_3 := Kh14.2 224 3 rfl
          have th14_224_37 := Kh14.2 224 37 rfl
          refine sx_goto (tgt := 48) dX12_e_41 (by decide) ?_
          refine sx_istore_n dX12_e_48 (by decide) ?_
          refine sx_goto (tgt := 19) dX12_e_49 (by decide) ?_
          exact ihh5 _ _ ⟨Ih14, by omega, (fun q => ⟨fun _ => e_h14 q, fun q2 => by exfalso; have q3 := eP_rng (e_h14 q) (by omega); omega⟩), f_h14, by omega, by omega, by omega, by omega⟩ (eMu_dec (by omega) (by omega) r7 (by omega) n_h14)
  · exact ⟨Ih3, by exact Or.inr rfl, by exact fun _ => ⟨fun _ => EI0, fun q => by exfalso; omega⟩, by exact eP_eQ EI0, by omega, by omega, by omega, by omega⟩
set_option maxRecDepth 20000 in
set_option maxHeartbeats 4000000 in
theorem c_X12_readRule {G : sw_G} (d : Nat) {h0 : sw_H} (hJ : mI h0) (b : Nat) (hr : h0 224 37 = 1 - (b : Int) ∧ b ≤ 1) (ht : h0 224 7 ≤ h0 224 3 ∧ (h0 224 8 = 0 → h0 224 7 = h0 224 3)) (hc : 560 * (1 - (b : Int)) ≤ h0 224 38 ∧ h0 224 38 - 560 * (1 - (b : Int)) ≤ 9 * h0 229 (1 - (b : Int)).toNat)  : sw_E G NH SH (d + 6) mX12_readRule 0 [some (sw_r 224)] [] h0 (sw_Qv (fun h' => mK (prB b [4, 5, 6, 7, 8, 9, 10, 38, 39, 40, 41] [229, 232, 244, 245, 247, 248, 249, 250]) h0 h' ∧ (h' 224 7 ≤ h' 224 3 ∧ (h' 224 8 = 0 → h' 224 7 = h' 224 3)) ∧ (h0 224 7 ≤ h' 224 7 ∧ (h0 224 8 = 0 → h' 224 8 = 0)) ∧ (RR h' (1 - (b : Int))) ∧ (imp (h' 224 4 = 0) (h' 224 38 - 560 * (1 - (b : Int)) ≤ 9 * h' 229 (1 - (b : Int)).toNat)) ∧ (560 * (1 - (b : Int)) ≤ h' 224 38))) := by
  have hI : mK (prB b [4, 5, 6, 7, 8, 9, 10, 38, 39, 40, 41] [229, 232, 244, 245, 247, 248, 249, 250]) h0 h0 := mK.refl hJ
  refine sx_aload_n dX12_readRule_0 rfl ?_
  refine sx_getS (k := 16) (t := 232) cl_12 fl_X12_36 dX12_readRule_1 s_224 (by decide) rfl (by decide) ?_
  refine sx_aload_n dX12_readRule_4 rfl ?_
  refine sx_getI (k := 37) cl_12 fl_X12_340 dX12_readRule_5 s_224 (by decide) rfl (by decide) ?_
  have r1 : (0 : Int) ≤ h0 224 37 ∧ h0 224 37 ≤ 1 := hI.1 224 37
  refine sx_dup2 dX12_readRule_8 ?_
  refine sx_iaload dX12_readRule_9 s_232 (by decide) (by decide) ⟨by omega, by omega⟩ ?_
  refine sx_iconst dX12_readRule_10 ⟨by decide, by decide⟩ ?_
  refine sx_ior dX12_readRule_11 ?_
  refine sy_iastore dX12_readRule_12 s_232 (by decide) (by decide) ⟨by omega, by omega⟩ (fun h2 eh2 => ?_)
  have Ih2 := hI.up eh2 trivial (beq_eq_false_iff_ne.mpr (show _ ≠ _ by omega))
  have th2_224_3 := eh2.2 (224) 3 (by omega)
  have th2_224_4 := eh2.2 (224) 4 (by omega)
  have th2_224_6 := eh2.2 (224) 6 (by omega)
  have th2_224_7 := eh2.2 (224) 7 (by omega)
  have th2_224_8 := eh2.2 (224) 8 (by omega)
  have th2_224_37 := eh2.2 (224) 37 (by omega)
  have th2_224_38 := eh2.2 (224) 38 (by omega)
  have th2_224_39 := eh2.2 (224) 39 (by omega)
  have th2_224_40 := eh2.2 (224) 40 (by omega)
  have th2_224_41 := eh2.2 (224) 41 (by omega)
  refine sx_aload_n dX12_readRule_13 rfl ?_
  refine sx_iconst dX12_readRule_14 ⟨by decide, by decide⟩ ?_
  refine sy_putI (k := 41) cl_12 fl_X12_452 dX12_readRule_15 s_224 (by decide) rfl (by decide) rfl rfl (fun h3 eh3 => ?_)
  have Ih3 := Ih2.up eh3 trivial rfl
  have th3_224_3 := eh3.2 (224) 3 (by decide)
  have th3_224_4 := eh3.2 (224) 4 (by decide)
  have th3_224_6 := eh3.2 (224) 6 (by decide)
  have th3_224_7 := eh3.2 (224) 7 (by decide)
  have th3_224_8 := eh3.2 (224) 8 (by decide)
  have th3_224_37 := eh3.2 (224) 37 (by decide)
  have th3_224_38 := eh3.2 (224) 38 (by decide)
  have th3_224_39 := eh3.2 (224) 39 (by decide)
  have th3_224_40 := eh3.2 (224) 40 (by decide)
  have th3_224_41 := eh3.1
  refine sx_aload_n dX12_readRule_18 rfl ?_
  refine sx_getS (k := 28) (t := 244) cl_12 fl_X12_72 dX12_readRule_19 s_224 (by decide) rfl (by decide) ?_
  refine sx_aload_n dX12_readRule_22 rfl ?_
  refine sx_getI (k := 37) cl_12 fl_X12_340 dX12_readRule_23 s_224 (by decide) rfl (by decide) ?_
  have r4 : (0 : Int) ≤ h3 224 37 ∧ h3 224 37 ≤ 1 := Ih3.1 224 37
  refine sx_aload_n dX12_readRule_26 rfl ?_
  refine sx_getI (k := 38) cl_12 fl_X12_343 dX12_readRule_27 s_224 (by decide) rfl (by decide) ?_
  refine sy_iastore dX12_readRule_30 s_244 (by decide) (by decide) ⟨by omega, by omega⟩ (fun h5 eh5 => ?_)
  have Ih5 := Ih3.up eh5 trivial (beq_eq_false_iff_ne.mpr (show _ ≠ _ by omega))
  have th5_224_3 := eh5.2 (224) 3 (by omega)
  have th5_224_4 := eh5.2 (224) 4 (by omega)
  have th5_224_6 := eh5.2 (224) 6 (by omega)
  have th5_224_7 := eh5.2 (224) 7 (by omega)
  have th5_224_8 := eh5.2 (224) 8 (by omega)
  have th5_224_37 := eh5.2 (224) 37 (by omega)
  have th5_224_38 := eh5.2 (224) 38 (by omega)
  have th5_224_39 := eh5.2 (224) 39 (by omega)
  have th5_224_40 := eh5.2 (224) 40 (by omega)
  have th5_224_41 := eh5.2 (224) 41 (by omega)
  have f44 : h5 244 (1 - (b : Int)).toNat = h5 224 38 := (by rw [eh5.at 244 (1 - (b : Int)).toNat, eh3.2 244 (1 - (b : Int)).toNat (by omega), eh2.2 244 (1 - (b : Int)).toNat (by omega)]; all_goals (try simp only [Nat.reduceEqDiff, false_and, if_false, true_and]); all_goals (try rw [if_pos (by omega)]); all_goals (first | done | rfl | omega))
  have f29 : h5 229 (1 - (b : Int)).toNat = h0 229 (1 - (b : Int)).toNat := (by rw [eh5.2 229 _ (by omega), eh3.2 229 _ (by omega), eh2.2 229 _ (by omega)])
  refine sx_aload_n dX12_readRule_31 rfl ?_
  refine sx_callVv lk_X12_455 cl_12 s_224 (by decide) dX12_readRule_32 (vs := []) rfl rfl (Nat.le_of_ble_eq_true rfl) (Nat.le_of_ble_eq_true rfl) rfl (c_X12_e _ Ih5.1 b (by omega) (by omega) (by omega) (by omega)) (fun h6 ph6 => ?_)
  obtain ⟨Kh6, a_h6, m_h6, f_h6, c_h6⟩ := ph6
  have Ih6 := Ih5.tr Kh6 (prB_sub rfl rfl)
  have th6_224_3 := Kh6.2 224 3 rfl
  have th6_224_37 := Kh6.2 224 37 rfl
  refine sx_aload_n dX12_readRule_35 rfl ?_
  refine sx_getS (k := 29) (t := 245) cl_12 fl_X12_75 dX12_readRule_36 s_224 (by decide) rfl (by decide) ?_
  refine sx_aload_n dX12_readRule_39 rfl ?_
  refine sx_getI (k := 37) cl_12 fl_X12_340 dX12_readRule_40 s_224 (by decide) rfl (by decide) ?_
  have r8 : (0 : Int) ≤ h6 224 37 ∧ h6 224 37 ≤ 1 := Ih6.1 224 37
  refine sx_aload_n dX12_readRule_43 rfl ?_
  refine sx_getI (k := 38) cl_12 fl_X12_343 dX12_readRule_44 s_224 (by decide) rfl (by decide) ?_
  refine sy_iastore dX12_readRule_47 s_245 (by decide) (by decide) ⟨by omega, by omega⟩ (fun h9 eh9 => ?_)
  have Ih9 := Ih6.up eh9 trivial (beq_eq_false_iff_ne.mpr (show _ ≠ _ by omega))
  have th9_224_3 := eh9.2 (224) 3 (by omega)
  have th9_224_4 := eh9.2 (224) 4 (by omega)
  have th9_224_6 := eh9.2 (224) 6 (by omega)
  have th9_224_7 := eh9.2 (224) 7 (by omega)
  have th9_224_8 := eh9.2 (224) 8 (by omega)
  have th9_224_37 := eh9.2 (224) 37 (by omega)
  have th9_224_38 := eh9.2 (224) 38 (by omega)
  have th9_224_39 := eh9.2 (224) 39 (by omega)
  have th9_224_40 := eh9.2 (224) 40 (by omega)
  have th9_224_41 := eh9.2 (224) 41 (by omega)
  refine sx_ret dX12_readRule_48 ?_
  obtain ⟨q1, q2, q3, q4⟩ := f_h6
  have r29 : (0 : Int) ≤ h6 229 (1 - (b : Int)).toNat ∧ h6 229 (1 - (b : Int)).toNat ≤ 60 := Ih6.1 229 _
  have g44 : h9 244 (1 - (b : Int)).toNat = h6 244 (1 - (b : Int)).toNat := (by rw [eh9.2 244 _ (by omega)])
  have g45 : h9 245 (1 - (b : Int)).toNat = h6 224 38 := (by rw [eh9.at 245 (1 - (b : Int)).toNat]; all_goals (try simp only [Nat.reduceEqDiff, false_and, if_false, true_and]); all_goals (try rw [if_pos (by omega)]); all_goals (first | done | rfl | omega))
  have g47 : h9 247 = h6 247 := funext (fun k => by rw [eh9.2 247 k (by omega)])
  have g29 : h9 229 (1 - (b : Int)).toNat = h6 229 (1 - (b : Int)).toNat := (by rw [eh9.2 229 _ (by omega)])
  exact ⟨rfl, ⟨Ih9, by omega, by omega, by unfold RR; rw [g44, g45, g47]; exact fun _ => ⟨q1, by omega, q4⟩, fun q => by have q5 := c_h6 (by omega); omega, by omega⟩⟩

set_option maxRecDepth 20000 in
set_option maxHeartbeats 4000000 in
theorem c_X12_runWord {G : sw_G} (d : Nat) {h0 : sw_H} (hJ : mI h0) (nd : Int) (la : Int) (hi : Int) (y1 : Int) (hw : 0 ≤ y1 ∧ y1 < 6) (hWs : Wds h0 y1) (hW : Wd h0 y1 nd la hi) (hc : nd ≤ h0 224 67 ∧ h0 224 67 + hi ≤ 90 ∧ 0 ≤ h0 224 68 ∧ h0 224 68 ≤ 50)  : sw_E G NH SH (d + 4) mX12_runWord 0 [some (sw_r 224), some (sw_i y1), none, none, none] [] h0 (sw_Qv (fun h' => mK (prW [67, 68, 69, 70] [262, 263, 264, 265, 266]) h0 h' ∧ (h' 224 67 = h0 224 67 + la ∧ h' 224 68 = h0 224 68))) := by
  have hI : mK (prW [67, 68, 69, 70] [262, 263, 264, 265, 266]) h0 h0 := mK.refl hJ
  refine sx_iload_n dX12_runWord_0 rfl ?_
  refine sx_istore_n dX12_runWord_1 (by decide) ?_
  refine sx_iconst dX12_runWord_2 ⟨by decide, by decide⟩ ?_
  refine sx_istore_n dX12_runWord_3 (by decide) ?_
  refine sx_aload_n dX12_runWord_4 rfl ?_
  refine sx_iconst dX12_runWord_5 ⟨by decide, by decide⟩ ?_
  refine sy_putI (k := 69) cl_12 fl_X12_540 dX12_runWord_6 s_224 (by decide) rfl (by decide) rfl rfl (fun h1 eh1 => ?_)
  have Ih1 := hI.up eh1 trivial rfl
  have th1_224_67 := eh1.2 (224) 67 (by decide)
  have th1_224_68 := eh1.2 (224) 68 (by decide)
  have th1_224_69 := eh1.1
  have th1_224_70 := eh1.2 (224) 70 (by decide)
  refine sx_aload_n dX12_runWord_9 rfl ?_
  refine sx_iconst dX12_runWord_10 ⟨by decide, by decide⟩ ?_
  refine sy_putI (k := 70) cl_12 fl_X12_543 dX12_runWord_11 s_224 (by decide) rfl (by decide) rfl rfl (fun h2 eh2 => ?_)
  have Ih2 := Ih1.up eh2 trivial rfl
  have th2_224_67 := eh2.2 (224) 67 (by decide)
  have th2_224_68 := eh2.2 (224) 68 (by decide)
  have th2_224_69 := eh2.2 (224) 69 (by decide)
  have th2_224_70 := eh2.1
  exact rw_fin d y1 y1 nd la hi Ih2 hw hWs hW (by omega) (by omega) (by omega) (by omega) hc

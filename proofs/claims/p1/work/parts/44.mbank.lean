set_option maxRecDepth 20000 in
set_option maxHeartbeats 4000000 in
theorem c_X12_clearBank {G : sw_G} (d : Nat) {h0 : sw_H} (hJ : mI h0) (b : Nat) (hr : h0 224 37 = 1 - (b : Int) ∧ b ≤ 1)  : sw_E G NH SH (d) mX12_clearBank 0 [some (sw_r 224)] [] h0 (sw_Qv (fun h' => mK (prB b [38] [227, 228, 229, 230, 231, 232]) h0 h' ∧ (h' 224 38 = 560 * h0 224 37) ∧ (h' 227 (h0 224 37).toNat = 0 ∧ h' 228 (h0 224 37).toNat = 0 ∧ h' 229 (h0 224 37).toNat = 0 ∧ h' 232 (h0 224 37).toNat = 0))) := by
  have hI : mK (prB b [38] [227, 228, 229, 230, 231, 232]) h0 h0 := mK.refl hJ
  refine sx_aload_n dX12_clearBank_0 rfl ?_
  refine sx_getS (k := 11) (t := 227) cl_12 fl_X12_20 dX12_clearBank_1 s_224 (by decide) rfl (by decide) ?_
  refine sx_aload_n dX12_clearBank_4 rfl ?_
  refine sx_getI (k := 37) cl_12 fl_X12_340 dX12_clearBank_5 s_224 (by decide) rfl (by decide) ?_
  have r1 : (0 : Int) ≤ h0 224 37 ∧ h0 224 37 ≤ 1 := hI.1 224 37
  refine sx_iconst dX12_clearBank_8 ⟨by decide, by decide⟩ ?_
  refine sy_iastore dX12_clearBank_9 s_227 (by decide) (by decide) ⟨by first | omega | (rw [Int.tmod_eq_emod_of_nonneg (by omega)]; omega) | (rw [Int.tdiv_eq_ediv_of_nonneg (by omega)]; omega), by first | omega | (rw [Int.tmod_eq_emod_of_nonneg (by omega)]; omega) | (rw [Int.tdiv_eq_ediv_of_nonneg (by omega)]; omega)⟩ (fun h2 eh2 => ?_)
  have Ih2 := hI.up eh2 (show (0 : Int) ≤ _ ∧ _ ≤ (6 : Int) from ⟨by first | omega | (rw [Int.tmod_eq_emod_of_nonneg (by omega)]; omega) | (rw [Int.tdiv_eq_ediv_of_nonneg (by omega)]; omega), by first | omega | (rw [Int.tmod_eq_emod_of_nonneg (by omega)]; omega) | (rw [Int.tdiv_eq_ediv_of_nonneg (by omega)]; omega)⟩) (beq_eq_false_iff_ne.mpr (show _ ≠ _ by first | omega | (rw [Int.tmod_eq_emod_of_nonneg (by omega)]; omega) | (rw [Int.tdiv_eq_ediv_of_nonneg (by omega)]; omega)))
  have th2_224_37 := eh2.2 (224) 37 (by omega)
  have th2_224_38 := eh2.2 (224) 38 (by omega)
  refine sx_aload_n dX12_clearBank_10 rfl ?_
  refine sx_getS (k := 12) (t := 228) cl_12 fl_X12_24 dX12_clearBank_11 s_224 (by decide) rfl (by decide) ?_
  refine sx_aload_n dX12_clearBank_14 rfl ?_
  refine sx_getI (k := 37) cl_12 fl_X12_340 dX12_clearBank_15 s_224 (by decide) rfl (by decide) ?_
  have r3 : (0 : Int) ≤ h2 224 37 ∧ h2 224 37 ≤ 1 := Ih2.1 224 37
  refine sx_iconst dX12_clearBank_18 ⟨by decide, by decide⟩ ?_
  refine sy_iastore dX12_clearBank_19 s_228 (by decide) (by decide) ⟨by first | omega | (rw [Int.tmod_eq_emod_of_nonneg (by omega)]; omega) | (rw [Int.tdiv_eq_ediv_of_nonneg (by omega)]; omega), by first | omega | (rw [Int.tmod_eq_emod_of_nonneg (by omega)]; omega) | (rw [Int.tdiv_eq_ediv_of_nonneg (by omega)]; omega)⟩ (fun h4 eh4 => ?_)
  have Ih4 := Ih2.up eh4 (show (0 : Int) ≤ _ ∧ _ ≤ (60 : Int) from ⟨by first | omega | (rw [Int.tmod_eq_emod_of_nonneg (by omega)]; omega) | (rw [Int.tdiv_eq_ediv_of_nonneg (by omega)]; omega), by first | omega | (rw [Int.tmod_eq_emod_of_nonneg (by omega)]; omega) | (rw [Int.tdiv_eq_ediv_of_nonneg (by omega)]; omega)⟩) (beq_eq_false_iff_ne.mpr (show _ ≠ _ by first | omega | (rw [Int.tmod_eq_emod_of_nonneg (by omega)]; omega) | (rw [Int.tdiv_eq_ediv_of_nonneg (by omega)]; omega)))
  have th4_224_37 := eh4.2 (224) 37 (by omega)
  have th4_224_38 := eh4.2 (224) 38 (by omega)
  refine sx_aload_n dX12_clearBank_20 rfl ?_
  refine sx_getS (k := 13) (t := 229) cl_12 fl_X12_27 dX12_clearBank_21 s_224 (by decide) rfl (by decide) ?_
  refine sx_aload_n dX12_clearBank_24 rfl ?_
  refine sx_getI (k := 37) cl_12 fl_X12_340 dX12_clearBank_25 s_224 (by decide) rfl (by decide) ?_
  have r5 : (0 : Int) ≤ h4 224 37 ∧ h4 224 37 ≤ 1 := Ih4.1 224 37
  refine sx_iconst dX12_clearBank_28 ⟨by decide, by decide⟩ ?_
  refine sy_iastore dX12_clearBank_29 s_229 (by decide) (by decide) ⟨by first | omega | (rw [Int.tmod_eq_emod_of_nonneg (by omega)]; omega) | (rw [Int.tdiv_eq_ediv_of_nonneg (by omega)]; omega), by first | omega | (rw [Int.tmod_eq_emod_of_nonneg (by omega)]; omega) | (rw [Int.tdiv_eq_ediv_of_nonneg (by omega)]; omega)⟩ (fun h6 eh6 => ?_)
  have Ih6 := Ih4.up eh6 (show (0 : Int) ≤ _ ∧ _ ≤ (60 : Int) from ⟨by first | omega | (rw [Int.tmod_eq_emod_of_nonneg (by omega)]; omega) | (rw [Int.tdiv_eq_ediv_of_nonneg (by omega)]; omega), by first | omega | (rw [Int.tmod_eq_emod_of_nonneg (by omega)]; omega) | (rw [Int.tdiv_eq_ediv_of_nonneg (by omega)]; omega)⟩) (beq_eq_false_iff_ne.mpr (show _ ≠ _ by first | omega | (rw [Int.tmod_eq_emod_of_nonneg (by omega)]; omega) | (rw [Int.tdiv_eq_ediv_of_nonneg (by omega)]; omega)))
  have th6_224_37 := eh6.2 (224) 37 (by omega)
  have th6_224_38 := eh6.2 (224) 38 (by omega)
  refine sx_aload_n dX12_clearBank_30 rfl ?_
  refine sx_getS (k := 14) (t := 230) cl_12 fl_X12_30 dX12_clearBank_31 s_224 (by decide) rfl (by decide) ?_
  refine sx_aload_n dX12_clearBank_34 rfl ?_
  refine sx_getI (k := 37) cl_12 fl_X12_340 dX12_clearBank_35 s_224 (by decide) rfl (by decide) ?_
  have r7 : (0 : Int) ≤ h6 224 37 ∧ h6 224 37 ≤ 1 := Ih6.1 224 37
  refine sx_iconst dX12_clearBank_38 ⟨by decide, by decide⟩ ?_
  refine sy_iastore dX12_clearBank_39 s_230 (by decide) (by decide) ⟨by first | omega | (rw [Int.tmod_eq_emod_of_nonneg (by omega)]; omega) | (rw [Int.tdiv_eq_ediv_of_nonneg (by omega)]; omega), by first | omega | (rw [Int.tmod_eq_emod_of_nonneg (by omega)]; omega) | (rw [Int.tdiv_eq_ediv_of_nonneg (by omega)]; omega)⟩ (fun h8 eh8 => ?_)
  have Ih8 := Ih6.up eh8 (show (0 : Int) ≤ _ ∧ _ ≤ (100 : Int) from ⟨by first | omega | (rw [Int.tmod_eq_emod_of_nonneg (by omega)]; omega) | (rw [Int.tdiv_eq_ediv_of_nonneg (by omega)]; omega), by first | omega | (rw [Int.tmod_eq_emod_of_nonneg (by omega)]; omega) | (rw [Int.tdiv_eq_ediv_of_nonneg (by omega)]; omega)⟩) (beq_eq_false_iff_ne.mpr (show _ ≠ _ by first | omega | (rw [Int.tmod_eq_emod_of_nonneg (by omega)]; omega) | (rw [Int.tdiv_eq_ediv_of_nonneg (by omega)]; omega)))
  have th8_224_37 := eh8.2 (224) 37 (by omega)
  have th8_224_38 := eh8.2 (224) 38 (by omega)
  refine sx_aload_n dX12_clearBank_40 rfl ?_
  refine sx_getS (k := 15) (t := 231) cl_12 fl_X12_33 dX12_clearBank_41 s_224 (by decide) rfl (by decide) ?_
  refine sx_aload_n dX12_clearBank_44 rfl ?_
  refine sx_getI (k := 37) cl_12 fl_X12_340 dX12_clearBank_45 s_224 (by decide) rfl (by decide) ?_
  have r9 : (0 : Int) ≤ h8 224 37 ∧ h8 224 37 ≤ 1 := Ih8.1 224 37
  refine sx_iconst dX12_clearBank_48 ⟨by decide, by decide⟩ ?_
  refine sy_iastore dX12_clearBank_49 s_231 (by decide) (by decide) ⟨by first | omega | (rw [Int.tmod_eq_emod_of_nonneg (by omega)]; omega) | (rw [Int.tdiv_eq_ediv_of_nonneg (by omega)]; omega), by first | omega | (rw [Int.tmod_eq_emod_of_nonneg (by omega)]; omega) | (rw [Int.tdiv_eq_ediv_of_nonneg (by omega)]; omega)⟩ (fun h10 eh10 => ?_)
  have Ih10 := Ih8.up eh10 trivial (beq_eq_false_iff_ne.mpr (show _ ≠ _ by first | omega | (rw [Int.tmod_eq_emod_of_nonneg (by omega)]; omega) | (rw [Int.tdiv_eq_ediv_of_nonneg (by omega)]; omega)))
  have th10_224_37 := eh10.2 (224) 37 (by omega)
  have th10_224_38 := eh10.2 (224) 38 (by omega)
  refine sx_aload_n dX12_clearBank_50 rfl ?_
  refine sx_getS (k := 16) (t := 232) cl_12 fl_X12_36 dX12_clearBank_51 s_224 (by decide) rfl (by decide) ?_
  refine sx_aload_n dX12_clearBank_54 rfl ?_
  refine sx_getI (k := 37) cl_12 fl_X12_340 dX12_clearBank_55 s_224 (by decide) rfl (by decide) ?_
  have r11 : (0 : Int) ≤ h10 224 37 ∧ h10 224 37 ≤ 1 := Ih10.1 224 37
  refine sx_iconst dX12_clearBank_58 ⟨by decide, by decide⟩ ?_
  refine sy_iastore dX12_clearBank_59 s_232 (by decide) (by decide) ⟨by first | omega | (rw [Int.tmod_eq_emod_of_nonneg (by omega)]; omega) | (rw [Int.tdiv_eq_ediv_of_nonneg (by omega)]; omega), by first | omega | (rw [Int.tmod_eq_emod_of_nonneg (by omega)]; omega) | (rw [Int.tdiv_eq_ediv_of_nonneg (by omega)]; omega)⟩ (fun h12 eh12 => ?_)
  have Ih12 := Ih10.up eh12 trivial (beq_eq_false_iff_ne.mpr (show _ ≠ _ by first | omega | (rw [Int.tmod_eq_emod_of_nonneg (by omega)]; omega) | (rw [Int.tdiv_eq_ediv_of_nonneg (by omega)]; omega)))
  have th12_224_37 := eh12.2 (224) 37 (by omega)
  have th12_224_38 := eh12.2 (224) 38 (by omega)
  refine sx_aload_n dX12_clearBank_60 rfl ?_
  refine sx_sipush dX12_clearBank_61 ⟨by decide, by decide, by decide⟩ ?_
  refine sx_aload_n dX12_clearBank_64 rfl ?_
  refine sx_getI (k := 37) cl_12 fl_X12_340 dX12_clearBank_65 s_224 (by decide) rfl (by decide) ?_
  have r13 : (0 : Int) ≤ h12 224 37 ∧ h12 224 37 ≤ 1 := Ih12.1 224 37
  refine sx_imul dX12_clearBank_68 ?_
  refine sy_topw (by first | omega | (rw [Int.tmod_eq_emod_of_nonneg (by omega)]; omega) | (rw [Int.tdiv_eq_ediv_of_nonneg (by omega)]; omega)) ?_
  refine sy_putI (k := 38) cl_12 fl_X12_343 dX12_clearBank_69 s_224 (by decide) rfl (by decide) rfl rfl (fun h14 eh14 => ?_)
  have Ih14 := Ih12.up eh14 trivial rfl
  have th14_224_37 := eh14.2 (224) 37 (by decide)
  have th14_224_38 := eh14.1
  refine sx_ret dX12_clearBank_72 ?_
  exact ⟨rfl, ⟨Ih14, by omega, ⟨by rw [eh14.at 227 _, eh12.at 227 _, eh10.at 227 _, eh8.at 227 _, eh6.at 227 _, eh4.at 227 _, eh2.at 227 _]; simp only [Nat.reduceEqDiff, false_and, if_false, true_and]; first | done | rfl | (simp; done) | rw [if_pos (by omega)], by rw [eh14.at 228 _, eh12.at 228 _, eh10.at 228 _, eh8.at 228 _, eh6.at 228 _, eh4.at 228 _, eh2.at 228 _]; simp only [Nat.reduceEqDiff, false_and, if_false, true_and]; first | done | rfl | (simp; done) | rw [if_pos (by omega)], by rw [eh14.at 229 _, eh12.at 229 _, eh10.at 229 _, eh8.at 229 _, eh6.at 229 _, eh4.at 229 _, eh2.at 229 _]; simp only [Nat.reduceEqDiff, false_and, if_false, true_and]; first | done | rfl | (simp; done) | rw [if_pos (by omega)], by rw [eh14.at 232 _, eh12.at 232 _, eh10.at 232 _, eh8.at 232 _, eh6.at 232 _, eh4.at 232 _, eh2.at 232 _]; simp only [Nat.reduceEqDiff, false_and, if_false, true_and]; first | done | rfl | (simp; done) | rw [if_pos (by omega)]⟩⟩⟩

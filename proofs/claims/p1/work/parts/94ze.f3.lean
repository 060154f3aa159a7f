-- ===== the reference on new objects =====
set_option maxRecDepth 20000 in
set_option maxHeartbeats 4000000 in
theorem f_X12_undo {G : sw_G} (d : Nat) {h0 : sw_H} (hJ : mI h0) (hB : mB h0)  (hF : FM h0) : sw_E G NH SH (d + 1) mX12_undo 0 [some (sw_r 224)] [] h0 (sw_Qz (fun z h' => mK (prW [73, 74] [261, 267]) h0 h' ∧ (mB h') ∧ (h' 224 100 = h0 224 100) ∧ (z = 0))) := by
  obtain ⟨b0, r0, t2, k4, k5, a3, a4, l3, s9, t0, z7, z8, z9, z10, z12, z61, z89⟩ := hF
  have fw : h0 227 (h0 224 36).toNat = 0 := z7 _
  have hI : mK (prW [73, 74] [261, 267]) h0 h0 := mK.refl hJ
  have q30 : h0 261 30 = 0 := z61 30
  have q31 : h0 261 31 = 0 := z61 31
  have q32 : h0 261 32 = 0 := z61 32
  have q33 : h0 261 33 = 0 := z61 33
  have hB2 := hB.2
  have r30 : (0 : Int) ≤ h0 261 30 ∧ h0 261 30 ≤ 24 := hI.1 261 30
  have r31 : (0 : Int) ≤ h0 261 31 ∧ h0 261 31 ≤ 6 := hI.1 261 31
  refine sx_aload_n dX12_undo_0 rfl ?_
  refine sx_getI (k := 73) cl_12 fl_X12_507 dX12_undo_1 s_224 (by decide) rfl (by decide) ?_
  have r1 : (0 : Int) ≤ h0 224 73 ∧ h0 224 73 ≤ 40 := hI.1 224 73
  refine sx_if_ne (tgt := 9) dX12_undo_4 (by decide) (fun c2 => ?_) (fun c2 => ?_)
  ·
    refine sx_aload_n dX12_undo_9 rfl ?_
    refine sx_dupr dX12_undo_10 ?_
    refine sx_getI (k := 73) cl_12 fl_X12_507 dX12_undo_11 s_224 (by decide) rfl (by decide) ?_
    have r3 : (0 : Int) ≤ h0 224 73 ∧ h0 224 73 ≤ 40 := hI.1 224 73
    refine sx_iconst dX12_undo_14 ⟨by decide, by decide⟩ ?_
    refine sx_isub dX12_undo_15 ?_
    refine sy_topw (by omega) ?_
    refine sy_putI (k := 73) cl_12 fl_X12_507 dX12_undo_16 s_224 (by decide) rfl (by decide) rfl rfl (fun h4 eh4 => ?_)
    have Ih4 := hI.up eh4 (show (0 : Int) ≤ _ ∧ _ ≤ (40 : Int) from ⟨by omega, by omega⟩) rfl
    have th4_224_67 := eh4.2 (224) 67 (by decide)
    have th4_224_68 := eh4.2 (224) 68 (by decide)
    have th4_224_71 := eh4.2 (224) 71 (by decide)
    have th4_224_73 := eh4.1
    have th4_224_74 := eh4.2 (224) 74 (by decide)
    have th4_224_85 := eh4.2 (224) 85 (by decide)
    have th4_224_100 := eh4.2 (224) 100 (by decide)
    have th4_261_30 := eh4.2 (261) 30 (fun q => absurd q.1 (by decide))
    have th4_261_31 := eh4.2 (261) 31 (fun q => absurd q.1 (by decide))
    refine sx_aload_n dX12_undo_19 rfl ?_
    refine sx_dupr dX12_undo_20 ?_
    refine sx_getI (k := 74) cl_12 fl_X12_510 dX12_undo_21 s_224 (by decide) rfl (by decide) ?_
    have r5 : (0 : Int) ≤ h4 224 74 ∧ h4 224 74 ≤ 40 := Ih4.1 224 74
    refine sx_iconst dX12_undo_24 ⟨by decide, by decide⟩ ?_
    refine sx_iadd dX12_undo_25 ?_
    refine sy_topw (by omega) ?_
    refine sy_putI (k := 74) cl_12 fl_X12_510 dX12_undo_26 s_224 (by decide) rfl (by decide) rfl rfl (fun h6 eh6 => ?_)
    have Ih6 := Ih4.up eh6 (show (0 : Int) ≤ _ ∧ _ ≤ (40 : Int) from ⟨by omega, by omega⟩) rfl
    have th6_224_67 := eh6.2 (224) 67 (by decide)
    have th6_224_68 := eh6.2 (224) 68 (by decide)
    have th6_224_71 := eh6.2 (224) 71 (by decide)
    have th6_224_73 := eh6.2 (224) 73 (by decide)
    have th6_224_74 := eh6.1
    have th6_224_85 := eh6.2 (224) 85 (by decide)
    have th6_224_100 := eh6.2 (224) 100 (by decide)
    have th6_261_30 := eh6.2 (261) 30 (fun q => absurd q.1 (by decide))
    have th6_261_31 := eh6.2 (261) 31 (fun q => absurd q.1 (by decide))
    refine sx_aload_n dX12_undo_29 rfl ?_
    refine sx_callVv lk_X12_576 cl_12 s_224 (by decide) dX12_undo_30 (vs := []) rfl rfl (Nat.le_of_ble_eq_true rfl) (Nat.le_of_ble_eq_true rfl) rfl (c_X12_swapAll _ Ih6.1) (fun h7 ph7 => ?_)
    have Kh7 := ph7
    have Ih7 := Ih6.tr Kh7 (prW_sub rfl rfl)
    have th7_224_67 := Kh7.2 224 67 rfl
    have th7_224_68 := Kh7.2 224 68 rfl
    have th7_224_71 := Kh7.2 224 71 rfl
    have th7_224_73 := Kh7.2 224 73 rfl
    have th7_224_74 := Kh7.2 224 74 rfl
    have th7_224_85 := Kh7.2 224 85 rfl
    have th7_224_100 := Kh7.2 224 100 rfl
    refine sx_iconst dX12_undo_33 ⟨by decide, by decide⟩ ?_
    refine sx_ireturn dX12_undo_34 ?_
    exact ⟨_, rfl, by omega, ⟨Ih7, ⟨mC_mK Ih7 rfl rfl hJ hB.1, by have := hB.2; omega, by have := hB.2; omega, by have := hB.2; omega⟩, Ih7.2 224 100 rfl, by first | omega | (exfalso; omega)⟩⟩
  ·
    refine sx_iconst dX12_undo_7 ⟨by decide, by decide⟩ ?_
    refine sx_ireturn dX12_undo_8 ?_
    exact ⟨_, rfl, by omega, ⟨hI, ⟨mC_mK hI rfl rfl hJ hB.1, by have := hB.2; omega, by have := hB.2; omega, by have := hB.2; omega⟩, hI.2 224 100 rfl, by first | omega | (exfalso; omega)⟩⟩
set_option maxRecDepth 20000 in
set_option maxHeartbeats 4000000 in
theorem f_X12_redo {G : sw_G} (d : Nat) {h0 : sw_H} (hJ : mI h0) (hB : mB h0)  (hF : FM h0) : sw_E G NH SH (d + 1) mX12_redo 0 [some (sw_r 224)] [] h0 (sw_Qz (fun z h' => mK (prW [73, 74] [261, 267]) h0 h' ∧ (mB h') ∧ (h' 224 100 = h0 224 100) ∧ (z = 0))) := by
  obtain ⟨b0, r0, t2, k4, k5, a3, a4, l3, s9, t0, z7, z8, z9, z10, z12, z61, z89⟩ := hF
  have fw : h0 227 (h0 224 36).toNat = 0 := z7 _
  have hI : mK (prW [73, 74] [261, 267]) h0 h0 := mK.refl hJ
  have q30 : h0 261 30 = 0 := z61 30
  have q31 : h0 261 31 = 0 := z61 31
  have q32 : h0 261 32 = 0 := z61 32
  have q33 : h0 261 33 = 0 := z61 33
  have hB2 := hB.2
  have r30 : (0 : Int) ≤ h0 261 30 ∧ h0 261 30 ≤ 24 := hI.1 261 30
  have r31 : (0 : Int) ≤ h0 261 31 ∧ h0 261 31 ≤ 6 := hI.1 261 31
  refine sx_aload_n dX12_redo_0 rfl ?_
  refine sx_getI (k := 74) cl_12 fl_X12_510 dX12_redo_1 s_224 (by decide) rfl (by decide) ?_
  have r1 : (0 : Int) ≤ h0 224 74 ∧ h0 224 74 ≤ 40 := hI.1 224 74
  refine sx_if_ne (tgt := 9) dX12_redo_4 (by decide) (fun c2 => ?_) (fun c2 => ?_)
  ·
    refine sx_aload_n dX12_redo_9 rfl ?_
    refine sx_callVv lk_X12_576 cl_12 s_224 (by decide) dX12_redo_10 (vs := []) rfl rfl (Nat.le_of_ble_eq_true rfl) (Nat.le_of_ble_eq_true rfl) rfl (c_X12_swapAll _ hI.1) (fun h3 ph3 => ?_)
    have Kh3 := ph3
    have Ih3 := hI.tr Kh3 (prW_sub rfl rfl)
    have th3_224_67 := Kh3.2 224 67 rfl
    have th3_224_68 := Kh3.2 224 68 rfl
    have th3_224_71 := Kh3.2 224 71 rfl
    have th3_224_73 := Kh3.2 224 73 rfl
    have th3_224_74 := Kh3.2 224 74 rfl
    have th3_224_85 := Kh3.2 224 85 rfl
    have th3_224_100 := Kh3.2 224 100 rfl
    refine sx_aload_n dX12_redo_13 rfl ?_
    refine sx_dupr dX12_redo_14 ?_
    refine sx_getI (k := 73) cl_12 fl_X12_507 dX12_redo_15 s_224 (by decide) rfl (by decide) ?_
    have r5 : (0 : Int) ≤ h3 224 73 ∧ h3 224 73 ≤ 40 := Ih3.1 224 73
    refine sx_iconst dX12_redo_18 ⟨by decide, by decide⟩ ?_
    refine sx_iadd dX12_redo_19 ?_
    refine sy_topw (by omega) ?_
    refine sy_putI (k := 73) cl_12 fl_X12_507 dX12_redo_20 s_224 (by decide) rfl (by decide) rfl rfl (fun h6 eh6 => ?_)
    have Ih6 := Ih3.up eh6 (show (0 : Int) ≤ _ ∧ _ ≤ (40 : Int) from ⟨by omega, by omega⟩) rfl
    have th6_224_67 := eh6.2 (224) 67 (by decide)
    have th6_224_68 := eh6.2 (224) 68 (by decide)
    have th6_224_71 := eh6.2 (224) 71 (by decide)
    have th6_224_73 := eh6.1
    have th6_224_74 := eh6.2 (224) 74 (by decide)
    have th6_224_85 := eh6.2 (224) 85 (by decide)
    have th6_224_100 := eh6.2 (224) 100 (by decide)
    have th6_261_30 := eh6.2 (261) 30 (fun q => absurd q.1 (by decide))
    have th6_261_31 := eh6.2 (261) 31 (fun q => absurd q.1 (by decide))
    refine sx_aload_n dX12_redo_23 rfl ?_
    refine sx_dupr dX12_redo_24 ?_
    refine sx_getI (k := 74) cl_12 fl_X12_510 dX12_redo_25 s_224 (by decide) rfl (by decide) ?_
    have r7 : (0 : Int) ≤ h6 224 74 ∧ h6 224 74 ≤ 40 := Ih6.1 224 74
    refine sx_iconst dX12_redo_28 ⟨by decide, by decide⟩ ?_
    refine sx_isub dX12_redo_29 ?_
    refine sy_topw (by omega) ?_
    refine sy_putI (k := 74) cl_12 fl_X12_510 dX12_redo_30 s_224 (by decide) rfl (by decide) rfl rfl (fun h8 eh8 => ?_)
    have Ih8 := Ih6.up eh8 (show (0 : Int) ≤ _ ∧ _ ≤ (40 : Int) from ⟨by omega, by omega⟩) rfl
    have th8_224_67 := eh8.2 (224) 67 (by decide)
    have th8_224_68 := eh8.2 (224) 68 (by decide)
    have th8_224_71 := eh8.2 (224) 71 (by decide)
    have th8_224_73 := eh8.2 (224) 73 (by decide)
    have th8_224_74 := eh8.1
    have th8_224_85 := eh8.2 (224) 85 (by decide)
    have th8_224_100 := eh8.2 (224) 100 (by decide)
    have th8_261_30 := eh8.2 (261) 30 (fun q => absurd q.1 (by decide))
    have th8_261_31 := eh8.2 (261) 31 (fun q => absurd q.1 (by decide))
    refine sx_iconst dX12_redo_33 ⟨by decide, by decide⟩ ?_
    refine sx_ireturn dX12_redo_34 ?_
    exact ⟨_, rfl, by omega, ⟨Ih8, ⟨mC_mK Ih8 rfl rfl hJ hB.1, by have := hB.2; omega, by have := hB.2; omega, by have := hB.2; omega⟩, Ih8.2 224 100 rfl, by first | omega | (exfalso; omega)⟩⟩
  ·
    refine sx_iconst dX12_redo_7 ⟨by decide, by decide⟩ ?_
    refine sx_ireturn dX12_redo_8 ?_
    exact ⟨_, rfl, by omega, ⟨hI, ⟨mC_mK hI rfl rfl hJ hB.1, by have := hB.2; omega, by have := hB.2; omega, by have := hB.2; omega⟩, hI.2 224 100 rfl, by first | omega | (exfalso; omega)⟩⟩
set_option maxRecDepth 20000 in
set_option maxHeartbeats 4000000 in
theorem f_X12_untell {G : sw_G} (d : Nat) {h0 : sw_H} (hJ : mI h0) (y1 : Int) (hB : mB h0)  (hF : FM h0) : sw_E G NH SH (d + 1) mX12_untell 0 [some (sw_r 224), some (sw_i y1)] [] h0 (sw_Qz (fun z h' => mK (prW [] [285]) h0 h' ∧ (mB h') ∧ (h' 224 100 = h0 224 100) ∧ (z = 0))) := by
  obtain ⟨b0, r0, t2, k4, k5, a3, a4, l3, s9, t0, z7, z8, z9, z10, z12, z61, z89⟩ := hF
  have fw : h0 227 (h0 224 36).toNat = 0 := z7 _
  have hI : mK (prW [] [285]) h0 h0 := mK.refl hJ
  have q30 : h0 261 30 = 0 := z61 30
  have q31 : h0 261 31 = 0 := z61 31
  have q32 : h0 261 32 = 0 := z61 32
  have q33 : h0 261 33 = 0 := z61 33
  refine sx_iload_n dX12_untell_0 rfl ?_
  refine sx_iconst dX12_untell_1 ⟨by decide, by decide⟩ ?_
  refine sx_aload_n dX12_untell_2 rfl ?_
  refine sx_getI (k := 99) cl_12 fl_X12_513 dX12_untell_3 s_224 (by decide) rfl (by decide) ?_
  have r1 : (0 : Int) ≤ h0 224 99 ∧ h0 224 99 ≤ 30 := hI.1 224 99
  refine sx_iconst dX12_untell_6 ⟨by decide, by decide⟩ ?_
  refine sx_isub dX12_untell_7 ?_
  refine sy_topw (by omega) ?_
  refine sx_callSz lk_X12_500 dX12_untell_8 (vs := [_, _, _]) rfl rfl (Nat.le_of_ble_eq_true rfl) (Nat.le_of_ble_eq_true rfl) rfl (c_X12_isIn _ hI.1 _ _ _) (fun x3 h2 zx3 ph2 => ?_)
  obtain ⟨rfl, p_x3⟩ := ph2
  refine sx_if_eq (tgt := 23) dX12_untell_11 (by decide) (fun c4 => ?_) (fun c4 => ?_)
  ·
    replace p_x3 := mt p_x3.mpr (show ¬ (x3 = 1) by rw [c4]; decide)
    clear zx3
    refine sx_iconst dX12_untell_23 ⟨by decide, by decide⟩ ?_
    refine sx_ireturn dX12_untell_24 ?_
    exact ⟨_, rfl, by omega, ⟨hI, mB_mK hI rfl rfl hJ hB, hI.2 224 100 rfl, by first | omega | (exfalso; omega)⟩⟩
  ·
    have vx3 : x3 = 1 := by rcases zx3 with q | q; (exact absurd q c4); exact q
    replace p_x3 := p_x3.mp vx3
    clear zx3
    refine sx_aload_n dX12_untell_14 rfl ?_
    refine sx_getS (k := 96) (t := 285) cl_12 fl_X12_202 dX12_untell_15 s_224 (by decide) rfl (by decide) ?_
    refine sx_iload_n dX12_untell_18 rfl ?_
    refine sx_iaload dX12_untell_19 s_285 (by decide) (by decide) ⟨by omega, by omega⟩ ?_
    refine sx_if_lt (tgt := 25) dX12_untell_20 (by decide) (fun c5 => ?_) (fun c5 => ?_)
    ·
      refine sx_aload_n dX12_untell_25 rfl ?_
      refine sx_getS (k := 96) (t := 285) cl_12 fl_X12_202 dX12_untell_26 s_224 (by decide) rfl (by decide) ?_
      refine sx_iload_n dX12_untell_29 rfl ?_
      refine sx_aload_n dX12_untell_30 rfl ?_
      refine sx_getI (k := 100) cl_12 fl_X12_679 dX12_untell_31 s_224 (by decide) rfl (by decide) ?_
      have r6 : (0 : Int) ≤ h0 224 100 ∧ h0 224 100 ≤ 100000 := hI.1 224 100
      refine sy_iastore dX12_untell_34 s_285 (by decide) (by decide) ⟨by omega, by omega⟩ (fun h7 eh7 => ?_)
      have Ih7 := hI.up eh7 trivial rfl
      have th7_224_99 := eh7.2 (224) 99 (fun q => absurd q.1 (by decide))
      refine sx_iconst dX12_untell_35 ⟨by decide, by decide⟩ ?_
      refine sx_ireturn dX12_untell_36 ?_
      exact ⟨_, rfl, by omega, ⟨Ih7, mB_mK Ih7 rfl rfl hJ hB, Ih7.2 224 100 rfl, by first | omega | (exfalso; omega)⟩⟩
    ·
      refine sx_iconst dX12_untell_23 ⟨by decide, by decide⟩ ?_
      refine sx_ireturn dX12_untell_24 ?_
      exact ⟨_, rfl, by omega, ⟨hI, mB_mK hI rfl rfl hJ hB, hI.2 224 100 rfl, by first | omega | (exfalso; omega)⟩⟩
set_option maxRecDepth 20000 in
set_option maxHeartbeats 4000000 in
theorem f_X12_cell {G : sw_G} (d : Nat) {h0 : sw_H} (hJ : mI h0) (y1 : Int) (hB : mB h0)  (hF : FM h0) : sw_E G NH SH (d + 1) mX12_cell 0 [some (sw_r 224), some (sw_i y1)] [] h0 (sw_Qi (fun z h' => h0 = h' ∧ (z = 0))) := by
  obtain ⟨b0, r0, t2, k4, k5, a3, a4, l3, s9, t0, z7, z8, z9, z10, z12, z61, z89⟩ := hF
  have fw : h0 227 (h0 224 36).toNat = 0 := z7 _
  have hI : mK (prW [] []) h0 h0 := mK.refl hJ
  have q30 : h0 261 30 = 0 := z61 30
  have q31 : h0 261 31 = 0 := z61 31
  have q32 : h0 261 32 = 0 := z61 32
  have q33 : h0 261 33 = 0 := z61 33
  refine sx_iload_n dX12_cell_0 rfl ?_
  refine sx_iconst dX12_cell_1 ⟨by decide, by decide⟩ ?_
  refine sx_aload_n dX12_cell_2 rfl ?_
  refine sx_getS (k := 61) (t := 261) cl_12 fl_X12_124 dX12_cell_3 s_224 (by decide) rfl (by decide) ?_
  refine sx_bipush dX12_cell_6 ⟨by decide, by decide, by decide⟩ ?_
  refine sy_iaK (k := 30) (F := fun z => (0 : Int) ≤ z ∧ z ≤ 24) rfl dX12_cell_8 s_261 (by decide) (by decide) ⟨by decide, by decide⟩ (hI.1 261 30) (fun r1 => ?_)
  refine sx_iconst dX12_cell_9 ⟨by decide, by decide⟩ ?_
  refine sx_isub dX12_cell_10 ?_
  refine sy_topw (by omega) ?_
  refine sx_callSz lk_X12_500 dX12_cell_11 (vs := [_, _, _]) rfl rfl (Nat.le_of_ble_eq_true rfl) (Nat.le_of_ble_eq_true rfl) rfl (c_X12_isIn _ hI.1 _ _ _) (fun x3 h2 zx3 ph2 => ?_)
  obtain ⟨rfl, p_x3⟩ := ph2
  refine sx_if_eq (tgt := 38) dX12_cell_14 (by decide) (fun c4 => ?_) (fun c4 => ?_)
  ·
    replace p_x3 := mt p_x3.mpr (show ¬ (x3 = 1) by rw [c4]; decide)
    clear zx3
    refine sx_iconst dX12_cell_38 ⟨by decide, by decide⟩ ?_
    refine sx_ireturn dX12_cell_39 ?_
    exact ⟨_, rfl, ⟨rfl, by first | omega | (exfalso; omega)⟩⟩
  ·
    have vx3 : x3 = 1 := by rcases zx3 with q | q; (exact absurd q c4); exact q
    replace p_x3 := p_x3.mp vx3
    clear zx3
    refine sx_aload_n dX12_cell_17 rfl ?_
    refine sx_getS (k := 61) (t := 261) cl_12 fl_X12_124 dX12_cell_18 s_224 (by decide) rfl (by decide) ?_
    refine sx_iconst dX12_cell_21 ⟨by decide, by decide⟩ ?_
    refine sx_aload_n dX12_cell_22 rfl ?_
    refine sx_getS (k := 61) (t := 261) cl_12 fl_X12_124 dX12_cell_23 s_224 (by decide) rfl (by decide) ?_
    refine sx_bipush dX12_cell_26 ⟨by decide, by decide, by decide⟩ ?_
    refine sy_iaK (k := 30) (F := fun z => (0 : Int) ≤ z ∧ z ≤ 24) rfl dX12_cell_28 s_261 (by decide) (by decide) ⟨by decide, by decide⟩ (hI.1 261 30) (fun r5 => ?_)
    refine sx_iadd dX12_cell_29 ?_
    refine sy_topw (by omega) ?_
    refine sx_iconst dX12_cell_30 ⟨by decide, by decide⟩ ?_
    refine sx_isub dX12_cell_31 ?_
    refine sy_topw (by omega) ?_
    refine sx_iload_n dX12_cell_32 rfl ?_
    refine sx_isub dX12_cell_33 ?_
    refine sy_topw (by omega) ?_
    refine sx_iaload dX12_cell_34 s_261 (by decide) (by decide) ⟨by omega, by omega⟩ ?_
    refine sx_goto (tgt := 39) dX12_cell_35 (by decide) ?_
    refine sx_ireturn dX12_cell_39 ?_
    exact ⟨_, rfl, ⟨rfl, by first | omega | (exfalso; omega)⟩⟩
set_option maxRecDepth 20000 in
set_option maxHeartbeats 4000000 in
theorem f_X12_put {G : sw_G} (d : Nat) {h0 : sw_H} (hJ : mI h0) (y1 : Int) (hB : mB h0)  (hF : FM h0) : sw_E G NH SH (d + 1) mX12_put 0 [some (sw_r 224), some (sw_i y1)] [] h0 (sw_Qi (fun z h' => h0 = h' ∧ (z = 0))) := by
  obtain ⟨b0, r0, t2, k4, k5, a3, a4, l3, s9, t0, z7, z8, z9, z10, z12, z61, z89⟩ := hF
  have fw : h0 227 (h0 224 36).toNat = 0 := z7 _
  have hI : mK (prW [] []) h0 h0 := mK.refl hJ
  have q30 : h0 261 30 = 0 := z61 30
  have q31 : h0 261 31 = 0 := z61 31
  have q32 : h0 261 32 = 0 := z61 32
  have q33 : h0 261 33 = 0 := z61 33
  refine sx_iload_n dX12_put_0 rfl ?_
  refine sx_iconst dX12_put_1 ⟨by decide, by decide⟩ ?_
  refine sx_aload_n dX12_put_2 rfl ?_
  refine sx_getS (k := 61) (t := 261) cl_12 fl_X12_124 dX12_put_3 s_224 (by decide) rfl (by decide) ?_
  refine sx_bipush dX12_put_6 ⟨by decide, by decide, by decide⟩ ?_
  refine sy_iaK (k := 31) (F := fun z => (0 : Int) ≤ z ∧ z ≤ 6) rfl dX12_put_8 s_261 (by decide) (by decide) ⟨by decide, by decide⟩ (hI.1 261 31) (fun r1 => ?_)
  refine sx_iconst dX12_put_9 ⟨by decide, by decide⟩ ?_
  refine sx_isub dX12_put_10 ?_
  refine sy_topw (by omega) ?_
  refine sx_callSz lk_X12_500 dX12_put_11 (vs := [_, _, _]) rfl rfl (Nat.le_of_ble_eq_true rfl) (Nat.le_of_ble_eq_true rfl) rfl (c_X12_isIn _ hI.1 _ _ _) (fun x3 h2 zx3 ph2 => ?_)
  obtain ⟨rfl, p_x3⟩ := ph2
  refine sx_if_eq (tgt := 39) dX12_put_14 (by decide) (fun c4 => ?_) (fun c4 => ?_)
  ·
    replace p_x3 := mt p_x3.mpr (show ¬ (x3 = 1) by rw [c4]; decide)
    clear zx3
    refine sx_iconst dX12_put_39 ⟨by decide, by decide⟩ ?_
    refine sx_ireturn dX12_put_40 ?_
    exact ⟨_, rfl, ⟨rfl, by first | omega | (exfalso; omega)⟩⟩
  ·
    have vx3 : x3 = 1 := by rcases zx3 with q | q; (exact absurd q c4); exact q
    replace p_x3 := p_x3.mp vx3
    clear zx3
    refine sx_aload_n dX12_put_17 rfl ?_
    refine sx_getS (k := 61) (t := 261) cl_12 fl_X12_124 dX12_put_18 s_224 (by decide) rfl (by decide) ?_
    refine sx_bipush dX12_put_21 ⟨by decide, by decide, by decide⟩ ?_
    refine sx_aload_n dX12_put_23 rfl ?_
    refine sx_getS (k := 61) (t := 261) cl_12 fl_X12_124 dX12_put_24 s_224 (by decide) rfl (by decide) ?_
    refine sx_bipush dX12_put_27 ⟨by decide, by decide, by decide⟩ ?_
    refine sy_iaK (k := 31) (F := fun z => (0 : Int) ≤ z ∧ z ≤ 6) rfl dX12_put_29 s_261 (by decide) (by decide) ⟨by decide, by decide⟩ (hI.1 261 31) (fun r5 => ?_)
    refine sx_iadd dX12_put_30 ?_
    refine sy_topw (by omega) ?_
    refine sx_iconst dX12_put_31 ⟨by decide, by decide⟩ ?_
    refine sx_isub dX12_put_32 ?_
    refine sy_topw (by omega) ?_
    refine sx_iload_n dX12_put_33 rfl ?_
    refine sx_isub dX12_put_34 ?_
    refine sy_topw (by omega) ?_
    refine sx_iaload dX12_put_35 s_261 (by decide) (by decide) ⟨by omega, by omega⟩ ?_
    refine sx_goto (tgt := 40) dX12_put_36 (by decide) ?_
    refine sx_ireturn dX12_put_40 ?_
    exact ⟨_, rfl, ⟨rfl, by first | omega | (exfalso; omega)⟩⟩
set_option maxRecDepth 20000 in
set_option maxHeartbeats 4000000 in
theorem f_X12_clear {G : sw_G} (d : Nat) {h0 : sw_H} (hJ : mI h0) (hB : mB h0)  (hF : FM h0) : sw_E G NH SH (d + 1) mX12_clear 0 [some (sw_r 224), none, none] [] h0 (sw_Qi (fun z h' => mK (prW [67, 68, 73, 74] [261, 262, 263, 267]) h0 h' ∧ (mB h') ∧ (h' 224 100 = h0 224 100) ∧ (z = -1))) := by
  obtain ⟨b0, r0, t2, k4, k5, a3, a4, l3, s9, t0, z7, z8, z9, z10, z12, z61, z89⟩ := hF
  have fw : h0 227 (h0 224 36).toNat = 0 := z7 _
  have hI : mK (prW [67, 68, 73, 74] [261, 262, 263, 267]) h0 h0 := mK.refl hJ
  have q30 : h0 261 30 = 0 := z61 30
  have q31 : h0 261 31 = 0 := z61 31
  have q32 : h0 261 32 = 0 := z61 32
  have q33 : h0 261 33 = 0 := z61 33
  have hB2 := hB.2
  have r30 : (0 : Int) ≤ h0 261 30 ∧ h0 261 30 ≤ 24 := hI.1 261 30
  have r31 : (0 : Int) ≤ h0 261 31 ∧ h0 261 31 ≤ 6 := hI.1 261 31
  refine sx_aload_n dX12_clear_0 rfl ?_
  refine sx_getS (k := 61) (t := 261) cl_12 fl_X12_124 dX12_clear_1 s_224 (by decide) rfl (by decide) ?_
  refine sx_bipush dX12_clear_4 ⟨by decide, by decide, by decide⟩ ?_
  refine sy_iaK (k := 30) (F := fun z => (0 : Int) ≤ z ∧ z ≤ 24) rfl dX12_clear_6 s_261 (by decide) (by decide) ⟨by decide, by decide⟩ (hI.1 261 30) (fun r1 => ?_)
  refine sx_aload_n dX12_clear_7 rfl ?_
  refine sx_getS (k := 61) (t := 261) cl_12 fl_X12_124 dX12_clear_8 s_224 (by decide) rfl (by decide) ?_
  refine sx_bipush dX12_clear_11 ⟨by decide, by decide, by decide⟩ ?_
  refine sy_iaK (k := 31) (F := fun z => (0 : Int) ≤ z ∧ z ≤ 6) rfl dX12_clear_13 s_261 (by decide) (by decide) ⟨by decide, by decide⟩ (hI.1 261 31) (fun r2 => ?_)
  refine sx_iadd dX12_clear_14 ?_
  refine sy_topw (by omega) ?_
  refine sy_top (fun v3 ev3 => ?_)
  refine sx_istore_n dX12_clear_15 (by decide) ?_
  refine sx_iload_n dX12_clear_16 rfl ?_
  refine sx_if_ne (tgt := 22) dX12_clear_17 (by decide) (fun c4 => ?_) (fun c4 => ?_)
  ·
    refine sx_aload_n dX12_clear_22 rfl ?_
    refine sx_callVv lk_X12_561 cl_12 s_224 (by decide) dX12_clear_23 (vs := []) rfl rfl (Nat.le_of_ble_eq_true rfl) (Nat.le_of_ble_eq_true rfl) rfl (c_X12_keepAct _ hI.1) (fun h5 ph5 => ?_)
    obtain ⟨Kh5, s_h5⟩ := ph5
    have Ih5 := hI.tr Kh5 (prW_sub rfl rfl)
    have th5_224_67 := Kh5.2 224 67 rfl
    have th5_224_68 := Kh5.2 224 68 rfl
    have th5_224_71 := Kh5.2 224 71 rfl
    have th5_224_85 := Kh5.2 224 85 rfl
    have th5_224_100 := Kh5.2 224 100 rfl
    have th5_261_30 := Kh5.2 261 30 rfl
    have th5_261_31 := Kh5.2 261 31 rfl
    refine sx_aload_n dX12_clear_26 rfl ?_
    refine sx_iconst dX12_clear_27 ⟨by decide, by decide⟩ ?_
    refine sy_putI (k := 67) cl_12 fl_X12_522 dX12_clear_28 s_224 (by decide) rfl (by decide) rfl rfl (fun h7 eh7 => ?_)
    have Ih7 := Ih5.up eh7 trivial rfl
    have th7_224_67 := eh7.1
    have th7_224_68 := eh7.2 (224) 68 (by decide)
    have th7_224_71 := eh7.2 (224) 71 (by decide)
    have th7_224_73 := eh7.2 (224) 73 (by decide)
    have th7_224_74 := eh7.2 (224) 74 (by decide)
    have th7_224_85 := eh7.2 (224) 85 (by decide)
    have th7_224_100 := eh7.2 (224) 100 (by decide)
    have th7_261_30 := eh7.2 (261) 30 (fun q => absurd q.1 (by decide))
    have th7_261_31 := eh7.2 (261) 31 (fun q => absurd q.1 (by decide))
    refine sx_aload_n dX12_clear_31 rfl ?_
    refine sx_iconst dX12_clear_32 ⟨by decide, by decide⟩ ?_
    refine sy_putI (k := 68) cl_12 fl_X12_528 dX12_clear_33 s_224 (by decide) rfl (by decide) rfl rfl (fun h8 eh8 => ?_)
    have Ih8 := Ih7.up eh8 trivial rfl
    have th8_224_67 := eh8.2 (224) 67 (by decide)
    have th8_224_68 := eh8.1
    have th8_224_71 := eh8.2 (224) 71 (by decide)
    have th8_224_73 := eh8.2 (224) 73 (by decide)
    have th8_224_74 := eh8.2 (224) 74 (by decide)
    have th8_224_85 := eh8.2 (224) 85 (by decide)
    have th8_224_100 := eh8.2 (224) 100 (by decide)
    have th8_261_30 := eh8.2 (261) 30 (fun q => absurd q.1 (by decide))
    have th8_261_31 := eh8.2 (261) 31 (fun q => absurd q.1 (by decide))
    refine sx_aload_n dX12_clear_36 rfl ?_
    refine sx_callVi lk_X12_567 cl_12 s_224 (by decide) dX12_clear_37 (vs := []) rfl rfl (Nat.le_of_ble_eq_true rfl) (Nat.le_of_ble_eq_true rfl) rfl (c_X12_toEarnest _ Ih8.1 (by omega)) (fun x10 h9 ph9 => ?_)
    have Kh9 := ph9
    have Ih9 := Ih8.tr Kh9 (prW_sub rfl rfl)
    have th9_224_67 := Kh9.2 224 67 rfl
    have th9_224_68 := Kh9.2 224 68 rfl
    have th9_224_71 := Kh9.2 224 71 rfl
    have th9_224_73 := Kh9.2 224 73 rfl
    have th9_224_74 := Kh9.2 224 74 rfl
    have th9_224_85 := Kh9.2 224 85 rfl
    have th9_224_100 := Kh9.2 224 100 rfl
    refine sx_istore_n dX12_clear_40 (by decide) ?_
    refine sx_iload_n dX12_clear_41 rfl ?_
    refine sx_ireturn dX12_clear_42 ?_
    exact ⟨_, rfl, ⟨Ih9, ⟨mC_mK Ih9 rfl rfl hJ hB.1, by have := hB.2; omega, by have := hB.2; omega, by have := hB.2; omega⟩, Ih9.2 224 100 rfl, by first | omega | (exfalso; omega)⟩⟩
  ·
    refine sx_iconst dX12_clear_20 ⟨by decide, by decide⟩ ?_
    refine sx_ireturn dX12_clear_21 ?_
    exact ⟨_, rfl, ⟨hI, ⟨mC_mK hI rfl rfl hJ hB.1, by have := hB.2; omega, by have := hB.2; omega, by have := hB.2; omega⟩, hI.2 224 100 rfl, by first | omega | (exfalso; omega)⟩⟩
set_option maxRecDepth 20000 in
set_option maxHeartbeats 4000000 in
theorem f_X12_flip {G : sw_G} (d : Nat) {h0 : sw_H} (hJ : mI h0) (hB : mB h0)  (hF : FM h0) : sw_E G NH SH (d + 1) mX12_flip 0 [some (sw_r 224)] [] h0 (sw_Qi (fun z h' => mK (prW [67, 68, 73, 74] [261, 262, 263, 267]) h0 h' ∧ (mB h') ∧ (h' 224 100 = h0 224 100) ∧ (z = -1))) := by
  obtain ⟨b0, r0, t2, k4, k5, a3, a4, l3, s9, t0, z7, z8, z9, z10, z12, z61, z89⟩ := hF
  have fw : h0 227 (h0 224 36).toNat = 0 := z7 _
  have hI : mK (prW [67, 68, 73, 74] [261, 262, 263, 267]) h0 h0 := mK.refl hJ
  have q30 : h0 261 30 = 0 := z61 30
  have q31 : h0 261 31 = 0 := z61 31
  have q32 : h0 261 32 = 0 := z61 32
  have q33 : h0 261 33 = 0 := z61 33
  have hB2 := hB.2
  have r30 : (0 : Int) ≤ h0 261 30 ∧ h0 261 30 ≤ 24 := hI.1 261 30
  have r31 : (0 : Int) ≤ h0 261 31 ∧ h0 261 31 ≤ 6 := hI.1 261 31
  refine sx_aload_n dX12_flip_0 rfl ?_
  refine sx_callVv lk_X12_561 cl_12 s_224 (by decide) dX12_flip_1 (vs := []) rfl rfl (Nat.le_of_ble_eq_true rfl) (Nat.le_of_ble_eq_true rfl) rfl (c_X12_keepAct _ hI.1) (fun h1 ph1 => ?_)
  obtain ⟨Kh1, s_h1⟩ := ph1
  have Ih1 := hI.tr Kh1 (prW_sub rfl rfl)
  have th1_224_67 := Kh1.2 224 67 rfl
  have th1_224_68 := Kh1.2 224 68 rfl
  have th1_224_71 := Kh1.2 224 71 rfl
  have th1_224_85 := Kh1.2 224 85 rfl
  have th1_224_100 := Kh1.2 224 100 rfl
  have th1_261_30 := Kh1.2 261 30 rfl
  have th1_261_31 := Kh1.2 261 31 rfl
  refine sx_aload_n dX12_flip_4 rfl ?_
  refine sx_getS (k := 61) (t := 261) cl_12 fl_X12_124 dX12_flip_5 s_224 (by decide) rfl (by decide) ?_
  refine sx_bipush dX12_flip_8 ⟨by decide, by decide, by decide⟩ ?_
  refine sx_sipush dX12_flip_10 ⟨by decide, by decide, by decide⟩ ?_
  refine sx_aload_n dX12_flip_13 rfl ?_
  refine sx_getS (k := 61) (t := 261) cl_12 fl_X12_124 dX12_flip_14 s_224 (by decide) rfl (by decide) ?_
  refine sx_bipush dX12_flip_17 ⟨by decide, by decide, by decide⟩ ?_
  refine sx_iaload dX12_flip_19 s_261 (by decide) (by decide) ⟨by omega, by omega⟩ ?_
  refine sx_imul dX12_flip_20 ?_
  refine sx_bipush dX12_flip_21 ⟨by decide, by decide, by decide⟩ ?_
  refine sx_iadd dX12_flip_23 ?_
  refine sx_sipush dX12_flip_24 ⟨by decide, by decide, by decide⟩ ?_
  refine sx_irem dX12_flip_27 (by decide) ?_
  refine sy_iastore dX12_flip_28 s_261 (by decide) (by decide) ⟨by omega, by omega⟩ (fun h3 eh3 => ?_)
  have Ih3 := Ih1.up eh3 (by exact omc_all_lt (Or.inl rfl) (by decide) (by decide)) rfl
  have th3_224_67 := eh3.2 (224) 67 (fun q => absurd q.1 (by decide))
  have th3_224_68 := eh3.2 (224) 68 (fun q => absurd q.1 (by decide))
  have th3_224_71 := eh3.2 (224) 71 (fun q => absurd q.1 (by decide))
  have th3_224_73 := eh3.2 (224) 73 (fun q => absurd q.1 (by decide))
  have th3_224_74 := eh3.2 (224) 74 (fun q => absurd q.1 (by decide))
  have th3_224_85 := eh3.2 (224) 85 (fun q => absurd q.1 (by decide))
  have th3_224_100 := eh3.2 (224) 100 (fun q => absurd q.1 (by decide))
  have th3_261_30 := eh3.2 (261) 30 (by omega)
  have th3_261_31 := eh3.2 (261) 31 (by omega)
  refine sx_aload_n dX12_flip_29 rfl ?_
  refine sx_getS (k := 61) (t := 261) cl_12 fl_X12_124 dX12_flip_30 s_224 (by decide) rfl (by decide) ?_
  refine sx_bipush dX12_flip_33 ⟨by decide, by decide, by decide⟩ ?_
  refine sx_iaload dX12_flip_35 s_261 (by decide) (by decide) ⟨by omega, by omega⟩ ?_
  refine sx_bipush dX12_flip_36 ⟨by decide, by decide, by decide⟩ ?_
  refine sx_irem dX12_flip_38 (by decide) ?_
  refine sx_aload_n dX12_flip_39 rfl ?_
  refine sx_getS (k := 14) (t := 230) cl_12 fl_X12_30 dX12_flip_40 s_224 (by decide) rfl (by decide) ?_
  refine sx_aload_n dX12_flip_43 rfl ?_
  refine sx_getI (k := 36) cl_12 fl_X12_349 dX12_flip_44 s_224 (by decide) rfl (by decide) ?_
  have r4 : (0 : Int) ≤ h3 224 36 ∧ h3 224 36 ≤ 1 := Ih3.1 224 36
  refine sy_iaF (F := fun z => (0 : Int) ≤ z ∧ z ≤ 100) dX12_flip_47 s_230 (by decide) (by decide) ⟨by omega, by omega⟩ (Ih3.1 230 _) (fun r5 => ?_)
  refine sx_icmp_ge (tgt := 61) dX12_flip_48 (by decide) (fun c6 => ?_) (fun c6 => ?_)
  ·
    refine sx_iconst dX12_flip_61 ⟨by decide, by decide⟩ ?_
    refine sx_ireturn dX12_flip_62 ?_
    exact ⟨_, rfl, ⟨Ih3, ⟨mC_mK Ih3 rfl rfl hJ hB.1, by have := hB.2; omega, by have := hB.2; omega, by have := hB.2; omega⟩, Ih3.2 224 100 rfl, by first | omega | (exfalso; omega)⟩⟩
  ·
    refine sx_aload_n dX12_flip_51 rfl ?_
    refine sx_getS (k := 61) (t := 261) cl_12 fl_X12_124 dX12_flip_52 s_224 (by decide) rfl (by decide) ?_
    refine sx_bipush dX12_flip_55 ⟨by decide, by decide, by decide⟩ ?_
    refine sy_iaK (k := 30) (F := fun z => (0 : Int) ≤ z ∧ z ≤ 24) rfl dX12_flip_57 s_261 (by decide) (by decide) ⟨by decide, by decide⟩ (Ih3.1 261 30) (fun r7 => ?_)
    refine sx_if_ne (tgt := 63) dX12_flip_58 (by decide) (fun c8 => ?_) (fun c8 => ?_)
    ·
      refine sx_aload_n dX12_flip_63 rfl ?_
      refine sx_getS (k := 61) (t := 261) cl_12 fl_X12_124 dX12_flip_64 s_224 (by decide) rfl (by decide) ?_
      refine sx_iconst dX12_flip_67 ⟨by decide, by decide⟩ ?_
      refine sx_aload_n dX12_flip_68 rfl ?_
      refine sx_getS (k := 61) (t := 261) cl_12 fl_X12_124 dX12_flip_69 s_224 (by decide) rfl (by decide) ?_
      refine sx_bipush dX12_flip_72 ⟨by decide, by decide, by decide⟩ ?_
      refine sy_iaK (k := 30) (F := fun z => (0 : Int) ≤ z ∧ z ≤ 24) rfl dX12_flip_74 s_261 (by decide) (by decide) ⟨by decide, by decide⟩ (Ih3.1 261 30) (fun r9 => ?_)
      refine sx_iadd dX12_flip_75 ?_
      refine sy_topw (by omega) ?_
      refine sx_iconst dX12_flip_76 ⟨by decide, by decide⟩ ?_
      refine sx_isub dX12_flip_77 ?_
      refine sy_topw (by omega) ?_
      refine sx_dup2 dX12_flip_78 ?_
      refine sx_iaload dX12_flip_79 s_261 (by decide) (by decide) ⟨by omega, by omega⟩ ?_
      refine sx_iconst dX12_flip_80 ⟨by decide, by decide⟩ ?_
      refine sx_aload_n dX12_flip_81 rfl ?_
      refine sx_getS (k := 61) (t := 261) cl_12 fl_X12_124 dX12_flip_82 s_224 (by decide) rfl (by decide) ?_
      refine sx_bipush dX12_flip_85 ⟨by decide, by decide, by decide⟩ ?_
      refine sx_iaload dX12_flip_87 s_261 (by decide) (by decide) ⟨by omega, by omega⟩ ?_
      refine sx_bipush dX12_flip_88 ⟨by decide, by decide, by decide⟩ ?_
      refine sx_idiv dX12_flip_90 (by decide) ?_
      refine sx_ishl dX12_flip_91 ?_
      refine sx_ixor dX12_flip_92 ?_
      refine sy_iastore dX12_flip_93 s_261 (by decide) (by decide) ⟨by omega, by omega⟩ (fun h10 eh10 => ?_)
      have Ih10 := Ih3.up eh10 (by exact omc_all_lt (Or.inl rfl) (by omega) (by omega)) rfl
      have th10_224_67 := eh10.2 (224) 67 (fun q => absurd q.1 (by decide))
      have th10_224_68 := eh10.2 (224) 68 (fun q => absurd q.1 (by decide))
      have th10_224_71 := eh10.2 (224) 71 (fun q => absurd q.1 (by decide))
      have th10_224_73 := eh10.2 (224) 73 (fun q => absurd q.1 (by decide))
      have th10_224_74 := eh10.2 (224) 74 (fun q => absurd q.1 (by decide))
      have th10_224_85 := eh10.2 (224) 85 (fun q => absurd q.1 (by decide))
      have th10_224_100 := eh10.2 (224) 100 (fun q => absurd q.1 (by decide))
      have th10_261_30 := eh10.2 (261) 30 (by omega)
      have th10_261_31 := eh10.2 (261) 31 (by omega)
      refine sx_aload_n dX12_flip_94 rfl ?_
      refine sx_getS (k := 61) (t := 261) cl_12 fl_X12_124 dX12_flip_95 s_224 (by decide) rfl (by decide) ?_
      refine sx_bipush dX12_flip_98 ⟨by decide, by decide, by decide⟩ ?_
      refine sx_iaload dX12_flip_100 s_261 (by decide) (by decide) ⟨by omega, by omega⟩ ?_
      refine sx_bipush dX12_flip_101 ⟨by decide, by decide, by decide⟩ ?_
      refine sx_idiv dX12_flip_103 (by decide) ?_
      refine sx_ireturn dX12_flip_104 ?_
      exact ⟨_, rfl, ⟨Ih10, ⟨mC_mK Ih10 rfl rfl hJ hB.1, by have := hB.2; omega, by have := hB.2; omega, by have := hB.2; omega⟩, Ih10.2 224 100 rfl, by first | omega | (exfalso; omega)⟩⟩
    ·
      refine sx_iconst dX12_flip_61 ⟨by decide, by decide⟩ ?_
      refine sx_ireturn dX12_flip_62 ?_
      exact ⟨_, rfl, ⟨Ih3, ⟨mC_mK Ih3 rfl rfl hJ hB.1, by have := hB.2; omega, by have := hB.2; omega, by have := hB.2; omega⟩, Ih3.2 224 100 rfl, by first | omega | (exfalso; omega)⟩⟩
set_option maxRecDepth 20000 in
set_option maxHeartbeats 4000000 in
theorem f_X12_about {G : sw_G} (d : Nat) {h0 : sw_H} (hJ : mI h0) (y1 : Int) (hB : mB h0)  (hF : FM h0) : sw_E G NH SH (d + 1) mX12_about 0 [some (sw_r 224), some (sw_i y1)] [] h0 (sw_Qi (fun z h' => h0 = h' ∧ (z = if 0 ≤ y1 ∧ y1 ≤ 13 then 0 else -1))) := by
  obtain ⟨b0, r0, t2, k4, k5, a3, a4, l3, s9, t0, z7, z8, z9, z10, z12, z61, z89⟩ := hF
  have fw : h0 227 (h0 224 36).toNat = 0 := z7 _
  have hI : mK (prW [] []) h0 h0 := mK.refl hJ
  have q30 : h0 261 30 = 0 := z61 30
  have q31 : h0 261 31 = 0 := z61 31
  have q32 : h0 261 32 = 0 := z61 32
  have q33 : h0 261 33 = 0 := z61 33
  have fi : h0 228 (h0 224 36).toNat = 0 := z8 _
  have fu : h0 229 (h0 224 36).toNat = 0 := z9 _
  have ff : h0 230 (h0 224 36).toNat = 0 := z10 _
  have q32b : h0 261 (Int.toNat 32) = 0 := z61 _
  have q33b : h0 261 (Int.toNat 33) = 0 := z61 _
  refine sx_iload_n dX12_about_0 rfl ?_
  refine sx_tsw (dt := 169) (ts := [72, 77, 87, 95, 103, 111, 119, 124, 129, 134, 139, 144, 154, 159]) dX12_about_1 (by decide) (by decide) (by decide) (fun c1 => ?_) (And.intro (fun c1 => ?_) (And.intro (fun c1 => ?_) (And.intro (fun c1 => ?_) (And.intro (fun c1 => ?_) (And.intro (fun c1 => ?_) (And.intro (fun c1 => ?_) (And.intro (fun c1 => ?_) (And.intro (fun c1 => ?_) (And.intro (fun c1 => ?_) (And.intro (fun c1 => ?_) (And.intro (fun c1 => ?_) (And.intro (fun c1 => ?_) (And.intro (fun c1 => ?_) (And.intro (fun c1 => ?_) trivial))))))))))))))
  ·
    refine sx_iconst dX12_about_169 ⟨by decide, by decide⟩ ?_
    refine sx_ireturn dX12_about_170 ?_
    exact ⟨_, rfl, ⟨rfl, by split <;> omega⟩⟩
  ·
    refine sx_aload_n dX12_about_72 rfl ?_
    refine sx_callVi lk_X12_497 cl_12 s_224 (by decide) dX12_about_73 (vs := []) rfl rfl (Nat.le_of_ble_eq_true rfl) (Nat.le_of_ble_eq_true rfl) rfl (c_X12_lots _ hI.1) (fun x3 h2 ph2 => ?_)
    obtain ⟨rfl, p_x3⟩ := ph2
    refine sx_ireturn dX12_about_76 ?_
    exact ⟨_, rfl, ⟨rfl, by split <;> omega⟩⟩
  ·
    refine sx_aload_n dX12_about_77 rfl ?_
    refine sx_getS (k := 12) (t := 228) cl_12 fl_X12_24 dX12_about_78 s_224 (by decide) rfl (by decide) ?_
    refine sx_aload_n dX12_about_81 rfl ?_
    refine sx_getI (k := 36) cl_12 fl_X12_349 dX12_about_82 s_224 (by decide) rfl (by decide) ?_
    have r4 : (0 : Int) ≤ h0 224 36 ∧ h0 224 36 ≤ 1 := hI.1 224 36
    refine sy_iaF (F := fun z => (0 : Int) ≤ z ∧ z ≤ 60) dX12_about_85 s_228 (by decide) (by decide) ⟨by omega, by omega⟩ (hI.1 228 _) (fun r5 => ?_)
    refine sx_ireturn dX12_about_86 ?_
    exact ⟨_, rfl, ⟨rfl, by split <;> omega⟩⟩
  ·
    refine sx_aload_n dX12_about_87 rfl ?_
    refine sx_getS (k := 61) (t := 261) cl_12 fl_X12_124 dX12_about_88 s_224 (by decide) rfl (by decide) ?_
    refine sx_bipush dX12_about_91 ⟨by decide, by decide, by decide⟩ ?_
    refine sy_iaK (k := 30) (F := fun z => (0 : Int) ≤ z ∧ z ≤ 24) rfl dX12_about_93 s_261 (by decide) (by decide) ⟨by decide, by decide⟩ (hI.1 261 30) (fun r6 => ?_)
    refine sx_ireturn dX12_about_94 ?_
    exact ⟨_, rfl, ⟨rfl, by split <;> omega⟩⟩
  ·
    refine sx_aload_n dX12_about_95 rfl ?_
    refine sx_getS (k := 61) (t := 261) cl_12 fl_X12_124 dX12_about_96 s_224 (by decide) rfl (by decide) ?_
    refine sx_bipush dX12_about_99 ⟨by decide, by decide, by decide⟩ ?_
    refine sy_iaK (k := 31) (F := fun z => (0 : Int) ≤ z ∧ z ≤ 6) rfl dX12_about_101 s_261 (by decide) (by decide) ⟨by decide, by decide⟩ (hI.1 261 31) (fun r7 => ?_)
    refine sx_ireturn dX12_about_102 ?_
    exact ⟨_, rfl, ⟨rfl, by split <;> omega⟩⟩
  ·
    refine sx_aload_n dX12_about_103 rfl ?_
    refine sx_getS (k := 61) (t := 261) cl_12 fl_X12_124 dX12_about_104 s_224 (by decide) rfl (by decide) ?_
    refine sx_bipush dX12_about_107 ⟨by decide, by decide, by decide⟩ ?_
    refine sx_iaload dX12_about_109 s_261 (by decide) (by decide) ⟨by omega, by omega⟩ ?_
    refine sx_ireturn dX12_about_110 ?_
    exact ⟨_, rfl, ⟨rfl, by split <;> omega⟩⟩
  ·
    refine sx_aload_n dX12_about_111 rfl ?_
    refine sx_getS (k := 61) (t := 261) cl_12 fl_X12_124 dX12_about_112 s_224 (by decide) rfl (by decide) ?_
    refine sx_bipush dX12_about_115 ⟨by decide, by decide, by decide⟩ ?_
    refine sx_iaload dX12_about_117 s_261 (by decide) (by decide) ⟨by omega, by omega⟩ ?_
    refine sx_ireturn dX12_about_118 ?_
    exact ⟨_, rfl, ⟨rfl, by split <;> omega⟩⟩
  ·
    refine sx_aload_n dX12_about_119 rfl ?_
    refine sx_getI (k := 73) cl_12 fl_X12_507 dX12_about_120 s_224 (by decide) rfl (by decide) ?_
    have r8 : (0 : Int) ≤ h0 224 73 ∧ h0 224 73 ≤ 40 := hI.1 224 73
    refine sx_ireturn dX12_about_123 ?_
    exact ⟨_, rfl, ⟨rfl, by split <;> omega⟩⟩
  ·
    refine sx_aload_n dX12_about_124 rfl ?_
    refine sx_getI (k := 74) cl_12 fl_X12_510 dX12_about_125 s_224 (by decide) rfl (by decide) ?_
    have r9 : (0 : Int) ≤ h0 224 74 ∧ h0 224 74 ≤ 40 := hI.1 224 74
    refine sx_ireturn dX12_about_128 ?_
    exact ⟨_, rfl, ⟨rfl, by split <;> omega⟩⟩
  ·
    refine sx_aload_n dX12_about_129 rfl ?_
    refine sx_getI (k := 99) cl_12 fl_X12_513 dX12_about_130 s_224 (by decide) rfl (by decide) ?_
    have r10 : (0 : Int) ≤ h0 224 99 ∧ h0 224 99 ≤ 30 := hI.1 224 99
    refine sx_ireturn dX12_about_133 ?_
    exact ⟨_, rfl, ⟨rfl, by split <;> omega⟩⟩
  ·
    refine sx_aload_n dX12_about_134 rfl ?_
    refine sx_getI (k := 100) cl_12 fl_X12_679 dX12_about_135 s_224 (by decide) rfl (by decide) ?_
    have r11 : (0 : Int) ≤ h0 224 100 ∧ h0 224 100 ≤ 100000 := hI.1 224 100
    refine sx_ireturn dX12_about_138 ?_
    exact ⟨_, rfl, ⟨rfl, by split <;> omega⟩⟩
  ·
    refine sx_aload_n dX12_about_139 rfl ?_
    refine sx_getI (k := 2) cl_12 fl_X12_346 dX12_about_140 s_224 (by decide) rfl (by decide) ?_
    have r12 : (0 : Int) ≤ h0 224 2 ∧ h0 224 2 ≤ 1600 := hI.1 224 2
    refine sx_ireturn dX12_about_143 ?_
    exact ⟨_, rfl, ⟨rfl, by split <;> omega⟩⟩
  ·
    refine sx_aload_n dX12_about_144 rfl ?_
    refine sx_getS (k := 13) (t := 229) cl_12 fl_X12_27 dX12_about_145 s_224 (by decide) rfl (by decide) ?_
    refine sx_aload_n dX12_about_148 rfl ?_
    refine sx_getI (k := 36) cl_12 fl_X12_349 dX12_about_149 s_224 (by decide) rfl (by decide) ?_
    have r13 : (0 : Int) ≤ h0 224 36 ∧ h0 224 36 ≤ 1 := hI.1 224 36
    refine sy_iaF (F := fun z => (0 : Int) ≤ z ∧ z ≤ 60) dX12_about_152 s_229 (by decide) (by decide) ⟨by omega, by omega⟩ (hI.1 229 _) (fun r14 => ?_)
    refine sx_ireturn dX12_about_153 ?_
    exact ⟨_, rfl, ⟨rfl, by split <;> omega⟩⟩
  ·
    refine sx_aload_n dX12_about_154 rfl ?_
    refine sx_getI (k := 83) cl_12 fl_X12_516 dX12_about_155 s_224 (by decide) rfl (by decide) ?_
    have r15 : (0 : Int) ≤ h0 224 83 ∧ h0 224 83 ≤ 64 := hI.1 224 83
    refine sx_ireturn dX12_about_158 ?_
    exact ⟨_, rfl, ⟨rfl, by split <;> omega⟩⟩
  ·
    refine sx_aload_n dX12_about_159 rfl ?_
    refine sx_getS (k := 14) (t := 230) cl_12 fl_X12_30 dX12_about_160 s_224 (by decide) rfl (by decide) ?_
    refine sx_aload_n dX12_about_163 rfl ?_
    refine sx_getI (k := 36) cl_12 fl_X12_349 dX12_about_164 s_224 (by decide) rfl (by decide) ?_
    have r16 : (0 : Int) ≤ h0 224 36 ∧ h0 224 36 ≤ 1 := hI.1 224 36
    refine sy_iaF (F := fun z => (0 : Int) ≤ z ∧ z ≤ 100) dX12_about_167 s_230 (by decide) (by decide) ⟨by omega, by omega⟩ (hI.1 230 _) (fun r17 => ?_)
    refine sx_ireturn dX12_about_168 ?_
    exact ⟨_, rfl, ⟨rfl, by split <;> omega⟩⟩
set_option maxRecDepth 20000 in
set_option maxHeartbeats 4000000 in
theorem f_X12_back {G : sw_G} (d : Nat) {h0 : sw_H} (hJ : mI h0) (y1 : Int) (hB : mB h0)  (hF : FM h0) : sw_E G NH SH (d + 1) mX12_back 0 [some (sw_r 224), some (sw_i y1), none] [] h0 (sw_Qi (fun z h' => mK (prW [73, 74] [261]) h0 h' ∧ (mB h') ∧ (h' 224 100 = h0 224 100) ∧ (z = -1))) := by
  obtain ⟨b0, r0, t2, k4, k5, a3, a4, l3, s9, t0, z7, z8, z9, z10, z12, z61, z89⟩ := hF
  have fw : h0 227 (h0 224 36).toNat = 0 := z7 _
  have hI : mK (prW [73, 74] [261]) h0 h0 := mK.refl hJ
  have q30 : h0 261 30 = 0 := z61 30
  have q31 : h0 261 31 = 0 := z61 31
  have q32 : h0 261 32 = 0 := z61 32
  have q33 : h0 261 33 = 0 := z61 33
  have fb := z89 y1.toNat
  refine sx_iload_n dX12_back_0 rfl ?_
  refine sx_iconst dX12_back_1 ⟨by decide, by decide⟩ ?_
  refine sx_iconst dX12_back_2 ⟨by decide, by decide⟩ ?_
  refine sx_callSz lk_X12_500 dX12_back_3 (vs := [_, _, _]) rfl rfl (Nat.le_of_ble_eq_true rfl) (Nat.le_of_ble_eq_true rfl) rfl (c_X12_isIn _ hI.1 _ _ _) (fun x2 h1 zx2 ph1 => ?_)
  obtain ⟨rfl, p_x2⟩ := ph1
  refine sx_if_eq (tgt := 18) dX12_back_6 (by decide) (fun c3 => ?_) (fun c3 => ?_)
  ·
    replace p_x2 := mt p_x2.mpr (show ¬ (x2 = 1) by rw [c3]; decide)
    clear zx2
    refine sx_iconst dX12_back_18 ⟨by decide, by decide⟩ ?_
    refine sx_ireturn dX12_back_19 ?_
    exact ⟨_, rfl, ⟨hI, ⟨mC_mK hI rfl rfl hJ hB.1, by have := hB.2; omega, by have := hB.2; omega, by have := hB.2; omega⟩, hI.2 224 100 rfl, by first | omega | (exfalso; omega)⟩⟩
  ·
    have vx2 : x2 = 1 := by rcases zx2 with q | q; (exact absurd q c3); exact q
    replace p_x2 := p_x2.mp vx2
    clear zx2
    refine sx_aload_n dX12_back_9 rfl ?_
    refine sx_getS (k := 102) (t := 289) cl_12 fl_X12_215 dX12_back_10 s_224 (by decide) rfl (by decide) ?_
    refine sx_iload_n dX12_back_13 rfl ?_
    refine sx_zaload dX12_back_14 s_289 (by decide) (by decide) ⟨by omega, by omega⟩ (fun b4 b5 => ?_)
    refine sx_if_ne (tgt := 20) dX12_back_15 (by decide) (fun c6 => ?_) (fun c6 => ?_)
    ·
      refine sx_iconst dX12_back_20 ⟨by decide, by decide⟩ ?_
      refine sx_istore_n dX12_back_21 (by decide) ?_
      refine sx_loop1 (fun (h : sw_H) (k : Int) => (mK (prW [73, 74] [261]) h0 h) ∧ (0 ≤ k) ∧ (h 224 71 = h0 224 71) ∧ (h 224 85 = h0 224 85)) (fun (h : sw_H) (k : Int) => (34 - k).toNat) (fun (h : sw_H) (k : Int) => sw_E G NH SH (d + 1) mX12_back 22 [some (sw_r 224), some (sw_i y1), some (sw_i k)] [] h (sw_Qi (fun z h' => mK (prW [73, 74] [261]) h0 h' ∧ (mB h') ∧ (h' 224 100 = h0 224 100) ∧ (z = -1)))) ?_ _ _ ?_
      · rintro h7 k_8 ⟨Ih7, j9, j10, j11⟩ ihh7
        try dsimp only at ihh7
        refine sx_iload_n dX12_back_22 rfl ?_
        refine sx_bipush dX12_back_23 ⟨by decide, by decide, by decide⟩ ?_
        refine sx_icmp_ge (tgt := 51) dX12_back_25 (by decide) (fun c12 => ?_) (fun c12 => ?_)
        ·
          refine sx_aload_n dX12_back_51 rfl ?_
          refine sx_iconst dX12_back_52 ⟨by decide, by decide⟩ ?_
          refine sy_putI (k := 73) cl_12 fl_X12_507 dX12_back_53 s_224 (by decide) rfl (by decide) rfl rfl (fun h13 eh13 => ?_)
          have Ih13 := Ih7.up eh13 (show (0 : Int) ≤ _ ∧ _ ≤ (40 : Int) from ⟨by omega, by omega⟩) rfl
          have th13_224_71 := eh13.2 (224) 71 (by decide)
          have th13_224_73 := eh13.1
          have th13_224_74 := eh13.2 (224) 74 (by decide)
          have th13_224_85 := eh13.2 (224) 85 (by decide)
          have th13_224_100 := eh13.2 (224) 100 (by decide)
          refine sx_aload_n dX12_back_56 rfl ?_
          refine sx_iconst dX12_back_57 ⟨by decide, by decide⟩ ?_
          refine sy_putI (k := 74) cl_12 fl_X12_510 dX12_back_58 s_224 (by decide) rfl (by decide) rfl rfl (fun h14 eh14 => ?_)
          have Ih14 := Ih13.up eh14 (show (0 : Int) ≤ _ ∧ _ ≤ (40 : Int) from ⟨by omega, by omega⟩) rfl
          have th14_224_71 := eh14.2 (224) 71 (by decide)
          have th14_224_73 := eh14.2 (224) 73 (by decide)
          have th14_224_74 := eh14.1
          have th14_224_85 := eh14.2 (224) 85 (by decide)
          have th14_224_100 := eh14.2 (224) 100 (by decide)
          refine sx_aload_n dX12_back_61 rfl ?_
          refine sx_getS (k := 61) (t := 261) cl_12 fl_X12_124 dX12_back_62 s_224 (by decide) rfl (by decide) ?_
          refine sx_bipush dX12_back_65 ⟨by decide, by decide, by decide⟩ ?_
          refine sy_iaK (k := 30) (F := fun z => (0 : Int) ≤ z ∧ z ≤ 24) rfl dX12_back_67 s_261 (by decide) (by decide) ⟨by decide, by decide⟩ (Ih14.1 261 30) (fun r15 => ?_)
          refine sx_ireturn dX12_back_68 ?_
          exact ⟨_, rfl, ⟨Ih14, ⟨mC_mK Ih14 rfl rfl hJ hB.1, by have := hB.2; omega, by have := hB.2; omega, by have := hB.2; omega⟩, Ih14.2 224 100 rfl, by first | omega | (exfalso; omega)⟩⟩
        ·
          refine sx_aload_n dX12_back_28 rfl ?_
          refine sx_getS (k := 61) (t := 261) cl_12 fl_X12_124 dX12_back_29 s_224 (by decide) rfl (by decide) ?_
          refine sx_iload_n dX12_back_32 rfl ?_
          refine sx_aload_n dX12_back_33 rfl ?_
          refine sx_getS (k := 101) (t := 288) cl_12 fl_X12_212 dX12_back_34 s_224 (by decide) rfl (by decide) ?_
          refine sx_bipush dX12_back_37 ⟨by decide, by decide, by decide⟩ ?_
          refine sx_iload_n dX12_back_39 rfl ?_
          refine sx_imul dX12_back_40 ?_
          refine sy_topw (by omega) ?_
          refine sx_iload_n dX12_back_41 rfl ?_
          refine sx_iadd dX12_back_42 ?_
          refine sy_topw (by omega) ?_
          refine sx_iaload dX12_back_43 s_288 (by decide) (by decide) ⟨by omega, by omega⟩ ?_
          refine sy_iastore dX12_back_44 s_261 (by decide) (by decide) ⟨by omega, by omega⟩ (fun h16 eh16 => ?_)
          have Ih16 := Ih7.up eh16 (by exact omc_all_eq (Or.inr (Or.inr rfl)) (Or.inl rfl) (by omega) (Ih7.1 288 _)) rfl
          have th16_224_71 := eh16.2 (224) 71 (fun q => absurd q.1 (by decide))
          have th16_224_73 := eh16.2 (224) 73 (fun q => absurd q.1 (by decide))
          have th16_224_74 := eh16.2 (224) 74 (fun q => absurd q.1 (by decide))
          have th16_224_85 := eh16.2 (224) 85 (fun q => absurd q.1 (by decide))
          have th16_224_100 := eh16.2 (224) 100 (fun q => absurd q.1 (by decide))
          refine sx_iinc dX12_back_45 (by decide) rfl ?_
          rw [sw_w_id (by omega) (by omega)]
          refine sx_goto (tgt := 22) dX12_back_48 (by decide) ?_
          exact ihh7 _ _ ⟨Ih16, by omega, by omega, by omega⟩ (by exact sy_dec (by omega) (by omega))
      · exact ⟨hI, by omega, by omega, by omega⟩
    ·
      refine sx_iconst dX12_back_18 ⟨by decide, by decide⟩ ?_
      refine sx_ireturn dX12_back_19 ?_
      exact ⟨_, rfl, ⟨hI, ⟨mC_mK hI rfl rfl hJ hB.1, by have := hB.2; omega, by have := hB.2; omega, by have := hB.2; omega⟩, hI.2 224 100 rfl, by first | omega | (exfalso; omega)⟩⟩
set_option maxRecDepth 20000 in
set_option maxHeartbeats 4000000 in
theorem f_X12_image {G : sw_G} (d : Nat) {h0 : sw_H} (hJ : mI h0) (y1 : Int) (hB : mB h0)  (hF : FM h0) : sw_E G NH SH (d + 1) mX12_image 0 [some (sw_r 224), some (sw_i y1), none] [] h0 (sw_Qi (fun z h' => mK (prW [] [288, 289]) h0 h' ∧ (mB h') ∧ (h' 224 100 = h0 224 100) ∧ (z = if 0 ≤ y1 ∧ y1 ≤ 2 then 0 else -1))) := by
  obtain ⟨b0, r0, t2, k4, k5, a3, a4, l3, s9, t0, z7, z8, z9, z10, z12, z61, z89⟩ := hF
  have fw : h0 227 (h0 224 36).toNat = 0 := z7 _
  have hI : mK (prW [] [288, 289]) h0 h0 := mK.refl hJ
  have q30 : h0 261 30 = 0 := z61 30
  have q31 : h0 261 31 = 0 := z61 31
  have q32 : h0 261 32 = 0 := z61 32
  have q33 : h0 261 33 = 0 := z61 33
  refine sx_iload_n dX12_image_0 rfl ?_
  refine sx_iconst dX12_image_1 ⟨by decide, by decide⟩ ?_
  refine sx_iconst dX12_image_2 ⟨by decide, by decide⟩ ?_
  refine sx_callSz lk_X12_500 dX12_image_3 (vs := [_, _, _]) rfl rfl (Nat.le_of_ble_eq_true rfl) (Nat.le_of_ble_eq_true rfl) rfl (c_X12_isIn _ hI.1 _ _ _) (fun x2 h1 zx2 ph1 => ?_)
  obtain ⟨rfl, p_x2⟩ := ph1
  refine sx_if_ne (tgt := 11) dX12_image_6 (by decide) (fun c3 => ?_) (fun c3 => ?_)
  ·
    have vx2 : x2 = 1 := by rcases zx2 with q | q; (exact absurd q c3); exact q
    replace p_x2 := p_x2.mp vx2
    clear zx2
    refine sx_iconst dX12_image_11 ⟨by decide, by decide⟩ ?_
    refine sx_istore_n dX12_image_12 (by decide) ?_
    refine sx_loop1 (fun (h : sw_H) (k : Int) => (mK (prW [] [288, 289]) h0 h) ∧ (0 ≤ k)) (fun (h : sw_H) (k : Int) => (34 - k).toNat) (fun (h : sw_H) (k : Int) => sw_E G NH SH (d + 1) mX12_image 13 [some (sw_r 224), some (sw_i y1), some (sw_i k)] [] h (sw_Qi (fun z h' => mK (prW [] [288, 289]) h0 h' ∧ (mB h') ∧ (h' 224 100 = h0 224 100) ∧ (z = if 0 ≤ y1 ∧ y1 ≤ 2 then 0 else -1)))) ?_ _ _ ?_
    · rintro h4 k_5 ⟨Ih4, j6⟩ ihh4
      try dsimp only at ihh4
      refine sx_iload_n dX12_image_13 rfl ?_
      refine sx_bipush dX12_image_14 ⟨by decide, by decide, by decide⟩ ?_
      refine sx_icmp_ge (tgt := 42) dX12_image_16 (by decide) (fun c7 => ?_) (fun c7 => ?_)
      ·
        refine sx_aload_n dX12_image_42 rfl ?_
        refine sx_getS (k := 102) (t := 289) cl_12 fl_X12_215 dX12_image_43 s_224 (by decide) rfl (by decide) ?_
        refine sx_iload_n dX12_image_46 rfl ?_
        refine sx_iconst dX12_image_47 ⟨by decide, by decide⟩ ?_
        refine sy_zastore dX12_image_48 s_289 (by decide) (by decide) ⟨by omega, by omega⟩ (by exact Or.inr rfl) (fun h8 eh8 => ?_)
        have Ih8 := Ih4.up eh8 trivial rfl
        have th8_224_71 := eh8.2 (224) 71 (fun q => absurd q.1 (by decide))
        have th8_224_73 := eh8.2 (224) 73 (fun q => absurd q.1 (by decide))
        have th8_224_74 := eh8.2 (224) 74 (fun q => absurd q.1 (by decide))
        have th8_224_85 := eh8.2 (224) 85 (fun q => absurd q.1 (by decide))
        have th8_224_100 := eh8.2 (224) 100 (fun q => absurd q.1 (by decide))
        refine sx_aload_n dX12_image_49 rfl ?_
        refine sx_getS (k := 61) (t := 261) cl_12 fl_X12_124 dX12_image_50 s_224 (by decide) rfl (by decide) ?_
        refine sx_bipush dX12_image_53 ⟨by decide, by decide, by decide⟩ ?_
        refine sy_iaK (k := 30) (F := fun z => (0 : Int) ≤ z ∧ z ≤ 24) rfl dX12_image_55 s_261 (by decide) (by decide) ⟨by decide, by decide⟩ (Ih8.1 261 30) (fun r9 => ?_)
        refine sx_ireturn dX12_image_56 ?_
        exact ⟨_, rfl, ⟨Ih8, mB_mK Ih8 rfl rfl hJ hB, Ih8.2 224 100 rfl, by first | (rw [if_neg (by omega)]; done) | (rw [if_pos (by omega)]; exact (Ih8.2 261 30 rfl).trans q30)⟩⟩
      ·
        refine sx_aload_n dX12_image_19 rfl ?_
        refine sx_getS (k := 101) (t := 288) cl_12 fl_X12_212 dX12_image_20 s_224 (by decide) rfl (by decide) ?_
        refine sx_bipush dX12_image_23 ⟨by decide, by decide, by decide⟩ ?_
        refine sx_iload_n dX12_image_25 rfl ?_
        refine sx_imul dX12_image_26 ?_
        refine sy_topw (by omega) ?_
        refine sx_iload_n dX12_image_27 rfl ?_
        refine sx_iadd dX12_image_28 ?_
        refine sy_topw (by omega) ?_
        refine sx_aload_n dX12_image_29 rfl ?_
        refine sx_getS (k := 61) (t := 261) cl_12 fl_X12_124 dX12_image_30 s_224 (by decide) rfl (by decide) ?_
        refine sx_iload_n dX12_image_33 rfl ?_
        refine sx_iaload dX12_image_34 s_261 (by decide) (by decide) ⟨by omega, by omega⟩ ?_
        refine sy_iastore dX12_image_35 s_288 (by decide) (by decide) ⟨by omega, by omega⟩ (fun h10 eh10 => ?_)
        have Ih10 := Ih4.up eh10 (by exact omc_all_eq (Or.inl rfl) (Or.inr (Or.inr rfl)) (by omega) (Ih4.1 261 _)) rfl
        have th10_224_71 := eh10.2 (224) 71 (fun q => absurd q.1 (by decide))
        have th10_224_73 := eh10.2 (224) 73 (fun q => absurd q.1 (by decide))
        have th10_224_74 := eh10.2 (224) 74 (fun q => absurd q.1 (by decide))
        have th10_224_85 := eh10.2 (224) 85 (fun q => absurd q.1 (by decide))
        have th10_224_100 := eh10.2 (224) 100 (fun q => absurd q.1 (by decide))
        refine sx_iinc dX12_image_36 (by decide) rfl ?_
        rw [sw_w_id (by omega) (by omega)]
        refine sx_goto (tgt := 13) dX12_image_39 (by decide) ?_
        exact ihh4 _ _ ⟨Ih10, by omega⟩ (by exact sy_dec (by omega) (by omega))
    · exact ⟨hI, by omega⟩
  ·
    replace p_x2 := mt p_x2.mpr (show ¬ (x2 = 1) by rw [c3]; decide)
    clear zx2
    refine sx_iconst dX12_image_9 ⟨by decide, by decide⟩ ?_
    refine sx_ireturn dX12_image_10 ?_
    exact ⟨_, rfl, ⟨hI, mB_mK hI rfl rfl hJ hB, hI.2 224 100 rfl, by first | (rw [if_neg (by omega)]; done) | (rw [if_pos (by omega)]; exact (hI.2 261 30 rfl).trans q30)⟩⟩
set_option maxRecDepth 20000 in
set_option maxHeartbeats 4000000 in
theorem f_X12_run {G : sw_G} (d : Nat) {h0 : sw_H} (hJ : mI h0) (y1 : Int) (hB : mB h0)  (hF : FM h0) : sw_E G NH SH (d + 3) mX12_run 0 [some (sw_r 224), some (sw_i y1)] [] h0 (sw_Qi (fun z h' => mK (prW [67, 68, 73, 74] [261, 262, 263, 267]) h0 h' ∧ (mB h') ∧ (h' 224 100 = h0 224 100) ∧ (z = -1))) := by
  obtain ⟨b0, r0, t2, k4, k5, a3, a4, l3, s9, t0, z7, z8, z9, z10, z12, z61, z89⟩ := hF
  have fw : h0 227 (h0 224 36).toNat = 0 := z7 _
  have hI : mK (prW [67, 68, 73, 74] [261, 262, 263, 267]) h0 h0 := mK.refl hJ
  have q30 : h0 261 30 = 0 := z61 30
  have q31 : h0 261 31 = 0 := z61 31
  have q32 : h0 261 32 = 0 := z61 32
  have q33 : h0 261 33 = 0 := z61 33
  have tkb : y1 = 8 ∨ 1 ≤ tk y1 := by unfold tk; omega
  have hB2 := hB.2
  have r30 : (0 : Int) ≤ h0 261 30 ∧ h0 261 30 ≤ 24 := hI.1 261 30
  have r31 : (0 : Int) ≤ h0 261 31 ∧ h0 261 31 ≤ 6 := hI.1 261 31
  refine sx_iload_n dX12_run_0 rfl ?_
  refine sx_iconst dX12_run_1 ⟨by decide, by decide⟩ ?_
  refine sx_bipush dX12_run_2 ⟨by decide, by decide, by decide⟩ ?_
  refine sx_callSz lk_X12_500 dX12_run_4 (vs := [_, _, _]) rfl rfl (Nat.le_of_ble_eq_true rfl) (Nat.le_of_ble_eq_true rfl) rfl (c_X12_isIn _ hI.1 _ _ _) (fun x2 h1 zx2 ph1 => ?_)
  obtain ⟨rfl, p_x2⟩ := ph1
  refine sx_if_eq (tgt := 46) dX12_run_7 (by decide) (fun c3 => ?_) (fun c3 => ?_)
  ·
    replace p_x2 := mt p_x2.mpr (show ¬ (x2 = 1) by rw [c3]; decide)
    clear zx2
    refine sx_iconst dX12_run_46 ⟨by decide, by decide⟩ ?_
    refine sx_ireturn dX12_run_47 ?_
    exact ⟨_, rfl, ⟨hI, ⟨mC_mK hI rfl rfl hJ hB.1, by have := hB.2; omega, by have := hB.2; omega, by have := hB.2; omega⟩, hI.2 224 100 rfl, by first | omega | (exfalso; omega)⟩⟩
  ·
    have vx2 : x2 = 1 := by rcases zx2 with q | q; (exact absurd q c3); exact q
    replace p_x2 := p_x2.mp vx2
    clear zx2
    refine sx_aload_n dX12_run_10 rfl ?_
    refine sx_getS (k := 61) (t := 261) cl_12 fl_X12_124 dX12_run_11 s_224 (by decide) rfl (by decide) ?_
    refine sx_bipush dX12_run_14 ⟨by decide, by decide, by decide⟩ ?_
    refine sy_iaK (k := 30) (F := fun z => (0 : Int) ≤ z ∧ z ≤ 24) rfl dX12_run_16 s_261 (by decide) (by decide) ⟨by decide, by decide⟩ (hI.1 261 30) (fun r4 => ?_)
    refine sx_iload_n dX12_run_17 rfl ?_
    refine sx_callSi lk_X12_443 dX12_run_18 (vs := [_]) rfl rfl (Nat.le_of_ble_eq_true rfl) (Nat.le_of_ble_eq_true rfl) rfl (c_X12_taken _ hI.1 _) (fun x6 h5 ph5 => ?_)
    obtain ⟨rfl, p_x6⟩ := ph5
    have tk1 : 0 ≤ tk y1 ∧ tk y1 ≤ 3 := by unfold tk; omega
    refine sx_icmp_lt (tgt := 46) dX12_run_21 (by decide) (fun c7 => ?_) (fun c7 => ?_)
    ·
      refine sx_iconst dX12_run_46 ⟨by decide, by decide⟩ ?_
      refine sx_ireturn dX12_run_47 ?_
      exact ⟨_, rfl, ⟨hI, ⟨mC_mK hI rfl rfl hJ hB.1, by have := hB.2; omega, by have := hB.2; omega, by have := hB.2; omega⟩, hI.2 224 100 rfl, by first | omega | (exfalso; omega)⟩⟩
    ·
      refine sx_aload_n dX12_run_24 rfl ?_
      refine sx_getS (k := 61) (t := 261) cl_12 fl_X12_124 dX12_run_25 s_224 (by decide) rfl (by decide) ?_
      refine sx_bipush dX12_run_28 ⟨by decide, by decide, by decide⟩ ?_
      refine sy_iaK (k := 30) (F := fun z => (0 : Int) ≤ z ∧ z ≤ 24) rfl dX12_run_30 s_261 (by decide) (by decide) ⟨by decide, by decide⟩ (hI.1 261 30) (fun r8 => ?_)
      refine sx_iload_n dX12_run_31 rfl ?_
      refine sx_callSi lk_X12_443 dX12_run_32 (vs := [_]) rfl rfl (Nat.le_of_ble_eq_true rfl) (Nat.le_of_ble_eq_true rfl) rfl (c_X12_taken _ hI.1 _) (fun x10 h9 ph9 => ?_)
      obtain ⟨rfl, p_x10⟩ := ph9
      have tk2 : 0 ≤ tk y1 ∧ tk y1 ≤ 3 := by unfold tk; omega
      refine sx_isub dX12_run_35 ?_
      refine sy_topw (by omega) ?_
      refine sx_iload_n dX12_run_36 rfl ?_
      refine sx_callSi lk_X12_446 dX12_run_37 (vs := [_]) rfl rfl (Nat.le_of_ble_eq_true rfl) (Nat.le_of_ble_eq_true rfl) rfl (c_X12_laidBy _ hI.1 _) (fun x12 h11 ph11 => ?_)
      obtain ⟨rfl, p_x12⟩ := ph11
      have ld2 : 0 ≤ ld y1 ∧ ld y1 ≤ 3 := by unfold ld; omega
      refine sx_iadd dX12_run_40 ?_
      refine sy_topw (by omega) ?_
      refine sx_bipush dX12_run_41 ⟨by decide, by decide, by decide⟩ ?_
      refine sx_icmp_le (tgt := 48) dX12_run_43 (by decide) (fun c13 => ?_) (fun c13 => ?_)
      ·
        refine sx_iload_n dX12_run_48 rfl ?_
        refine sx_bipush dX12_run_49 ⟨by decide, by decide, by decide⟩ ?_
        refine sx_icmp_ne (tgt := 66) dX12_run_51 (by decide) (fun c14 => ?_) (fun c14 => ?_)
        ·
          refine sx_iload_n dX12_run_66 rfl ?_
          refine sx_bipush dX12_run_67 ⟨by decide, by decide, by decide⟩ ?_
          refine sx_icmp_ne (tgt := 84) dX12_run_69 (by decide) (fun c15 => ?_) (fun c15 => ?_)
          ·
            refine sx_aload_n dX12_run_84 rfl ?_
            refine sx_callVv lk_X12_561 cl_12 s_224 (by decide) dX12_run_85 (vs := []) rfl rfl (Nat.le_of_ble_eq_true rfl) (Nat.le_of_ble_eq_true rfl) rfl (c_X12_keepAct _ hI.1) (fun h16 ph16 => ?_)
            obtain ⟨Kh16, s_h16⟩ := ph16
            have Ih16 := hI.tr Kh16 (prW_sub rfl rfl)
            have th16_224_67 := Kh16.2 224 67 rfl
            have th16_224_68 := Kh16.2 224 68 rfl
            have th16_224_71 := Kh16.2 224 71 rfl
            have th16_224_85 := Kh16.2 224 85 rfl
            have th16_224_100 := Kh16.2 224 100 rfl
            have th16_261_30 := Kh16.2 261 30 rfl
            have th16_261_31 := Kh16.2 261 31 rfl
            refine sx_aload_n dX12_run_88 rfl ?_
            refine sx_callVv lk_X12_564 cl_12 s_224 (by decide) dX12_run_89 (vs := []) rfl rfl (Nat.le_of_ble_eq_true rfl) (Nat.le_of_ble_eq_true rfl) rfl (c_X12_fromEarnest _ Ih16.1) (fun h18 ph18 => ?_)
            obtain ⟨Kh18, c_h18⟩ := ph18
            have Ih18 := Ih16.tr Kh18 (prW_sub rfl rfl)
            have th18_224_71 := Kh18.2 224 71 rfl
            have th18_224_73 := Kh18.2 224 73 rfl
            have th18_224_74 := Kh18.2 224 74 rfl
            have th18_224_85 := Kh18.2 224 85 rfl
            have th18_224_100 := Kh18.2 224 100 rfl
            have th18_261_30 := Kh18.2 261 30 rfl
            have th18_261_31 := Kh18.2 261 31 rfl
            refine sx_aload_n dX12_run_92 rfl ?_
            refine sx_iload_n dX12_run_93 rfl ?_
            refine sx_callVv lk_X12_558 cl_12 s_224 (by decide) dX12_run_94 (vs := [_]) rfl rfl (Nat.le_of_ble_eq_true rfl) (Nat.le_of_ble_eq_true rfl) rfl (c_X12_doThing _ Ih18.1 _ (by omega) (by omega) (by omega)) (fun h20 ph20 => ?_)
            obtain ⟨Kh20, c_h20⟩ := ph20
            have Ih20 := Ih18.tr Kh20 (prW_sub rfl rfl)
            have th20_224_71 := Kh20.2 224 71 rfl
            have th20_224_73 := Kh20.2 224 73 rfl
            have th20_224_74 := Kh20.2 224 74 rfl
            have th20_224_85 := Kh20.2 224 85 rfl
            have th20_224_100 := Kh20.2 224 100 rfl
            have th20_261_30 := Kh20.2 261 30 rfl
            have th20_261_31 := Kh20.2 261 31 rfl
            have pu2 : pu y1 = if y1 = 7 then 1 else if y1 = 8 then -1 else 0 := rfl
            refine sx_aload_n dX12_run_97 rfl ?_
            refine sx_callVi lk_X12_567 cl_12 s_224 (by decide) dX12_run_98 (vs := []) rfl rfl (Nat.le_of_ble_eq_true rfl) (Nat.le_of_ble_eq_true rfl) rfl (c_X12_toEarnest _ Ih20.1 (by omega)) (fun x23 h22 ph22 => ?_)
            have Kh22 := ph22
            have Ih22 := Ih20.tr Kh22 (prW_sub rfl rfl)
            have th22_224_67 := Kh22.2 224 67 rfl
            have th22_224_68 := Kh22.2 224 68 rfl
            have th22_224_71 := Kh22.2 224 71 rfl
            have th22_224_73 := Kh22.2 224 73 rfl
            have th22_224_74 := Kh22.2 224 74 rfl
            have th22_224_85 := Kh22.2 224 85 rfl
            have th22_224_100 := Kh22.2 224 100 rfl
            refine sx_ireturn dX12_run_101 ?_
            exact ⟨_, rfl, ⟨Ih22, ⟨mC_mK Ih22 rfl rfl hJ hB.1, by have := hB.2; omega, by have := hB.2; omega, by have := hB.2; omega⟩, Ih22.2 224 100 rfl, by first | omega | (exfalso; omega)⟩⟩
          ·
            refine sx_aload_n dX12_run_72 rfl ?_
            refine sx_getS (k := 61) (t := 261) cl_12 fl_X12_124 dX12_run_73 s_224 (by decide) rfl (by decide) ?_
            refine sx_bipush dX12_run_76 ⟨by decide, by decide, by decide⟩ ?_
            refine sy_iaK (k := 31) (F := fun z => (0 : Int) ≤ z ∧ z ≤ 6) rfl dX12_run_78 s_261 (by decide) (by decide) ⟨by decide, by decide⟩ (hI.1 261 31) (fun r24 => ?_)
            refine sx_if_ne (tgt := 84) dX12_run_79 (by decide) (fun c25 => ?_) (fun c25 => ?_)
            ·
              refine sx_aload_n dX12_run_84 rfl ?_
              refine sx_callVv lk_X12_561 cl_12 s_224 (by decide) dX12_run_85 (vs := []) rfl rfl (Nat.le_of_ble_eq_true rfl) (Nat.le_of_ble_eq_true rfl) rfl (c_X12_keepAct _ hI.1) (fun h26 ph26 => ?_)
              obtain ⟨Kh26, s_h26⟩ := ph26
              have Ih26 := hI.tr Kh26 (prW_sub rfl rfl)
              have th26_224_67 := Kh26.2 224 67 rfl
              have th26_224_68 := Kh26.2 224 68 rfl
              have th26_224_71 := Kh26.2 224 71 rfl
              have th26_224_85 := Kh26.2 224 85 rfl
              have th26_224_100 := Kh26.2 224 100 rfl
              have th26_261_30 := Kh26.2 261 30 rfl
              have th26_261_31 := Kh26.2 261 31 rfl
              refine sx_aload_n dX12_run_88 rfl ?_
              refine sx_callVv lk_X12_564 cl_12 s_224 (by decide) dX12_run_89 (vs := []) rfl rfl (Nat.le_of_ble_eq_true rfl) (Nat.le_of_ble_eq_true rfl) rfl (c_X12_fromEarnest _ Ih26.1) (fun h28 ph28 => ?_)
              obtain ⟨Kh28, c_h28⟩ := ph28
              have Ih28 := Ih26.tr Kh28 (prW_sub rfl rfl)
              have th28_224_71 := Kh28.2 224 71 rfl
              have th28_224_73 := Kh28.2 224 73 rfl
              have th28_224_74 := Kh28.2 224 74 rfl
              have th28_224_85 := Kh28.2 224 85 rfl
              have th28_224_100 := Kh28.2 224 100 rfl
              have th28_261_30 := Kh28.2 261 30 rfl
              have th28_261_31 := Kh28.2 261 31 rfl
              refine sx_aload_n dX12_run_92 rfl ?_
              refine sx_iload_n dX12_run_93 rfl ?_
              refine sx_callVv lk_X12_558 cl_12 s_224 (by decide) dX12_run_94 (vs := [_]) rfl rfl (Nat.le_of_ble_eq_true rfl) (Nat.le_of_ble_eq_true rfl) rfl (c_X12_doThing _ Ih28.1 _ (by omega) (by omega) (by omega)) (fun h30 ph30 => ?_)
              obtain ⟨Kh30, c_h30⟩ := ph30
              have Ih30 := Ih28.tr Kh30 (prW_sub rfl rfl)
              have th30_224_71 := Kh30.2 224 71 rfl
              have th30_224_73 := Kh30.2 224 73 rfl
              have th30_224_74 := Kh30.2 224 74 rfl
              have th30_224_85 := Kh30.2 224 85 rfl
              have th30_224_100 := Kh30.2 224 100 rfl
              have th30_261_30 := Kh30.2 261 30 rfl
              have th30_261_31 := Kh30.2 261 31 rfl
              have pu2 : pu y1 = if y1 = 7 then 1 else if y1 = 8 then -1 else 0 := rfl
              refine sx_aload_n dX12_run_97 rfl ?_
              refine sx_callVi lk_X12_567 cl_12 s_224 (by decide) dX12_run_98 (vs := []) rfl rfl (Nat.le_of_ble_eq_true rfl) (Nat.le_of_ble_eq_true rfl) rfl (c_X12_toEarnest _ Ih30.1 (by omega)) (fun x33 h32 ph32 => ?_)
              have Kh32 := ph32
              have Ih32 := Ih30.tr Kh32 (prW_sub rfl rfl)
              have th32_224_67 := Kh32.2 224 67 rfl
              have th32_224_68 := Kh32.2 224 68 rfl
              have th32_224_71 := Kh32.2 224 71 rfl
              have th32_224_73 := Kh32.2 224 73 rfl
              have th32_224_74 := Kh32.2 224 74 rfl
              have th32_224_85 := Kh32.2 224 85 rfl
              have th32_224_100 := Kh32.2 224 100 rfl
              refine sx_ireturn dX12_run_101 ?_
              exact ⟨_, rfl, ⟨Ih32, ⟨mC_mK Ih32 rfl rfl hJ hB.1, by have := hB.2; omega, by have := hB.2; omega, by have := hB.2; omega⟩, Ih32.2 224 100 rfl, by first | omega | (exfalso; omega)⟩⟩
            ·
              refine sx_iconst dX12_run_82 ⟨by decide, by decide⟩ ?_
              refine sx_ireturn dX12_run_83 ?_
              exact ⟨_, rfl, ⟨hI, ⟨mC_mK hI rfl rfl hJ hB.1, by have := hB.2; omega, by have := hB.2; omega, by have := hB.2; omega⟩, hI.2 224 100 rfl, by first | omega | (exfalso; omega)⟩⟩
        ·
          refine sx_aload_n dX12_run_54 rfl ?_
          refine sx_getS (k := 61) (t := 261) cl_12 fl_X12_124 dX12_run_55 s_224 (by decide) rfl (by decide) ?_
          refine sx_bipush dX12_run_58 ⟨by decide, by decide, by decide⟩ ?_
          refine sy_iaK (k := 31) (F := fun z => (0 : Int) ≤ z ∧ z ≤ 6) rfl dX12_run_60 s_261 (by decide) (by decide) ⟨by decide, by decide⟩ (hI.1 261 31) (fun r34 => ?_)
          refine sx_bipush dX12_run_61 ⟨by decide, by decide, by decide⟩ ?_
          refine sx_icmp_eq (tgt := 82) dX12_run_63 (by decide) (fun c35 => ?_) (fun c35 => ?_)
          ·
            refine sx_iconst dX12_run_82 ⟨by decide, by decide⟩ ?_
            refine sx_ireturn dX12_run_83 ?_
            exact ⟨_, rfl, ⟨hI, ⟨mC_mK hI rfl rfl hJ hB.1, by have := hB.2; omega, by have := hB.2; omega, by have := hB.2; omega⟩, hI.2 224 100 rfl, by first | omega | (exfalso; omega)⟩⟩
          ·
            refine sx_iload_n dX12_run_66 rfl ?_
            refine sx_bipush dX12_run_67 ⟨by decide, by decide, by decide⟩ ?_
            refine sx_icmp_ne (tgt := 84) dX12_run_69 (by decide) (fun c36 => ?_) (fun c36 => ?_)
            ·
              refine sx_aload_n dX12_run_84 rfl ?_
              refine sx_callVv lk_X12_561 cl_12 s_224 (by decide) dX12_run_85 (vs := []) rfl rfl (Nat.le_of_ble_eq_true rfl) (Nat.le_of_ble_eq_true rfl) rfl (c_X12_keepAct _ hI.1) (fun h37 ph37 => ?_)
              obtain ⟨Kh37, s_h37⟩ := ph37
              have Ih37 := hI.tr Kh37 (prW_sub rfl rfl)
              have th37_224_67 := Kh37.2 224 67 rfl
              have th37_224_68 := Kh37.2 224 68 rfl
              have th37_224_71 := Kh37.2 224 71 rfl
              have th37_224_85 := Kh37.2 224 85 rfl
              have th37_224_100 := Kh37.2 224 100 rfl
              have th37_261_30 := Kh37.2 261 30 rfl
              have th37_261_31 := Kh37.2 261 31 rfl
              refine sx_aload_n dX12_run_88 rfl ?_
              refine sx_callVv lk_X12_564 cl_12 s_224 (by decide) dX12_run_89 (vs := []) rfl rfl (Nat.le_of_ble_eq_true rfl) (Nat.le_of_ble_eq_true rfl) rfl (c_X12_fromEarnest _ Ih37.1) (fun h39 ph39 => ?_)
              obtain ⟨Kh39, c_h39⟩ := ph39
              have Ih39 := Ih37.tr Kh39 (prW_sub rfl rfl)
              have th39_224_71 := Kh39.2 224 71 rfl
              have th39_224_73 := Kh39.2 224 73 rfl
              have th39_224_74 := Kh39.2 224 74 rfl
              have th39_224_85 := Kh39.2 224 85 rfl
              have th39_224_100 := Kh39.2 224 100 rfl
              have th39_261_30 := Kh39.2 261 30 rfl
              have th39_261_31 := Kh39.2 261 31 rfl
              refine sx_aload_n dX12_run_92 rfl ?_
              refine sx_iload_n dX12_run_93 rfl ?_
              refine sx_callVv lk_X12_558 cl_12 s_224 (by decide) dX12_run_94 (vs := [_]) rfl rfl (Nat.le_of_ble_eq_true rfl) (Nat.le_of_ble_eq_true rfl) rfl (c_X12_doThing _ Ih39.1 _ (by omega) (by omega) (by omega)) (fun h41 ph41 => ?_)
              obtain ⟨Kh41, c_h41⟩ := ph41
              have Ih41 := Ih39.tr Kh41 (prW_sub rfl rfl)
              have th41_224_71 := Kh41.2 224 71 rfl
              have th41_224_73 := Kh41.2 224 73 rfl
              have th41_224_74 := Kh41.2 224 74 rfl
              have th41_224_85 := Kh41.2 224 85 rfl
              have th41_224_100 := Kh41.2 224 100 rfl
              have th41_261_30 := Kh41.2 261 30 rfl
              have th41_261_31 := Kh41.2 261 31 rfl
              have pu2 : pu y1 = if y1 = 7 then 1 else if y1 = 8 then -1 else 0 := rfl
              refine sx_aload_n dX12_run_97 rfl ?_
              refine sx_callVi lk_X12_567 cl_12 s_224 (by decide) dX12_run_98 (vs := []) rfl rfl (Nat.le_of_ble_eq_true rfl) (Nat.le_of_ble_eq_true rfl) rfl (c_X12_toEarnest _ Ih41.1 (by omega)) (fun x44 h43 ph43 => ?_)
              have Kh43 := ph43
              have Ih43 := Ih41.tr Kh43 (prW_sub rfl rfl)
              have th43_224_67 := Kh43.2 224 67 rfl
              have th43_224_68 := Kh43.2 224 68 rfl
              have th43_224_71 := Kh43.2 224 71 rfl
              have th43_224_73 := Kh43.2 224 73 rfl
              have th43_224_74 := Kh43.2 224 74 rfl
              have th43_224_85 := Kh43.2 224 85 rfl
              have th43_224_100 := Kh43.2 224 100 rfl
              refine sx_ireturn dX12_run_101 ?_
              exact ⟨_, rfl, ⟨Ih43, ⟨mC_mK Ih43 rfl rfl hJ hB.1, by have := hB.2; omega, by have := hB.2; omega, by have := hB.2; omega⟩, Ih43.2 224 100 rfl, by first | omega | (exfalso; omega)⟩⟩
            ·
              refine sx_aload_n dX12_run_72 rfl ?_
              refine sx_getS (k := 61) (t := 261) cl_12 fl_X12_124 dX12_run_73 s_224 (by decide) rfl (by decide) ?_
              refine sx_bipush dX12_run_76 ⟨by decide, by decide, by decide⟩ ?_
              refine sy_iaK (k := 31) (F := fun z => (0 : Int) ≤ z ∧ z ≤ 6) rfl dX12_run_78 s_261 (by decide) (by decide) ⟨by decide, by decide⟩ (hI.1 261 31) (fun r45 => ?_)
              refine sx_if_ne (tgt := 84) dX12_run_79 (by decide) (fun c46 => ?_) (fun c46 => ?_)
              ·
                refine sx_aload_n dX12_run_84 rfl ?_
                refine sx_callVv lk_X12_561 cl_12 s_224 (by decide) dX12_run_85 (vs := []) rfl rfl (Nat.le_of_ble_eq_true rfl) (Nat.le_of_ble_eq_true rfl) rfl (c_X12_keepAct _ hI.1) (fun h47 ph47 => ?_)
                obtain ⟨Kh47, s_h47⟩ := ph47
                have Ih47 := hI.tr Kh47 (prW_sub rfl rfl)
                have th47_224_67 := Kh47.2 224 67 rfl
                have th47_224_68 := Kh47.2 224 68 rfl
                have th47_224_71 := Kh47.2 224 71 rfl
                have th47_224_85 := Kh47.2 224 85 rfl
                have th47_224_100 := Kh47.2 224 100 rfl
                have th47_261_30 := Kh47.2 261 30 rfl
                have th47_261_31 := Kh47.2 261 31 rfl
                refine sx_aload_n dX12_run_88 rfl ?_
                refine sx_callVv lk_X12_564 cl_12 s_224 (by decide) dX12_run_89 (vs := []) rfl rfl (Nat.le_of_ble_eq_true rfl) (Nat.le_of_ble_eq_true rfl) rfl (c_X12_fromEarnest _ Ih47.1) (fun h49 ph49 => ?_)
                obtain ⟨Kh49, c_h49⟩ := ph49
                have Ih49 := Ih47.tr Kh49 (prW_sub rfl rfl)
                have th49_224_71 := Kh49.2 224 71 rfl
                have th49_224_73 := Kh49.2 224 73 rfl
                have th49_224_74 := Kh49.2 224 74 rfl
                have th49_224_85 := Kh49.2 224 85 rfl
                have th49_224_100 := Kh49.2 224 100 rfl
                have th49_261_30 := Kh49.2 261 30 rfl
                have th49_261_31 := Kh49.2 261 31 rfl
                refine sx_aload_n dX12_run_92 rfl ?_
                refine sx_iload_n dX12_run_93 rfl ?_
                refine sx_callVv lk_X12_558 cl_12 s_224 (by decide) dX12_run_94 (vs := [_]) rfl rfl (Nat.le_of_ble_eq_true rfl) (Nat.le_of_ble_eq_true rfl) rfl (c_X12_doThing _ Ih49.1 _ (by omega) (by omega) (by omega)) (fun h51 ph51 => ?_)
                obtain ⟨Kh51, c_h51⟩ := ph51
                have Ih51 := Ih49.tr Kh51 (prW_sub rfl rfl)
                have th51_224_71 := Kh51.2 224 71 rfl
                have th51_224_73 := Kh51.2 224 73 rfl
                have th51_224_74 := Kh51.2 224 74 rfl
                have th51_224_85 := Kh51.2 224 85 rfl
                have th51_224_100 := Kh51.2 224 100 rfl
                have th51_261_30 := Kh51.2 261 30 rfl
                have th51_261_31 := Kh51.2 261 31 rfl
                have pu2 : pu y1 = if y1 = 7 then 1 else if y1 = 8 then -1 else 0 := rfl
                refine sx_aload_n dX12_run_97 rfl ?_
                refine sx_callVi lk_X12_567 cl_12 s_224 (by decide) dX12_run_98 (vs := []) rfl rfl (Nat.le_of_ble_eq_true rfl) (Nat.le_of_ble_eq_true rfl) rfl (c_X12_toEarnest _ Ih51.1 (by omega)) (fun x54 h53 ph53 => ?_)
                have Kh53 := ph53
                have Ih53 := Ih51.tr Kh53 (prW_sub rfl rfl)
                have th53_224_67 := Kh53.2 224 67 rfl
                have th53_224_68 := Kh53.2 224 68 rfl
                have th53_224_71 := Kh53.2 224 71 rfl
                have th53_224_73 := Kh53.2 224 73 rfl
                have th53_224_74 := Kh53.2 224 74 rfl
                have th53_224_85 := Kh53.2 224 85 rfl
                have th53_224_100 := Kh53.2 224 100 rfl
                refine sx_ireturn dX12_run_101 ?_
                exact ⟨_, rfl, ⟨Ih53, ⟨mC_mK Ih53 rfl rfl hJ hB.1, by have := hB.2; omega, by have := hB.2; omega, by have := hB.2; omega⟩, Ih53.2 224 100 rfl, by first | omega | (exfalso; omega)⟩⟩
              ·
                refine sx_iconst dX12_run_82 ⟨by decide, by decide⟩ ?_
                refine sx_ireturn dX12_run_83 ?_
                exact ⟨_, rfl, ⟨hI, ⟨mC_mK hI rfl rfl hJ hB.1, by have := hB.2; omega, by have := hB.2; omega, by have := hB.2; omega⟩, hI.2 224 100 rfl, by first | omega | (exfalso; omega)⟩⟩
      ·
        refine sx_iconst dX12_run_46 ⟨by decide, by decide⟩ ?_
        refine sx_ireturn dX12_run_47 ?_
        exact ⟨_, rfl, ⟨hI, ⟨mC_mK hI rfl rfl hJ hB.1, by have := hB.2; omega, by have := hB.2; omega, by have := hB.2; omega⟩, hI.2 224 100 rfl, by first | omega | (exfalso; omega)⟩⟩
set_option maxRecDepth 20000 in
set_option maxHeartbeats 4000000 in
theorem f_X12_toEarnest {G : sw_G} (d : Nat) {h0 : sw_H} (hJ : mI h0) (hc : 0 ≤ h0 224 67 ∧ h0 224 67 ≤ 24 ∧ 0 ≤ h0 224 68 ∧ h0 224 68 ≤ 6)  : sw_E G NH SH (d) mX12_toEarnest 0 [some (sw_r 224), none] [] h0 (sw_Qi (fun z h' => mK (prW [] [261]) h0 h' ∧ (z = h0 224 67))) := by
  have hI : mK (prW [] [261]) h0 h0 := mK.refl hJ
  refine sx_aload_n dX12_toEarnest_0 rfl ?_
  refine sx_getS (k := 61) (t := 261) cl_12 fl_X12_124 dX12_toEarnest_1 s_224 (by decide) rfl (by decide) ?_
  refine sx_bipush dX12_toEarnest_4 ⟨by decide, by decide, by decide⟩ ?_
  refine sx_aload_n dX12_toEarnest_6 rfl ?_
  refine sx_getI (k := 67) cl_12 fl_X12_522 dX12_toEarnest_7 s_224 (by decide) rfl (by decide) ?_
  refine sy_iastore dX12_toEarnest_10 s_261 (by decide) (by decide) ⟨by omega, by omega⟩ (fun h1 eh1 => ?_)
  have Ih1 := hI.up eh1 (show (0 : Int) ≤ _ ∧ _ ≤ (24 : Int) from ⟨by omega, by omega⟩) rfl
  have th1_224_67 := eh1.2 (224) 67 (by omega)
  have th1_224_68 := eh1.2 (224) 68 (by omega)
  refine sx_aload_n dX12_toEarnest_11 rfl ?_
  refine sx_getS (k := 61) (t := 261) cl_12 fl_X12_124 dX12_toEarnest_12 s_224 (by decide) rfl (by decide) ?_
  refine sx_bipush dX12_toEarnest_15 ⟨by decide, by decide, by decide⟩ ?_
  refine sx_aload_n dX12_toEarnest_17 rfl ?_
  refine sx_getI (k := 68) cl_12 fl_X12_528 dX12_toEarnest_18 s_224 (by decide) rfl (by decide) ?_
  refine sy_iastore dX12_toEarnest_21 s_261 (by decide) (by decide) ⟨by omega, by omega⟩ (fun h2 eh2 => ?_)
  have Ih2 := Ih1.up eh2 (show (0 : Int) ≤ _ ∧ _ ≤ (6 : Int) from ⟨by omega, by omega⟩) rfl
  have th2_224_67 := eh2.2 (224) 67 (by omega)
  have th2_224_68 := eh2.2 (224) 68 (by omega)
  refine sx_iconst dX12_toEarnest_22 ⟨by decide, by decide⟩ ?_
  refine sx_istore_n dX12_toEarnest_23 (by decide) ?_
  refine sx_loop1 (fun (h : sw_H) (k : Int) => (mK (prW [] [261]) h0 h) ∧ (0 ≤ k) ∧ (h 224 67 = h0 224 67) ∧ (h 224 68 = h0 224 68)) (fun (h : sw_H) (k : Int) => (24 - k).toNat) (fun (h : sw_H) (k : Int) => sw_E G NH SH (d) mX12_toEarnest 24 [some (sw_r 224), some (sw_i k)] [] h (sw_Qi (fun z h' => mK (prW [] [261]) h0 h' ∧ (z = h0 224 67)))) ?_ _ _ ?_
  · rintro h3 k_4 ⟨Ih3, j5, j6, j7⟩ ihh3
    try dsimp only at ihh3
    refine sx_iload_n dX12_toEarnest_24 rfl ?_
    refine sx_bipush dX12_toEarnest_25 ⟨by decide, by decide, by decide⟩ ?_
    refine sx_icmp_ge (tgt := 62) dX12_toEarnest_27 (by decide) (fun c8 => ?_) (fun c8 => ?_)
    ·
      refine sx_iconst dX12_toEarnest_62 ⟨by decide, by decide⟩ ?_
      refine sx_istore_n dX12_toEarnest_63 (by decide) ?_
      refine sx_loop1 (fun (h : sw_H) (k : Int) => (mK (prW [] [261]) h0 h) ∧ (0 ≤ k) ∧ (h 224 67 = h0 224 67) ∧ (h 224 68 = h0 224 68)) (fun (h : sw_H) (k : Int) => (6 - k).toNat) (fun (h : sw_H) (k : Int) => sw_E G NH SH (d) mX12_toEarnest 64 [some (sw_r 224), some (sw_i k)] [] h (sw_Qi (fun z h' => mK (prW [] [261]) h0 h' ∧ (z = h0 224 67)))) ?_ _ _ ?_
      · rintro h9 k_10 ⟨Ih9, j11, j12, j13⟩ ihh9
        try dsimp only at ihh9
        refine sx_iload_n dX12_toEarnest_64 rfl ?_
        refine sx_bipush dX12_toEarnest_65 ⟨by decide, by decide, by decide⟩ ?_
        refine sx_icmp_ge (tgt := 103) dX12_toEarnest_67 (by decide) (fun c14 => ?_) (fun c14 => ?_)
        ·
          refine sx_aload_n dX12_toEarnest_103 rfl ?_
          refine sx_getI (k := 67) cl_12 fl_X12_522 dX12_toEarnest_104 s_224 (by decide) rfl (by decide) ?_
          refine sx_ireturn dX12_toEarnest_107 ?_
          exact ⟨_, rfl, ⟨Ih9, Ih9.2 224 67 rfl⟩⟩
        ·
          refine sx_aload_n dX12_toEarnest_70 rfl ?_
          refine sx_getS (k := 61) (t := 261) cl_12 fl_X12_124 dX12_toEarnest_71 s_224 (by decide) rfl (by decide) ?_
          refine sx_bipush dX12_toEarnest_74 ⟨by decide, by decide, by decide⟩ ?_
          refine sx_iload_n dX12_toEarnest_76 rfl ?_
          refine sx_iadd dX12_toEarnest_77 ?_
          refine sy_topw (by omega) ?_
          refine sx_iload_n dX12_toEarnest_78 rfl ?_
          refine sx_aload_n dX12_toEarnest_79 rfl ?_
          refine sx_getI (k := 68) cl_12 fl_X12_528 dX12_toEarnest_80 s_224 (by decide) rfl (by decide) ?_
          refine sx_icmp_ge (tgt := 95) dX12_toEarnest_83 (by decide) (fun c15 => ?_) (fun c15 => ?_)
          ·
            refine sx_iconst dX12_toEarnest_95 ⟨by decide, by decide⟩ ?_
            refine sy_iastore dX12_toEarnest_96 s_261 (by decide) (by decide) ⟨by omega, by omega⟩ (fun h16 eh16 => ?_)
            have Ih16 := Ih9.up eh16 (by exact omc_all_lt (Or.inl rfl) (by omega) (by omega)) rfl
            have th16_224_67 := eh16.2 (224) 67 (by omega)
            have th16_224_68 := eh16.2 (224) 68 (by omega)
            refine sx_iinc dX12_toEarnest_97 (by decide) rfl ?_
            rw [sw_w_id (by omega) (by omega)]
            refine sx_goto (tgt := 64) dX12_toEarnest_100 (by decide) ?_
            exact ihh9 _ _ ⟨Ih16, by omega, by omega, by omega⟩ (by exact sy_dec (by omega) (by omega))
          ·
            refine sx_aload_n dX12_toEarnest_86 rfl ?_
            refine sx_getS (k := 63) (t := 263) cl_12 fl_X12_130 dX12_toEarnest_87 s_224 (by decide) rfl (by decide) ?_
            refine sx_iload_n dX12_toEarnest_90 rfl ?_
            refine sx_iaload dX12_toEarnest_91 s_263 (by decide) (by decide) ⟨by omega, by omega⟩ ?_
            refine sx_goto (tgt := 96) dX12_toEarnest_92 (by decide) ?_
            refine sy_iastore dX12_toEarnest_96 s_261 (by decide) (by decide) ⟨by omega, by omega⟩ (fun h17 eh17 => ?_)
            have Ih17 := Ih9.up eh17 (by exact omc_all_lt (Or.inl rfl) (by omega) (by omega)) rfl
            have th17_224_67 := eh17.2 (224) 67 (by omega)
            have th17_224_68 := eh17.2 (224) 68 (by omega)
            refine sx_iinc dX12_toEarnest_97 (by decide) rfl ?_
            rw [sw_w_id (by omega) (by omega)]
            refine sx_goto (tgt := 64) dX12_toEarnest_100 (by decide) ?_
            exact ihh9 _ _ ⟨Ih17, by omega, by omega, by omega⟩ (by exact sy_dec (by omega) (by omega))
      · exact ⟨Ih3, by omega, by omega, by omega⟩
    ·
      refine sx_aload_n dX12_toEarnest_30 rfl ?_
      refine sx_getS (k := 61) (t := 261) cl_12 fl_X12_124 dX12_toEarnest_31 s_224 (by decide) rfl (by decide) ?_
      refine sx_iconst dX12_toEarnest_34 ⟨by decide, by decide⟩ ?_
      refine sx_iload_n dX12_toEarnest_35 rfl ?_
      refine sx_iadd dX12_toEarnest_36 ?_
      refine sy_topw (by omega) ?_
      refine sx_iload_n dX12_toEarnest_37 rfl ?_
      refine sx_aload_n dX12_toEarnest_38 rfl ?_
      refine sx_getI (k := 67) cl_12 fl_X12_522 dX12_toEarnest_39 s_224 (by decide) rfl (by decide) ?_
      refine sx_icmp_ge (tgt := 54) dX12_toEarnest_42 (by decide) (fun c18 => ?_) (fun c18 => ?_)
      ·
        refine sx_iconst dX12_toEarnest_54 ⟨by decide, by decide⟩ ?_
        refine sy_iastore dX12_toEarnest_55 s_261 (by decide) (by decide) ⟨by omega, by omega⟩ (fun h19 eh19 => ?_)
        have Ih19 := Ih3.up eh19 (by exact omc_all_lt (Or.inl rfl) (by omega) (by omega)) rfl
        have th19_224_67 := eh19.2 (224) 67 (by omega)
        have th19_224_68 := eh19.2 (224) 68 (by omega)
        refine sx_iinc dX12_toEarnest_56 (by decide) rfl ?_
        rw [sw_w_id (by omega) (by omega)]
        refine sx_goto (tgt := 24) dX12_toEarnest_59 (by decide) ?_
        exact ihh3 _ _ ⟨Ih19, by omega, by omega, by omega⟩ (by exact sy_dec (by omega) (by omega))
      ·
        refine sx_aload_n dX12_toEarnest_45 rfl ?_
        refine sx_getS (k := 62) (t := 262) cl_12 fl_X12_127 dX12_toEarnest_46 s_224 (by decide) rfl (by decide) ?_
        refine sx_iload_n dX12_toEarnest_49 rfl ?_
        refine sx_iaload dX12_toEarnest_50 s_262 (by decide) (by decide) ⟨by omega, by omega⟩ ?_
        refine sx_goto (tgt := 55) dX12_toEarnest_51 (by decide) ?_
        refine sy_iastore dX12_toEarnest_55 s_261 (by decide) (by decide) ⟨by omega, by omega⟩ (fun h20 eh20 => ?_)
        have Ih20 := Ih3.up eh20 (by exact omc_all_lt (Or.inl rfl) (by omega) (by omega)) rfl
        have th20_224_67 := eh20.2 (224) 67 (by omega)
        have th20_224_68 := eh20.2 (224) 68 (by omega)
        refine sx_iinc dX12_toEarnest_56 (by decide) rfl ?_
        rw [sw_w_id (by omega) (by omega)]
        refine sx_goto (tgt := 24) dX12_toEarnest_59 (by decide) ?_
        exact ihh3 _ _ ⟨Ih20, by omega, by omega, by omega⟩ (by exact sy_dec (by omega) (by omega))
  · exact ⟨Ih2, by omega, by omega, by omega⟩
set_option maxRecDepth 20000 in
set_option maxHeartbeats 4000000 in
theorem f_X12_lay {G : sw_G} (d : Nat) {h0 : sw_H} (hJ : mI h0) (y1 : Int) (hB : mB h0)  (hF : FM h0) : sw_E G NH SH (d + 1) mX12_lay 0 [some (sw_r 224), some (sw_i y1)] [] h0 (sw_Qi (fun z h' => mK (prW [67, 68, 73, 74] [261, 262, 263, 267]) h0 h' ∧ (mB h') ∧ (h' 224 100 = h0 224 100) ∧ (z = if 0 ≤ y1 ∧ y1 ≤ 9999 then 1 else -1))) := by
  obtain ⟨b0, r0, t2, k4, k5, a3, a4, l3, s9, t0, z7, z8, z9, z10, z12, z61, z89⟩ := hF
  have fw : h0 227 (h0 224 36).toNat = 0 := z7 _
  have hI : mK (prW [67, 68, 73, 74] [261, 262, 263, 267]) h0 h0 := mK.refl hJ
  have q30 : h0 261 30 = 0 := z61 30
  have q31 : h0 261 31 = 0 := z61 31
  have q32 : h0 261 32 = 0 := z61 32
  have q33 : h0 261 33 = 0 := z61 33
  have hB2 := hB.2
  have r30 : (0 : Int) ≤ h0 261 30 ∧ h0 261 30 ≤ 24 := hI.1 261 30
  have r31 : (0 : Int) ≤ h0 261 31 ∧ h0 261 31 ≤ 6 := hI.1 261 31
  refine sx_iload_n dX12_lay_0 rfl ?_
  refine sx_iconst dX12_lay_1 ⟨by decide, by decide⟩ ?_
  refine sx_sipush dX12_lay_2 ⟨by decide, by decide, by decide⟩ ?_
  refine sx_callSz lk_X12_500 dX12_lay_5 (vs := [_, _, _]) rfl rfl (Nat.le_of_ble_eq_true rfl) (Nat.le_of_ble_eq_true rfl) rfl (c_X12_isIn _ hI.1 _ _ _) (fun x2 h1 zx2 ph1 => ?_)
  obtain ⟨rfl, p_x2⟩ := ph1
  refine sx_if_eq (tgt := 23) dX12_lay_8 (by decide) (fun c3 => ?_) (fun c3 => ?_)
  ·
    replace p_x2 := mt p_x2.mpr (show ¬ (x2 = 1) by rw [c3]; decide)
    clear zx2
    refine sx_iconst dX12_lay_23 ⟨by decide, by decide⟩ ?_
    refine sx_ireturn dX12_lay_24 ?_
    exact ⟨_, rfl, ⟨hI, ⟨mC_mK hI rfl rfl hJ hB.1, by have := hB.2; omega, by have := hB.2; omega, by have := hB.2; omega⟩, hI.2 224 100 rfl, by split <;> omega⟩⟩
  ·
    have vx2 : x2 = 1 := by rcases zx2 with q | q; (exact absurd q c3); exact q
    replace p_x2 := p_x2.mp vx2
    clear zx2
    refine sx_aload_n dX12_lay_11 rfl ?_
    refine sx_getS (k := 61) (t := 261) cl_12 fl_X12_124 dX12_lay_12 s_224 (by decide) rfl (by decide) ?_
    refine sx_bipush dX12_lay_15 ⟨by decide, by decide, by decide⟩ ?_
    refine sy_iaK (k := 30) (F := fun z => (0 : Int) ≤ z ∧ z ≤ 24) rfl dX12_lay_17 s_261 (by decide) (by decide) ⟨by decide, by decide⟩ (hI.1 261 30) (fun r4 => ?_)
    refine sx_bipush dX12_lay_18 ⟨by decide, by decide, by decide⟩ ?_
    refine sx_icmp_ne (tgt := 25) dX12_lay_20 (by decide) (fun c5 => ?_) (fun c5 => ?_)
    ·
      refine sx_aload_n dX12_lay_25 rfl ?_
      refine sx_callVv lk_X12_561 cl_12 s_224 (by decide) dX12_lay_26 (vs := []) rfl rfl (Nat.le_of_ble_eq_true rfl) (Nat.le_of_ble_eq_true rfl) rfl (c_X12_keepAct _ hI.1) (fun h6 ph6 => ?_)
      obtain ⟨Kh6, s_h6⟩ := ph6
      have Ih6 := hI.tr Kh6 (prW_sub rfl rfl)
      have th6_224_67 := Kh6.2 224 67 rfl
      have th6_224_68 := Kh6.2 224 68 rfl
      have th6_224_71 := Kh6.2 224 71 rfl
      have th6_224_85 := Kh6.2 224 85 rfl
      have th6_224_100 := Kh6.2 224 100 rfl
      have th6_261_30 := Kh6.2 261 30 rfl
      have th6_261_31 := Kh6.2 261 31 rfl
      refine sx_aload_n dX12_lay_29 rfl ?_
      refine sx_callVv lk_X12_564 cl_12 s_224 (by decide) dX12_lay_30 (vs := []) rfl rfl (Nat.le_of_ble_eq_true rfl) (Nat.le_of_ble_eq_true rfl) rfl (c_X12_fromEarnest _ Ih6.1) (fun h8 ph8 => ?_)
      obtain ⟨Kh8, c_h8⟩ := ph8
      have Ih8 := Ih6.tr Kh8 (prW_sub rfl rfl)
      have th8_224_71 := Kh8.2 224 71 rfl
      have th8_224_73 := Kh8.2 224 73 rfl
      have th8_224_74 := Kh8.2 224 74 rfl
      have th8_224_85 := Kh8.2 224 85 rfl
      have th8_224_100 := Kh8.2 224 100 rfl
      have th8_261_30 := Kh8.2 261 30 rfl
      have th8_261_31 := Kh8.2 261 31 rfl
      refine sx_aload_n dX12_lay_33 rfl ?_
      refine sx_iload_n dX12_lay_34 rfl ?_
      refine sx_callVv lk_X12_534 cl_12 s_224 (by decide) dX12_lay_35 (vs := [_]) rfl rfl (Nat.le_of_ble_eq_true rfl) (Nat.le_of_ble_eq_true rfl) rfl (c_X12_push _ Ih8.1 _ (by first | omega | (rw [Int.tmod_eq_emod_of_nonneg (by omega)]; omega) | (rw [Int.tdiv_eq_ediv_of_nonneg (by omega)]; omega))) (fun h10 ph10 => ?_)
      obtain ⟨Kh10, c_h10, v_h10⟩ := ph10
      have Ih10 := Ih8.tr Kh10 (prW_sub rfl rfl)
      have th10_224_68 := Kh10.2 224 68 rfl
      have th10_224_71 := Kh10.2 224 71 rfl
      have th10_224_73 := Kh10.2 224 73 rfl
      have th10_224_74 := Kh10.2 224 74 rfl
      have th10_224_85 := Kh10.2 224 85 rfl
      have th10_224_100 := Kh10.2 224 100 rfl
      have th10_261_30 := Kh10.2 261 30 rfl
      have th10_261_31 := Kh10.2 261 31 rfl
      refine sx_aload_n dX12_lay_38 rfl ?_
      refine sx_callVi lk_X12_567 cl_12 s_224 (by decide) dX12_lay_39 (vs := []) rfl rfl (Nat.le_of_ble_eq_true rfl) (Nat.le_of_ble_eq_true rfl) rfl (f_X12_toEarnest _ Ih10.1 (by omega)) (fun x13 h12 ph12 => ?_)
      obtain ⟨Kh12, x_te⟩ := ph12
      have Ih12 := Ih10.tr Kh12 (prW_sub rfl rfl)
      have th12_224_67 := Kh12.2 224 67 rfl
      have th12_224_68 := Kh12.2 224 68 rfl
      have th12_224_71 := Kh12.2 224 71 rfl
      have th12_224_73 := Kh12.2 224 73 rfl
      have th12_224_74 := Kh12.2 224 74 rfl
      have th12_224_85 := Kh12.2 224 85 rfl
      have th12_224_100 := Kh12.2 224 100 rfl
      refine sx_ireturn dX12_lay_42 ?_
      exact ⟨_, rfl, ⟨Ih12, ⟨mC_mK Ih12 rfl rfl hJ hB.1, by have := hB.2; omega, by have := hB.2; omega, by have := hB.2; omega⟩, Ih12.2 224 100 rfl, by split <;> omega⟩⟩
    ·
      refine sx_iconst dX12_lay_23 ⟨by decide, by decide⟩ ?_
      refine sx_ireturn dX12_lay_24 ?_
      exact ⟨_, rfl, ⟨hI, ⟨mC_mK hI rfl rfl hJ hB.1, by have := hB.2; omega, by have := hB.2; omega, by have := hB.2; omega⟩, hI.2 224 100 rfl, by split <;> omega⟩⟩

set_option maxRecDepth 20000 in
set_option maxHeartbeats 4000000 in
theorem c_X12_lots {G : sw_G} (d : Nat) {h0 : sw_H} (hJ : mI h0)  : sw_E G NH SH (d) mX12_lots 0 [some (sw_r 224)] [] h0 (sw_Qi (fun z h' => h0 = h' ∧ (z = h0 227 (h0 224 36).toNat ∧ 0 ≤ z ∧ z ≤ 6))) := by
  have hI : mK (prW [] []) h0 h0 := mK.refl hJ
  refine sx_aload_n dX12_lots_0 rfl ?_
  refine sx_getS (k := 11) (t := 227) cl_12 fl_X12_20 dX12_lots_1 s_224 (by decide) rfl (by decide) ?_
  refine sx_aload_n dX12_lots_4 rfl ?_
  refine sx_getI (k := 36) cl_12 fl_X12_349 dX12_lots_5 s_224 (by decide) rfl (by decide) ?_
  have r1 : (0 : Int) ≤ h0 224 36 ∧ h0 224 36 ≤ 1 := hI.1 224 36
  refine sy_iaF (F := fun z => (0 : Int) ≤ z ∧ z ≤ 6) dX12_lots_8 s_227 (by decide) (by decide) ⟨by first | omega | (rw [Int.tmod_eq_emod_of_nonneg (by omega)]; omega) | (rw [Int.tdiv_eq_ediv_of_nonneg (by omega)]; omega), by first | omega | (rw [Int.tmod_eq_emod_of_nonneg (by omega)]; omega) | (rw [Int.tdiv_eq_ediv_of_nonneg (by omega)]; omega)⟩ (hI.1 227 _) (fun r2 => ?_)
  refine sx_ireturn dX12_lots_9 ?_
  exact ⟨_, rfl, ⟨rfl, ⟨rfl, by omega⟩⟩⟩
set_option maxRecDepth 20000 in
set_option maxHeartbeats 4000000 in
theorem c_X12_isOne {G : sw_G} (d : Nat) {h0 : sw_H} (hJ : mI h0) (y1 : Int)  : sw_E G NH SH (d + 1) mX12_isOne 0 [some (sw_r 224), some (sw_i y1)] [] h0 (sw_Qz (fun z h' => h0 = h' ∧ ((z = 1 ↔ 0 ≤ y1 ∧ y1 < h0 227 (h0 224 36).toNat)))) := by
  have hI : mK (prW [] []) h0 h0 := mK.refl hJ
  refine sx_iload_n dX12_isOne_0 rfl ?_
  refine sx_iconst dX12_isOne_1 ⟨by decide, by decide⟩ ?_
  refine sx_aload_n dX12_isOne_2 rfl ?_
  refine sx_callVi lk_X12_497 cl_12 s_224 (by decide) dX12_isOne_3 (vs := []) rfl rfl (Nat.le_of_ble_eq_true rfl) (Nat.le_of_ble_eq_true rfl) rfl (c_X12_lots _ hI.1) (fun x2 h1 ph1 => ?_)
  obtain ⟨rfl, p_x2⟩ := ph1
  refine sx_iconst dX12_isOne_6 ⟨by decide, by decide⟩ ?_
  refine sx_isub dX12_isOne_7 ?_
  refine sy_topw (by first | omega | (rw [Int.tmod_eq_emod_of_nonneg (by omega)]; omega) | (rw [Int.tdiv_eq_ediv_of_nonneg (by omega)]; omega)) ?_
  refine sx_callSz lk_X12_500 dX12_isOne_8 (vs := [_, _, _]) rfl rfl (Nat.le_of_ble_eq_true rfl) (Nat.le_of_ble_eq_true rfl) rfl (c_X12_isIn _ hI.1 _ _ _) (fun x4 h3 zx4 ph3 => ?_)
  obtain ⟨rfl, p_x4⟩ := ph3
  refine sx_ireturn dX12_isOne_11 ?_
  exact ⟨_, rfl, by omega, ⟨rfl, by omega⟩⟩
set_option maxRecDepth 20000 in
set_option maxHeartbeats 4000000 in
theorem c_X12_manyIn {G : sw_G} (d : Nat) {h0 : sw_H} (hJ : mI h0) (y1 : Int) (hw : 0 ≤ y1 ∧ y1 < 6)  : sw_E G NH SH (d) mX12_manyIn 0 [some (sw_r 224), some (sw_i y1)] [] h0 (sw_Qi (fun z h' => h0 = h' ∧ (z = h0 234 (6 * h0 224 36 + y1).toNat ∧ 0 ≤ z ∧ z ≤ 20))) := by
  have hI : mK (prW [] []) h0 h0 := mK.refl hJ
  refine sx_aload_n dX12_manyIn_0 rfl ?_
  refine sx_getS (k := 18) (t := 234) cl_12 fl_X12_42 dX12_manyIn_1 s_224 (by decide) rfl (by decide) ?_
  refine sx_bipush dX12_manyIn_4 ⟨by decide, by decide, by decide⟩ ?_
  refine sx_aload_n dX12_manyIn_6 rfl ?_
  refine sx_getI (k := 36) cl_12 fl_X12_349 dX12_manyIn_7 s_224 (by decide) rfl (by decide) ?_
  have r1 : (0 : Int) ≤ h0 224 36 ∧ h0 224 36 ≤ 1 := hI.1 224 36
  refine sx_imul dX12_manyIn_10 ?_
  refine sy_topw (by first | omega | (rw [Int.tmod_eq_emod_of_nonneg (by omega)]; omega) | (rw [Int.tdiv_eq_ediv_of_nonneg (by omega)]; omega)) ?_
  refine sx_iload_n dX12_manyIn_11 rfl ?_
  refine sx_iadd dX12_manyIn_12 ?_
  refine sy_topw (by first | omega | (rw [Int.tmod_eq_emod_of_nonneg (by omega)]; omega) | (rw [Int.tdiv_eq_ediv_of_nonneg (by omega)]; omega)) ?_
  refine sy_iaF (F := fun z => (0 : Int) ≤ z ∧ z ≤ 20) dX12_manyIn_13 s_234 (by decide) (by decide) ⟨by first | omega | (rw [Int.tmod_eq_emod_of_nonneg (by omega)]; omega) | (rw [Int.tdiv_eq_ediv_of_nonneg (by omega)]; omega), by first | omega | (rw [Int.tmod_eq_emod_of_nonneg (by omega)]; omega) | (rw [Int.tdiv_eq_ediv_of_nonneg (by omega)]; omega)⟩ (hI.1 234 _) (fun r2 => ?_)
  refine sx_ireturn dX12_manyIn_14 ?_
  exact ⟨_, rfl, ⟨rfl, ⟨rfl, by omega⟩⟩⟩
set_option maxRecDepth 20000 in
set_option maxHeartbeats 4000000 in
theorem c_X12_itemOf {G : sw_G} (d : Nat) {h0 : sw_H} (hJ : mI h0) (y1 y2 : Int) (hw : 0 ≤ y1 ∧ y1 < 6) (hi : -100 ≤ y2 ∧ y2 ≤ 100)  : sw_E G NH SH (d) mX12_itemOf 0 [some (sw_r 224), some (sw_i y1), some (sw_i y2)] [] h0 (sw_Qi (fun z h' => h0 = h' ∧ (z = 60 * h0 224 36 + h0 233 (6 * h0 224 36 + y1).toNat + y2 ∧ 0 ≤ h0 233 (6 * h0 224 36 + y1).toNat ∧ h0 233 (6 * h0 224 36 + y1).toNat ≤ 60))) := by
  have hI : mK (prW [] []) h0 h0 := mK.refl hJ
  refine sx_bipush dX12_itemOf_0 ⟨by decide, by decide, by decide⟩ ?_
  refine sx_aload_n dX12_itemOf_2 rfl ?_
  refine sx_getI (k := 36) cl_12 fl_X12_349 dX12_itemOf_3 s_224 (by decide) rfl (by decide) ?_
  have r1 : (0 : Int) ≤ h0 224 36 ∧ h0 224 36 ≤ 1 := hI.1 224 36
  refine sx_imul dX12_itemOf_6 ?_
  refine sy_topw (by first | omega | (rw [Int.tmod_eq_emod_of_nonneg (by omega)]; omega) | (rw [Int.tdiv_eq_ediv_of_nonneg (by omega)]; omega)) ?_
  refine sx_aload_n dX12_itemOf_7 rfl ?_
  refine sx_getS (k := 17) (t := 233) cl_12 fl_X12_39 dX12_itemOf_8 s_224 (by decide) rfl (by decide) ?_
  refine sx_bipush dX12_itemOf_11 ⟨by decide, by decide, by decide⟩ ?_
  refine sx_aload_n dX12_itemOf_13 rfl ?_
  refine sx_getI (k := 36) cl_12 fl_X12_349 dX12_itemOf_14 s_224 (by decide) rfl (by decide) ?_
  have r2 : (0 : Int) ≤ h0 224 36 ∧ h0 224 36 ≤ 1 := hI.1 224 36
  refine sx_imul dX12_itemOf_17 ?_
  refine sy_topw (by first | omega | (rw [Int.tmod_eq_emod_of_nonneg (by omega)]; omega) | (rw [Int.tdiv_eq_ediv_of_nonneg (by omega)]; omega)) ?_
  refine sx_iload_n dX12_itemOf_18 rfl ?_
  refine sx_iadd dX12_itemOf_19 ?_
  refine sy_topw (by first | omega | (rw [Int.tmod_eq_emod_of_nonneg (by omega)]; omega) | (rw [Int.tdiv_eq_ediv_of_nonneg (by omega)]; omega)) ?_
  refine sy_iaF (F := fun z => (0 : Int) ≤ z ∧ z ≤ 60) dX12_itemOf_20 s_233 (by decide) (by decide) ⟨by first | omega | (rw [Int.tmod_eq_emod_of_nonneg (by omega)]; omega) | (rw [Int.tdiv_eq_ediv_of_nonneg (by omega)]; omega), by first | omega | (rw [Int.tmod_eq_emod_of_nonneg (by omega)]; omega) | (rw [Int.tdiv_eq_ediv_of_nonneg (by omega)]; omega)⟩ (hI.1 233 _) (fun r3 => ?_)
  refine sx_iadd dX12_itemOf_21 ?_
  refine sy_topw (by first | omega | (rw [Int.tmod_eq_emod_of_nonneg (by omega)]; omega) | (rw [Int.tdiv_eq_ediv_of_nonneg (by omega)]; omega)) ?_
  refine sx_iload_n dX12_itemOf_22 rfl ?_
  refine sx_iadd dX12_itemOf_23 ?_
  refine sy_topw (by first | omega | (rw [Int.tmod_eq_emod_of_nonneg (by omega)]; omega) | (rw [Int.tdiv_eq_ediv_of_nonneg (by omega)]; omega)) ?_
  refine sx_ireturn dX12_itemOf_24 ?_
  exact ⟨_, rfl, ⟨rfl, ⟨rfl, by omega⟩⟩⟩
set_option maxRecDepth 20000 in
set_option maxHeartbeats 4000000 in
theorem c_X12_needsOf {G : sw_G} (d : Nat) {h0 : sw_H} (hJ : mI h0) (y1 : Int) (hw : 0 ≤ y1 ∧ y1 < 6)  : sw_E G NH SH (d) mX12_needsOf 0 [some (sw_r 224), some (sw_i y1)] [] h0 (sw_Qi (fun z h' => h0 = h' ∧ (z = h0 235 (6 * h0 224 36 + y1).toNat))) := by
  have hI : mK (prW [] []) h0 h0 := mK.refl hJ
  refine sx_aload_n dX12_needsOf_0 rfl ?_
  refine sx_getS (k := 19) (t := 235) cl_12 fl_X12_45 dX12_needsOf_1 s_224 (by decide) rfl (by decide) ?_
  refine sx_bipush dX12_needsOf_4 ⟨by decide, by decide, by decide⟩ ?_
  refine sx_aload_n dX12_needsOf_6 rfl ?_
  refine sx_getI (k := 36) cl_12 fl_X12_349 dX12_needsOf_7 s_224 (by decide) rfl (by decide) ?_
  have r1 : (0 : Int) ≤ h0 224 36 ∧ h0 224 36 ≤ 1 := hI.1 224 36
  refine sx_imul dX12_needsOf_10 ?_
  refine sy_topw (by first | omega | (rw [Int.tmod_eq_emod_of_nonneg (by omega)]; omega) | (rw [Int.tdiv_eq_ediv_of_nonneg (by omega)]; omega)) ?_
  refine sx_iload_n dX12_needsOf_11 rfl ?_
  refine sx_iadd dX12_needsOf_12 ?_
  refine sy_topw (by first | omega | (rw [Int.tmod_eq_emod_of_nonneg (by omega)]; omega) | (rw [Int.tdiv_eq_ediv_of_nonneg (by omega)]; omega)) ?_
  refine sx_iaload dX12_needsOf_13 s_235 (by decide) (by decide) ⟨by first | omega | (rw [Int.tmod_eq_emod_of_nonneg (by omega)]; omega) | (rw [Int.tdiv_eq_ediv_of_nonneg (by omega)]; omega), by first | omega | (rw [Int.tmod_eq_emod_of_nonneg (by omega)]; omega) | (rw [Int.tdiv_eq_ediv_of_nonneg (by omega)]; omega)⟩ ?_
  refine sx_ireturn dX12_needsOf_14 ?_
  exact ⟨_, rfl, ⟨rfl, rfl⟩⟩
set_option maxRecDepth 20000 in
set_option maxHeartbeats 4000000 in
theorem c_X12_leavesOf {G : sw_G} (d : Nat) {h0 : sw_H} (hJ : mI h0) (y1 : Int) (hw : 0 ≤ y1 ∧ y1 < 6)  : sw_E G NH SH (d + 1) mX12_leavesOf 0 [some (sw_r 224), some (sw_i y1)] [] h0 (sw_Qi (fun z h' => h0 = h' ∧ (z = sw_w (h0 235 (6 * h0 224 36 + y1).toNat + h0 236 (6 * h0 224 36 + y1).toNat)))) := by
  have hI : mK (prW [] []) h0 h0 := mK.refl hJ
  refine sx_aload_n dX12_leavesOf_0 rfl ?_
  refine sx_iload_n dX12_leavesOf_1 rfl ?_
  refine sx_callVi lk_X12_504 cl_12 s_224 (by decide) dX12_leavesOf_2 (vs := [_]) rfl rfl (Nat.le_of_ble_eq_true rfl) (Nat.le_of_ble_eq_true rfl) rfl (c_X12_needsOf _ hI.1 _ (by first | omega | (rw [Int.tmod_eq_emod_of_nonneg (by omega)]; omega) | (rw [Int.tdiv_eq_ediv_of_nonneg (by omega)]; omega))) (fun x2 h1 ph1 => ?_)
  obtain ⟨rfl, p_x2⟩ := ph1
  subst p_x2
  refine sx_aload_n dX12_leavesOf_5 rfl ?_
  refine sx_getS (k := 20) (t := 236) cl_12 fl_X12_48 dX12_leavesOf_6 s_224 (by decide) rfl (by decide) ?_
  refine sx_bipush dX12_leavesOf_9 ⟨by decide, by decide, by decide⟩ ?_
  refine sx_aload_n dX12_leavesOf_11 rfl ?_
  refine sx_getI (k := 36) cl_12 fl_X12_349 dX12_leavesOf_12 s_224 (by decide) rfl (by decide) ?_
  have r3 : (0 : Int) ≤ h0 224 36 ∧ h0 224 36 ≤ 1 := hI.1 224 36
  refine sx_imul dX12_leavesOf_15 ?_
  refine sy_topw (by first | omega | (rw [Int.tmod_eq_emod_of_nonneg (by omega)]; omega) | (rw [Int.tdiv_eq_ediv_of_nonneg (by omega)]; omega)) ?_
  refine sx_iload_n dX12_leavesOf_16 rfl ?_
  refine sx_iadd dX12_leavesOf_17 ?_
  refine sy_topw (by first | omega | (rw [Int.tmod_eq_emod_of_nonneg (by omega)]; omega) | (rw [Int.tdiv_eq_ediv_of_nonneg (by omega)]; omega)) ?_
  refine sx_iaload dX12_leavesOf_18 s_236 (by decide) (by decide) ⟨by first | omega | (rw [Int.tmod_eq_emod_of_nonneg (by omega)]; omega) | (rw [Int.tdiv_eq_ediv_of_nonneg (by omega)]; omega), by first | omega | (rw [Int.tmod_eq_emod_of_nonneg (by omega)]; omega) | (rw [Int.tdiv_eq_ediv_of_nonneg (by omega)]; omega)⟩ ?_
  refine sx_iadd dX12_leavesOf_19 ?_
  refine sx_ireturn dX12_leavesOf_20 ?_
  exact ⟨_, rfl, ⟨rfl, rfl⟩⟩
set_option maxRecDepth 20000 in
set_option maxHeartbeats 4000000 in
theorem c_X12_isInlined {G : sw_G} (d : Nat) {h0 : sw_H} (hJ : mI h0) (y1 : Int)  : sw_E G NH SH (d + 1) mX12_isInlined 0 [some (sw_r 224), some (sw_i y1)] [] h0 (sw_Qz (fun z h' => h0 = h')) := by
  have hI : mK (prW [] []) h0 h0 := mK.refl hJ
  refine sx_aload_n dX12_isInlined_0 rfl ?_
  refine sx_getS (k := 61) (t := 261) cl_12 fl_X12_124 dX12_isInlined_1 s_224 (by decide) rfl (by decide) ?_
  refine sx_bipush dX12_isInlined_4 ⟨by decide, by decide, by decide⟩ ?_
  refine sx_iaload dX12_isInlined_6 s_261 (by decide) (by decide) ⟨by first | omega | (rw [Int.tmod_eq_emod_of_nonneg (by omega)]; omega) | (rw [Int.tdiv_eq_ediv_of_nonneg (by omega)]; omega), by first | omega | (rw [Int.tmod_eq_emod_of_nonneg (by omega)]; omega) | (rw [Int.tdiv_eq_ediv_of_nonneg (by omega)]; omega)⟩ ?_
  refine sx_iload_n dX12_isInlined_7 rfl ?_
  refine sx_callSz lk_X12_358 dX12_isInlined_8 (vs := [_, _]) rfl rfl (Nat.le_of_ble_eq_true rfl) (Nat.le_of_ble_eq_true rfl) rfl (c_X12_bit _ hI.1 _ _) (fun x2 h1 zx2 ph1 => ?_)
  subst ph1
  refine sx_ireturn dX12_isInlined_11 ?_
  exact ⟨_, rfl, by omega, rfl⟩
set_option maxRecDepth 20000 in
set_option maxHeartbeats 4000000 in
theorem c_X12_sortOf {G : sw_G} (d : Nat) {h0 : sw_H} (hJ : mI h0) (y1 y2 : Int) (hw : 0 ≤ y1 ∧ y1 < 6) (hi : 0 ≤ y2 ∧ h0 233 (6 * h0 224 36 + y1).toNat + y2 < 60)  : sw_E G NH SH (d + 1) mX12_sortOf 0 [some (sw_r 224), some (sw_i y1), some (sw_i y2)] [] h0 (sw_Qi (fun z h' => h0 = h' ∧ (z = sO h0 y1 y2 ∧ 0 ≤ z ∧ z ≤ 7))) := by
  have hI : mK (prW [] []) h0 h0 := mK.refl hJ
  have ra0 : (0 : Int) ≤ h0 233 (6 * h0 224 36 + y1).toNat ∧ h0 233 (6 * h0 224 36 + y1).toNat ≤ 60 := hI.1 233 _
  have ra1 : (0 : Int) ≤ h0 224 36 ∧ h0 224 36 ≤ 1 := hI.1 224 36
  refine sx_aload_n dX12_sortOf_0 rfl ?_
  refine sx_getI (k := 71) cl_12 fl_X12_142 dX12_sortOf_1 s_224 (by decide) rfl (by decide) ?_
  have r1 : (-1 : Int) ≤ h0 224 71 ∧ h0 224 71 ≤ 14 := hI.1 224 71
  refine sx_if_lt (tgt := 25) dX12_sortOf_4 (by decide) (fun c2 => ?_) (fun c2 => ?_)
  ·
    refine sx_aload_n dX12_sortOf_25 rfl ?_
    refine sx_getS (k := 24) (t := 240) cl_12 fl_X12_60 dX12_sortOf_26 s_224 (by decide) rfl (by decide) ?_
    refine sx_aload_n dX12_sortOf_29 rfl ?_
    refine sx_iload_n dX12_sortOf_30 rfl ?_
    refine sx_iload_n dX12_sortOf_31 rfl ?_
    refine sx_callVi lk_X12_519 cl_12 s_224 (by decide) dX12_sortOf_32 (vs := [_, _]) rfl rfl (Nat.le_of_ble_eq_true rfl) (Nat.le_of_ble_eq_true rfl) rfl (c_X12_itemOf _ hI.1 _ _ (by first | omega | (rw [Int.tmod_eq_emod_of_nonneg (by omega)]; omega) | (rw [Int.tdiv_eq_ediv_of_nonneg (by omega)]; omega)) (by first | omega | (rw [Int.tmod_eq_emod_of_nonneg (by omega)]; omega) | (rw [Int.tdiv_eq_ediv_of_nonneg (by omega)]; omega))) (fun x4 h3 ph3 => ?_)
    obtain ⟨rfl, p_x4⟩ := ph3
    obtain ⟨qx, qx1, qx2⟩ := p_x4
    subst qx
    refine sy_iaF (F := fun z => (0 : Int) ≤ z ∧ z ≤ 7) dX12_sortOf_35 s_240 (by decide) (by decide) ⟨by first | omega | (rw [Int.tmod_eq_emod_of_nonneg (by omega)]; omega) | (rw [Int.tdiv_eq_ediv_of_nonneg (by omega)]; omega), by first | omega | (rw [Int.tmod_eq_emod_of_nonneg (by omega)]; omega) | (rw [Int.tdiv_eq_ediv_of_nonneg (by omega)]; omega)⟩ (hI.1 240 _) (fun r5 => ?_)
    refine sx_ireturn dX12_sortOf_36 ?_
    exact ⟨_, rfl, ⟨rfl, by first | (unfold sO; exact ⟨by rw [if_pos (by omega)], by omega, by omega⟩) | (unfold sO; exact ⟨by rw [if_neg (by omega)], by omega, by omega⟩)⟩⟩
  ·
    refine sx_iload_n dX12_sortOf_7 rfl ?_
    refine sx_if_ne (tgt := 25) dX12_sortOf_8 (by decide) (fun c6 => ?_) (fun c6 => ?_)
    ·
      refine sx_aload_n dX12_sortOf_25 rfl ?_
      refine sx_getS (k := 24) (t := 240) cl_12 fl_X12_60 dX12_sortOf_26 s_224 (by decide) rfl (by decide) ?_
      refine sx_aload_n dX12_sortOf_29 rfl ?_
      refine sx_iload_n dX12_sortOf_30 rfl ?_
      refine sx_iload_n dX12_sortOf_31 rfl ?_
      refine sx_callVi lk_X12_519 cl_12 s_224 (by decide) dX12_sortOf_32 (vs := [_, _]) rfl rfl (Nat.le_of_ble_eq_true rfl) (Nat.le_of_ble_eq_true rfl) rfl (c_X12_itemOf _ hI.1 _ _ (by first | omega | (rw [Int.tmod_eq_emod_of_nonneg (by omega)]; omega) | (rw [Int.tdiv_eq_ediv_of_nonneg (by omega)]; omega)) (by first | omega | (rw [Int.tmod_eq_emod_of_nonneg (by omega)]; omega) | (rw [Int.tdiv_eq_ediv_of_nonneg (by omega)]; omega))) (fun x8 h7 ph7 => ?_)
      obtain ⟨rfl, p_x8⟩ := ph7
      obtain ⟨qx, qx1, qx2⟩ := p_x8
      subst qx
      refine sy_iaF (F := fun z => (0 : Int) ≤ z ∧ z ≤ 7) dX12_sortOf_35 s_240 (by decide) (by decide) ⟨by first | omega | (rw [Int.tmod_eq_emod_of_nonneg (by omega)]; omega) | (rw [Int.tdiv_eq_ediv_of_nonneg (by omega)]; omega), by first | omega | (rw [Int.tmod_eq_emod_of_nonneg (by omega)]; omega) | (rw [Int.tdiv_eq_ediv_of_nonneg (by omega)]; omega)⟩ (hI.1 240 _) (fun r9 => ?_)
      refine sx_ireturn dX12_sortOf_36 ?_
      exact ⟨_, rfl, ⟨rfl, by first | (unfold sO; exact ⟨by rw [if_pos (by omega)], by omega, by omega⟩) | (unfold sO; exact ⟨by rw [if_neg (by omega)], by omega, by omega⟩)⟩⟩
    ·
      refine sx_iload_n dX12_sortOf_11 rfl ?_
      refine sx_aload_n dX12_sortOf_12 rfl ?_
      refine sx_callVi lk_X12_497 cl_12 s_224 (by decide) dX12_sortOf_13 (vs := []) rfl rfl (Nat.le_of_ble_eq_true rfl) (Nat.le_of_ble_eq_true rfl) rfl (c_X12_lots _ hI.1) (fun x11 h10 ph10 => ?_)
      obtain ⟨rfl, p_x11⟩ := ph10
      refine sx_iconst dX12_sortOf_16 ⟨by decide, by decide⟩ ?_
      refine sx_isub dX12_sortOf_17 ?_
      refine sy_topw (by first | omega | (rw [Int.tmod_eq_emod_of_nonneg (by omega)]; omega) | (rw [Int.tdiv_eq_ediv_of_nonneg (by omega)]; omega)) ?_
      refine sx_icmp_ne (tgt := 25) dX12_sortOf_18 (by decide) (fun c12 => ?_) (fun c12 => ?_)
      ·
        refine sx_aload_n dX12_sortOf_25 rfl ?_
        refine sx_getS (k := 24) (t := 240) cl_12 fl_X12_60 dX12_sortOf_26 s_224 (by decide) rfl (by decide) ?_
        refine sx_aload_n dX12_sortOf_29 rfl ?_
        refine sx_iload_n dX12_sortOf_30 rfl ?_
        refine sx_iload_n dX12_sortOf_31 rfl ?_
        refine sx_callVi lk_X12_519 cl_12 s_224 (by decide) dX12_sortOf_32 (vs := [_, _]) rfl rfl (Nat.le_of_ble_eq_true rfl) (Nat.le_of_ble_eq_true rfl) rfl (c_X12_itemOf _ hI.1 _ _ (by first | omega | (rw [Int.tmod_eq_emod_of_nonneg (by omega)]; omega) | (rw [Int.tdiv_eq_ediv_of_nonneg (by omega)]; omega)) (by first | omega | (rw [Int.tmod_eq_emod_of_nonneg (by omega)]; omega) | (rw [Int.tdiv_eq_ediv_of_nonneg (by omega)]; omega))) (fun x14 h13 ph13 => ?_)
        obtain ⟨rfl, p_x14⟩ := ph13
        obtain ⟨qx, qx1, qx2⟩ := p_x14
        subst qx
        refine sy_iaF (F := fun z => (0 : Int) ≤ z ∧ z ≤ 7) dX12_sortOf_35 s_240 (by decide) (by decide) ⟨by first | omega | (rw [Int.tmod_eq_emod_of_nonneg (by omega)]; omega) | (rw [Int.tdiv_eq_ediv_of_nonneg (by omega)]; omega), by first | omega | (rw [Int.tmod_eq_emod_of_nonneg (by omega)]; omega) | (rw [Int.tdiv_eq_ediv_of_nonneg (by omega)]; omega)⟩ (hI.1 240 _) (fun r15 => ?_)
        refine sx_ireturn dX12_sortOf_36 ?_
        exact ⟨_, rfl, ⟨rfl, by first | (unfold sO; exact ⟨by rw [if_pos (by omega)], by omega, by omega⟩) | (unfold sO; exact ⟨by rw [if_neg (by omega)], by omega, by omega⟩)⟩⟩
      ·
        refine sx_iconst dX12_sortOf_21 ⟨by decide, by decide⟩ ?_
        refine sx_goto (tgt := 36) dX12_sortOf_22 (by decide) ?_
        refine sx_ireturn dX12_sortOf_36 ?_
        exact ⟨_, rfl, ⟨rfl, by first | (unfold sO; exact ⟨by rw [if_pos (by omega)], by omega, by omega⟩) | (unfold sO; exact ⟨by rw [if_neg (by omega)], by omega, by omega⟩)⟩⟩
set_option maxRecDepth 20000 in
set_option maxHeartbeats 4000000 in
theorem c_X12_whatOf {G : sw_G} (d : Nat) {h0 : sw_H} (hJ : mI h0) (y1 y2 : Int) (hw : 0 ≤ y1 ∧ y1 < 6) (hi : 0 ≤ y2 ∧ h0 233 (6 * h0 224 36 + y1).toNat + y2 < 60)  : sw_E G NH SH (d + 1) mX12_whatOf 0 [some (sw_r 224), some (sw_i y1), some (sw_i y2)] [] h0 (sw_Qi (fun z h' => h0 = h' ∧ (z = wO h0 y1 y2 ∧ -1 ≤ z ∧ z ≤ 9999))) := by
  have hI : mK (prW [] []) h0 h0 := mK.refl hJ
  have ra0 : (0 : Int) ≤ h0 233 (6 * h0 224 36 + y1).toNat ∧ h0 233 (6 * h0 224 36 + y1).toNat ≤ 60 := hI.1 233 _
  have ra1 : (0 : Int) ≤ h0 224 36 ∧ h0 224 36 ≤ 1 := hI.1 224 36
  refine sx_aload_n dX12_whatOf_0 rfl ?_
  refine sx_getI (k := 71) cl_12 fl_X12_142 dX12_whatOf_1 s_224 (by decide) rfl (by decide) ?_
  have r1 : (-1 : Int) ≤ h0 224 71 ∧ h0 224 71 ≤ 14 := hI.1 224 71
  refine sx_if_lt (tgt := 28) dX12_whatOf_4 (by decide) (fun c2 => ?_) (fun c2 => ?_)
  ·
    refine sx_aload_n dX12_whatOf_28 rfl ?_
    refine sx_getS (k := 25) (t := 241) cl_12 fl_X12_63 dX12_whatOf_29 s_224 (by decide) rfl (by decide) ?_
    refine sx_aload_n dX12_whatOf_32 rfl ?_
    refine sx_iload_n dX12_whatOf_33 rfl ?_
    refine sx_iload_n dX12_whatOf_34 rfl ?_
    refine sx_callVi lk_X12_519 cl_12 s_224 (by decide) dX12_whatOf_35 (vs := [_, _]) rfl rfl (Nat.le_of_ble_eq_true rfl) (Nat.le_of_ble_eq_true rfl) rfl (c_X12_itemOf _ hI.1 _ _ (by first | omega | (rw [Int.tmod_eq_emod_of_nonneg (by omega)]; omega) | (rw [Int.tdiv_eq_ediv_of_nonneg (by omega)]; omega)) (by first | omega | (rw [Int.tmod_eq_emod_of_nonneg (by omega)]; omega) | (rw [Int.tdiv_eq_ediv_of_nonneg (by omega)]; omega))) (fun x4 h3 ph3 => ?_)
    obtain ⟨rfl, p_x4⟩ := ph3
    obtain ⟨qx, qx1, qx2⟩ := p_x4
    subst qx
    refine sy_iaF (F := fun z => (0 : Int) ≤ z ∧ z ≤ 9999) dX12_whatOf_38 s_241 (by decide) (by decide) ⟨by first | omega | (rw [Int.tmod_eq_emod_of_nonneg (by omega)]; omega) | (rw [Int.tdiv_eq_ediv_of_nonneg (by omega)]; omega), by first | omega | (rw [Int.tmod_eq_emod_of_nonneg (by omega)]; omega) | (rw [Int.tdiv_eq_ediv_of_nonneg (by omega)]; omega)⟩ (hI.1 241 _) (fun r5 => ?_)
    refine sx_ireturn dX12_whatOf_39 ?_
    exact ⟨_, rfl, ⟨rfl, by first | (unfold wO; exact ⟨by rw [if_pos (by omega)], by omega, by omega⟩) | (unfold wO; exact ⟨by rw [if_neg (by omega)], by omega, by omega⟩)⟩⟩
  ·
    refine sx_iload_n dX12_whatOf_7 rfl ?_
    refine sx_if_ne (tgt := 28) dX12_whatOf_8 (by decide) (fun c6 => ?_) (fun c6 => ?_)
    ·
      refine sx_aload_n dX12_whatOf_28 rfl ?_
      refine sx_getS (k := 25) (t := 241) cl_12 fl_X12_63 dX12_whatOf_29 s_224 (by decide) rfl (by decide) ?_
      refine sx_aload_n dX12_whatOf_32 rfl ?_
      refine sx_iload_n dX12_whatOf_33 rfl ?_
      refine sx_iload_n dX12_whatOf_34 rfl ?_
      refine sx_callVi lk_X12_519 cl_12 s_224 (by decide) dX12_whatOf_35 (vs := [_, _]) rfl rfl (Nat.le_of_ble_eq_true rfl) (Nat.le_of_ble_eq_true rfl) rfl (c_X12_itemOf _ hI.1 _ _ (by first | omega | (rw [Int.tmod_eq_emod_of_nonneg (by omega)]; omega) | (rw [Int.tdiv_eq_ediv_of_nonneg (by omega)]; omega)) (by first | omega | (rw [Int.tmod_eq_emod_of_nonneg (by omega)]; omega) | (rw [Int.tdiv_eq_ediv_of_nonneg (by omega)]; omega))) (fun x8 h7 ph7 => ?_)
      obtain ⟨rfl, p_x8⟩ := ph7
      obtain ⟨qx, qx1, qx2⟩ := p_x8
      subst qx
      refine sy_iaF (F := fun z => (0 : Int) ≤ z ∧ z ≤ 9999) dX12_whatOf_38 s_241 (by decide) (by decide) ⟨by first | omega | (rw [Int.tmod_eq_emod_of_nonneg (by omega)]; omega) | (rw [Int.tdiv_eq_ediv_of_nonneg (by omega)]; omega), by first | omega | (rw [Int.tmod_eq_emod_of_nonneg (by omega)]; omega) | (rw [Int.tdiv_eq_ediv_of_nonneg (by omega)]; omega)⟩ (hI.1 241 _) (fun r9 => ?_)
      refine sx_ireturn dX12_whatOf_39 ?_
      exact ⟨_, rfl, ⟨rfl, by first | (unfold wO; exact ⟨by rw [if_pos (by omega)], by omega, by omega⟩) | (unfold wO; exact ⟨by rw [if_neg (by omega)], by omega, by omega⟩)⟩⟩
    ·
      refine sx_iload_n dX12_whatOf_11 rfl ?_
      refine sx_aload_n dX12_whatOf_12 rfl ?_
      refine sx_callVi lk_X12_497 cl_12 s_224 (by decide) dX12_whatOf_13 (vs := []) rfl rfl (Nat.le_of_ble_eq_true rfl) (Nat.le_of_ble_eq_true rfl) rfl (c_X12_lots _ hI.1) (fun x11 h10 ph10 => ?_)
      obtain ⟨rfl, p_x11⟩ := ph10
      refine sx_iconst dX12_whatOf_16 ⟨by decide, by decide⟩ ?_
      refine sx_isub dX12_whatOf_17 ?_
      refine sy_topw (by first | omega | (rw [Int.tmod_eq_emod_of_nonneg (by omega)]; omega) | (rw [Int.tdiv_eq_ediv_of_nonneg (by omega)]; omega)) ?_
      refine sx_icmp_ne (tgt := 28) dX12_whatOf_18 (by decide) (fun c12 => ?_) (fun c12 => ?_)
      ·
        refine sx_aload_n dX12_whatOf_28 rfl ?_
        refine sx_getS (k := 25) (t := 241) cl_12 fl_X12_63 dX12_whatOf_29 s_224 (by decide) rfl (by decide) ?_
        refine sx_aload_n dX12_whatOf_32 rfl ?_
        refine sx_iload_n dX12_whatOf_33 rfl ?_
        refine sx_iload_n dX12_whatOf_34 rfl ?_
        refine sx_callVi lk_X12_519 cl_12 s_224 (by decide) dX12_whatOf_35 (vs := [_, _]) rfl rfl (Nat.le_of_ble_eq_true rfl) (Nat.le_of_ble_eq_true rfl) rfl (c_X12_itemOf _ hI.1 _ _ (by first | omega | (rw [Int.tmod_eq_emod_of_nonneg (by omega)]; omega) | (rw [Int.tdiv_eq_ediv_of_nonneg (by omega)]; omega)) (by first | omega | (rw [Int.tmod_eq_emod_of_nonneg (by omega)]; omega) | (rw [Int.tdiv_eq_ediv_of_nonneg (by omega)]; omega))) (fun x14 h13 ph13 => ?_)
        obtain ⟨rfl, p_x14⟩ := ph13
        obtain ⟨qx, qx1, qx2⟩ := p_x14
        subst qx
        refine sy_iaF (F := fun z => (0 : Int) ≤ z ∧ z ≤ 9999) dX12_whatOf_38 s_241 (by decide) (by decide) ⟨by first | omega | (rw [Int.tmod_eq_emod_of_nonneg (by omega)]; omega) | (rw [Int.tdiv_eq_ediv_of_nonneg (by omega)]; omega), by first | omega | (rw [Int.tmod_eq_emod_of_nonneg (by omega)]; omega) | (rw [Int.tdiv_eq_ediv_of_nonneg (by omega)]; omega)⟩ (hI.1 241 _) (fun r15 => ?_)
        refine sx_ireturn dX12_whatOf_39 ?_
        exact ⟨_, rfl, ⟨rfl, by first | (unfold wO; exact ⟨by rw [if_pos (by omega)], by omega, by omega⟩) | (unfold wO; exact ⟨by rw [if_neg (by omega)], by omega, by omega⟩)⟩⟩
      ·
        refine sx_aload_n dX12_whatOf_21 rfl ?_
        refine sx_getI (k := 71) cl_12 fl_X12_142 dX12_whatOf_22 s_224 (by decide) rfl (by decide) ?_
        have r16 : (-1 : Int) ≤ h0 224 71 ∧ h0 224 71 ≤ 14 := hI.1 224 71
        refine sx_goto (tgt := 39) dX12_whatOf_25 (by decide) ?_
        refine sx_ireturn dX12_whatOf_39 ?_
        exact ⟨_, rfl, ⟨rfl, by first | (unfold wO; exact ⟨by rw [if_pos (by omega)], by omega, by omega⟩) | (unfold wO; exact ⟨by rw [if_neg (by omega)], by omega, by omega⟩)⟩⟩
set_option maxRecDepth 20000 in
set_option maxHeartbeats 4000000 in
theorem c_X12_pop {G : sw_G} (d : Nat) {h0 : sw_H} (hJ : mI h0) (hc : 1 ≤ h0 224 67 ∧ h0 224 67 ≤ 96)  : sw_E G NH SH (d) mX12_pop 0 [some (sw_r 224)] [] h0 (sw_Qi (fun z h' => mK (prW [67] []) h0 h' ∧ (h' 224 67 = h0 224 67 - 1) ∧ (∀ k : Nat, (k : Int) = h0 224 67 - 1 → z = h0 262 k))) := by
  have hI : mK (prW [67] []) h0 h0 := mK.refl hJ
  refine sx_aload_n dX12_pop_0 rfl ?_
  refine sx_dupr dX12_pop_1 ?_
  refine sx_getI (k := 67) cl_12 fl_X12_522 dX12_pop_2 s_224 (by decide) rfl (by decide) ?_
  refine sx_iconst dX12_pop_5 ⟨by decide, by decide⟩ ?_
  refine sx_isub dX12_pop_6 ?_
  refine sy_topw (by first | omega | (rw [Int.tmod_eq_emod_of_nonneg (by omega)]; omega) | (rw [Int.tdiv_eq_ediv_of_nonneg (by omega)]; omega)) ?_
  refine sy_putI (k := 67) cl_12 fl_X12_522 dX12_pop_7 s_224 (by decide) rfl (by decide) rfl rfl (fun h1 eh1 => ?_)
  have Ih1 := hI.up eh1 trivial rfl
  have th1_224_67 := eh1.1
  refine sx_aload_n dX12_pop_10 rfl ?_
  refine sx_getS (k := 62) (t := 262) cl_12 fl_X12_127 dX12_pop_11 s_224 (by decide) rfl (by decide) ?_
  refine sx_aload_n dX12_pop_14 rfl ?_
  refine sx_getI (k := 67) cl_12 fl_X12_522 dX12_pop_15 s_224 (by decide) rfl (by decide) ?_
  refine sx_iaload dX12_pop_18 s_262 (by decide) (by decide) ⟨by first | omega | (rw [Int.tmod_eq_emod_of_nonneg (by omega)]; omega) | (rw [Int.tdiv_eq_ediv_of_nonneg (by omega)]; omega), by first | omega | (rw [Int.tmod_eq_emod_of_nonneg (by omega)]; omega) | (rw [Int.tdiv_eq_ediv_of_nonneg (by omega)]; omega)⟩ ?_
  refine sx_ireturn dX12_pop_19 ?_
  exact ⟨_, rfl, ⟨Ih1, by first | omega | (rw [Int.tmod_eq_emod_of_nonneg (by omega)]; omega) | (rw [Int.tdiv_eq_ediv_of_nonneg (by omega)]; omega), fun k hk => by have e : (h1 224 67).toNat = k := (by omega); rw [e]; exact eh1.2 262 k (by omega)⟩⟩
set_option maxRecDepth 20000 in
set_option maxHeartbeats 4000000 in
theorem c_X12_push {G : sw_G} (d : Nat) {h0 : sw_H} (hJ : mI h0) (y1 : Int) (hc : 0 ≤ h0 224 67 ∧ h0 224 67 ≤ 95)  : sw_E G NH SH (d) mX12_push 0 [some (sw_r 224), some (sw_i y1)] [] h0 (sw_Qv (fun h' => mK (prW [67] [262]) h0 h' ∧ (h' 224 67 = h0 224 67 + 1) ∧ (∀ k : Nat, h' 262 k = if (k : Int) = h0 224 67 then y1 else h0 262 k))) := by
  have hI : mK (prW [67] [262]) h0 h0 := mK.refl hJ
  refine sx_aload_n dX12_push_0 rfl ?_
  refine sx_getS (k := 62) (t := 262) cl_12 fl_X12_127 dX12_push_1 s_224 (by decide) rfl (by decide) ?_
  refine sx_aload_n dX12_push_4 rfl ?_
  refine sx_getI (k := 67) cl_12 fl_X12_522 dX12_push_5 s_224 (by decide) rfl (by decide) ?_
  refine sx_iload_n dX12_push_8 rfl ?_
  refine sy_iastore dX12_push_9 s_262 (by decide) (by decide) ⟨by first | omega | (rw [Int.tmod_eq_emod_of_nonneg (by omega)]; omega) | (rw [Int.tdiv_eq_ediv_of_nonneg (by omega)]; omega), by first | omega | (rw [Int.tmod_eq_emod_of_nonneg (by omega)]; omega) | (rw [Int.tdiv_eq_ediv_of_nonneg (by omega)]; omega)⟩ (fun h1 eh1 => ?_)
  have Ih1 := hI.up eh1 trivial rfl
  have th1_224_67 := eh1.2 (224) 67 (by omega)
  refine sx_aload_n dX12_push_10 rfl ?_
  refine sx_dupr dX12_push_11 ?_
  refine sx_getI (k := 67) cl_12 fl_X12_522 dX12_push_12 s_224 (by decide) rfl (by decide) ?_
  refine sx_iconst dX12_push_15 ⟨by decide, by decide⟩ ?_
  refine sx_iadd dX12_push_16 ?_
  refine sy_topw (by first | omega | (rw [Int.tmod_eq_emod_of_nonneg (by omega)]; omega) | (rw [Int.tdiv_eq_ediv_of_nonneg (by omega)]; omega)) ?_
  refine sy_putI (k := 67) cl_12 fl_X12_522 dX12_push_17 s_224 (by decide) rfl (by decide) rfl rfl (fun h2 eh2 => ?_)
  have Ih2 := Ih1.up eh2 trivial rfl
  have th2_224_67 := eh2.1
  refine sx_ret dX12_push_20 ?_
  exact ⟨rfl, ⟨Ih2, by first | omega | (rw [Int.tmod_eq_emod_of_nonneg (by omega)]; omega) | (rw [Int.tdiv_eq_ediv_of_nonneg (by omega)]; omega), fun k => by rw [eh2.2 262 k (by omega)]; by_cases q : (k : Int) = h0 224 67; (rw [if_pos q]; have e : k = (h0 224 67).toNat := (by omega); rw [e]; exact eh1.1); (rw [if_neg q]; exact eh1.2 262 k (by omega))⟩⟩

-- ===== what a WORD comes to =====
theorem pw_4 {n : Int} (h0 : 0 ≤ n) (h1 : n ≤ 6) : 1 ≤ pw 4 n.toNat ∧ pw 4 n.toNat ≤ 4096 ∧ (n ≤ 3 → pw 4 n.toNat ≤ 64) := by
  have : n = 0 ∨ n = 1 ∨ n = 2 ∨ n = 3 ∨ n = 4 ∨ n = 5 ∨ n = 6 := by omega
  rcases this with rfl | rfl | rfl | rfl | rfl | rfl | rfl <;> decide
set_option maxRecDepth 20000 in
set_option maxHeartbeats 4000000 in
theorem c_X12_threeCells {G : sw_G} (d : Nat) {h0 : sw_H} (hJ : mI h0) (y1 y2 y3 : Int)  : sw_E G NH SH (d + 1) mX12_threeCells 0 [some (sw_r 224), some (sw_i y1), some (sw_i y2), some (sw_i y3)] [] h0 (sw_Qv (fun h' => mK (prW [67, 68] [262]) h0 h' ∧ (h' 224 67 = 3 ∧ h' 224 68 = 0))) := by
  have hI : mK (prW [67, 68] [262]) h0 h0 := mK.refl hJ
  refine sx_aload_n dX12_threeCells_0 rfl ?_
  refine sx_iconst dX12_threeCells_1 ⟨by decide, by decide⟩ ?_
  refine sy_putI (k := 67) cl_12 fl_X12_522 dX12_threeCells_2 s_224 (by decide) rfl (by decide) rfl rfl (fun h1 eh1 => ?_)
  have Ih1 := hI.up eh1 trivial rfl
  have th1_224_67 := eh1.1
  have th1_224_68 := eh1.2 (224) 68 (by decide)
  refine sx_aload_n dX12_threeCells_5 rfl ?_
  refine sx_iconst dX12_threeCells_6 ⟨by decide, by decide⟩ ?_
  refine sy_putI (k := 68) cl_12 fl_X12_528 dX12_threeCells_7 s_224 (by decide) rfl (by decide) rfl rfl (fun h2 eh2 => ?_)
  have Ih2 := Ih1.up eh2 trivial rfl
  have th2_224_67 := eh2.2 (224) 67 (by decide)
  have th2_224_68 := eh2.1
  refine sx_aload_n dX12_threeCells_10 rfl ?_
  refine sx_iload_n dX12_threeCells_11 rfl ?_
  refine sx_callVv lk_X12_534 cl_12 s_224 (by decide) dX12_threeCells_12 (vs := [_]) rfl rfl (Nat.le_of_ble_eq_true rfl) (Nat.le_of_ble_eq_true rfl) rfl (c_X12_push _ Ih2.1 _ (by first | omega | (rw [Int.tmod_eq_emod_of_nonneg (by omega)]; omega) | (rw [Int.tdiv_eq_ediv_of_nonneg (by omega)]; omega))) (fun h3 ph3 => ?_)
  obtain ⟨Kh3, c_h3, v_h3⟩ := ph3
  have Ih3 := Ih2.tr Kh3 (prW_sub rfl rfl)
  have th3_224_68 := Kh3.2 224 68 rfl
  refine sx_aload_n dX12_threeCells_15 rfl ?_
  refine sx_iload_n dX12_threeCells_16 rfl ?_
  refine sx_callVv lk_X12_534 cl_12 s_224 (by decide) dX12_threeCells_17 (vs := [_]) rfl rfl (Nat.le_of_ble_eq_true rfl) (Nat.le_of_ble_eq_true rfl) rfl (c_X12_push _ Ih3.1 _ (by first | omega | (rw [Int.tmod_eq_emod_of_nonneg (by omega)]; omega) | (rw [Int.tdiv_eq_ediv_of_nonneg (by omega)]; omega))) (fun h5 ph5 => ?_)
  obtain ⟨Kh5, c_h5, v_h5⟩ := ph5
  have Ih5 := Ih3.tr Kh5 (prW_sub rfl rfl)
  have th5_224_68 := Kh5.2 224 68 rfl
  refine sx_aload_n dX12_threeCells_20 rfl ?_
  refine sx_iload_n dX12_threeCells_21 rfl ?_
  refine sx_callVv lk_X12_534 cl_12 s_224 (by decide) dX12_threeCells_22 (vs := [_]) rfl rfl (Nat.le_of_ble_eq_true rfl) (Nat.le_of_ble_eq_true rfl) rfl (c_X12_push _ Ih5.1 _ (by first | omega | (rw [Int.tmod_eq_emod_of_nonneg (by omega)]; omega) | (rw [Int.tdiv_eq_ediv_of_nonneg (by omega)]; omega))) (fun h7 ph7 => ?_)
  obtain ⟨Kh7, c_h7, v_h7⟩ := ph7
  have Ih7 := Ih5.tr Kh7 (prW_sub rfl rfl)
  have th7_224_68 := Kh7.2 224 68 rfl
  refine sx_ret dX12_threeCells_25 ?_
  exact ⟨rfl, ⟨Ih7, by omega⟩⟩
set_option maxRecDepth 20000 in
set_option maxHeartbeats 4000000 in
theorem c_X12_comes {G : sw_G} (d : Nat) {h0 : sw_H} (hJ : mI h0) (y1 y2 y3 y4 y5 : Int) (hB : mB h0)  : sw_E G NH SH (d + 5) mX12_comes 0 [some (sw_r 224), some (sw_i y1), some (sw_i y2), some (sw_i y3), some (sw_i y4), some (sw_i y5)] [] h0 (sw_Qi (fun z h' => mK (prW [67, 68, 69, 70] [262, 263, 264, 265, 266]) h0 h' ∧ (mB h') ∧ (h' 224 100 = h0 224 100))) := by
  have hI : mK (prW [67, 68, 69, 70] [262, 263, 264, 265, 266]) h0 h0 := mK.refl hJ
  refine sx_aload_n dX12_comes_0 rfl ?_
  refine sx_iload_n dX12_comes_1 rfl ?_
  refine sx_callVz lk_X12_570 cl_12 s_224 (by decide) dX12_comes_2 (vs := [_]) rfl rfl (Nat.le_of_ble_eq_true rfl) (Nat.le_of_ble_eq_true rfl) rfl (c_X12_isOne _ hI.1 _) (fun x2 h1 zx2 ph1 => ?_)
  obtain ⟨rfl, p_x2⟩ := ph1
  refine sx_if_eq (tgt := 22) dX12_comes_5 (by decide) (fun c3 => ?_) (fun c3 => ?_)
  ·
    replace p_x2 := mt p_x2.mpr (show ¬ (x2 = 1) by rw [c3]; decide)
    clear zx2
    refine sx_iconst dX12_comes_22 ⟨by decide, by decide⟩ ?_
    refine sx_ireturn dX12_comes_23 ?_
    exact ⟨_, rfl, ⟨hI, mB_mK hI rfl rfl hJ hB, hI.2 224 100 rfl⟩⟩
  ·
    have vx2 : x2 = 1 := by rcases zx2 with q | q; (exact absurd q c3); exact q
    replace p_x2 := p_x2.mp vx2
    clear zx2
    obtain ⟨wr1, wr2, wr3, wr4⟩ := mC_w hB.1 hJ (w := y1) (by omega) (by omega)
    have wd := Wd_of hB.1 hJ hB.2.1 (w := y1) (by omega) (by omega)
    have wds := Wds_of hB.1 hJ hB.2.1 (w := y1) (by omega)
    obtain ⟨wg1, wg2, wg3, wg4, wg5, wg6⟩ := Wd_rng wd
    have eN : cN h0 y1 = h0 235 (6 * h0 224 36 + y1).toNat := rfl
    have eL : cL h0 y1 = h0 236 (6 * h0 224 36 + y1).toNat := rfl
    refine sx_aload_n dX12_comes_8 rfl ?_
    refine sx_iload_n dX12_comes_9 rfl ?_
    refine sx_callVi lk_X12_504 cl_12 s_224 (by decide) dX12_comes_10 (vs := [_]) rfl rfl (Nat.le_of_ble_eq_true rfl) (Nat.le_of_ble_eq_true rfl) rfl (c_X12_needsOf _ hI.1 _ (by first | omega | (rw [Int.tmod_eq_emod_of_nonneg (by omega)]; omega) | (rw [Int.tdiv_eq_ediv_of_nonneg (by omega)]; omega))) (fun x5 h4 ph4 => ?_)
    obtain ⟨rfl, p_x5⟩ := ph4
    refine sx_iconst dX12_comes_13 ⟨by decide, by decide⟩ ?_
    refine sx_icmp_gt (tgt := 22) dX12_comes_14 (by decide) (fun c6 => ?_) (fun c6 => ?_)
    ·
      refine sx_iconst dX12_comes_22 ⟨by decide, by decide⟩ ?_
      refine sx_ireturn dX12_comes_23 ?_
      exact ⟨_, rfl, ⟨hI, mB_mK hI rfl rfl hJ hB, hI.2 224 100 rfl⟩⟩
    ·
      refine sx_iload dX12_comes_17 rfl ?_
      refine sx_if_ge (tgt := 24) dX12_comes_19 (by decide) (fun c7 => ?_) (fun c7 => ?_)
      ·
        refine sx_aload_n dX12_comes_24 rfl ?_
        refine sx_iload_n dX12_comes_25 rfl ?_
        refine sx_iload_n dX12_comes_26 rfl ?_
        refine sx_iload dX12_comes_27 rfl ?_
        refine sx_callVv lk_X12_594 cl_12 s_224 (by decide) dX12_comes_29 (vs := [_, _, _]) rfl rfl (Nat.le_of_ble_eq_true rfl) (Nat.le_of_ble_eq_true rfl) rfl (c_X12_threeCells _ hI.1 _ _ _) (fun h8 ph8 => ?_)
        obtain ⟨Kh8, c_h8⟩ := ph8
        have Ih8 := hI.tr Kh8 (prW_sub rfl rfl)
        have th8_224_71 := Kh8.2 224 71 rfl
        have th8_224_73 := Kh8.2 224 73 rfl
        have th8_224_74 := Kh8.2 224 74 rfl
        have th8_224_85 := Kh8.2 224 85 rfl
        have th8_224_100 := Kh8.2 224 100 rfl
        have CD : cdK h0 h8 := Ih8.cd rfl rfl
        refine sx_aload_n dX12_comes_32 rfl ?_
        refine sx_iload_n dX12_comes_33 rfl ?_
        refine sx_callVv lk_X12_573 cl_12 s_224 (by decide) dX12_comes_34 (vs := [_]) rfl rfl (Nat.le_of_ble_eq_true rfl) (Nat.le_of_ble_eq_true rfl) rfl (c_X12_runWord _ Ih8.1 (cN h0 y1) (cL h0 y1) (cH h0 y1) _ (by omega) (Wds_cd CD wds) (Wd_cd CD wd) (by omega)) (fun h10 ph10 => ?_)
        obtain ⟨Kh10, c_h10⟩ := ph10
        have Ih10 := Ih8.tr Kh10 (prW_sub rfl rfl)
        have th10_224_71 := Kh10.2 224 71 rfl
        have th10_224_73 := Kh10.2 224 73 rfl
        have th10_224_74 := Kh10.2 224 74 rfl
        have th10_224_85 := Kh10.2 224 85 rfl
        have th10_224_100 := Kh10.2 224 100 rfl
        refine sx_iload dX12_comes_37 rfl ?_
        refine sx_aload_n dX12_comes_39 rfl ?_
        refine sx_getI (k := 67) cl_12 fl_X12_522 dX12_comes_40 s_224 (by decide) rfl (by decide) ?_
        refine sx_icmp_ge (tgt := 63) dX12_comes_43 (by decide) (fun c12 => ?_) (fun c12 => ?_)
        ·
          refine sx_iconst dX12_comes_63 ⟨by decide, by decide⟩ ?_
          refine sx_ireturn dX12_comes_64 ?_
          exact ⟨_, rfl, ⟨Ih10, mB_mK Ih10 rfl rfl hJ hB, Ih10.2 224 100 rfl⟩⟩
        ·
          refine sx_aload_n dX12_comes_46 rfl ?_
          refine sx_getS (k := 62) (t := 262) cl_12 fl_X12_127 dX12_comes_47 s_224 (by decide) rfl (by decide) ?_
          refine sx_aload_n dX12_comes_50 rfl ?_
          refine sx_getI (k := 67) cl_12 fl_X12_522 dX12_comes_51 s_224 (by decide) rfl (by decide) ?_
          refine sx_iconst dX12_comes_54 ⟨by decide, by decide⟩ ?_
          refine sx_isub dX12_comes_55 ?_
          refine sy_topw (by omega) ?_
          refine sx_iload dX12_comes_56 rfl ?_
          refine sx_isub dX12_comes_58 ?_
          refine sy_topw (by omega) ?_
          refine sx_iaload dX12_comes_59 s_262 (by decide) (by decide) ⟨by omega, by omega⟩ ?_
          refine sx_goto (tgt := 64) dX12_comes_60 (by decide) ?_
          refine sx_ireturn dX12_comes_64 ?_
          exact ⟨_, rfl, ⟨Ih10, mB_mK Ih10 rfl rfl hJ hB, Ih10.2 224 100 rfl⟩⟩
      ·
        refine sx_iconst dX12_comes_22 ⟨by decide, by decide⟩ ?_
        refine sx_ireturn dX12_comes_23 ?_
        exact ⟨_, rfl, ⟨hI, mB_mK hI rfl rfl hJ hB, hI.2 224 100 rfl⟩⟩
set_option maxRecDepth 20000 in
set_option maxHeartbeats 4000000 in
theorem c_X12_runFor {G : sw_G} (d : Nat) {h0 : sw_H} (hJ : mI h0) (y1 y2 y3 : Int) (hB : mB h0) (hw : 0 ≤ y1 ∧ y1 < h0 227 (h0 224 36).toNat) (hn : y3 = cN h0 y1)  : sw_E G NH SH (d + 5) mX12_runFor 0 [some (sw_r 224), some (sw_i y1), some (sw_i y2), some (sw_i y3), none] [] h0 (sw_Qv (fun h' => mK (prW [67, 68, 69, 70] [262, 263, 264, 265, 266]) h0 h' ∧ (h' 224 67 = y3 + cL h0 y1))) := by
  have hI : mK (prW [67, 68, 69, 70] [262, 263, 264, 265, 266]) h0 h0 := mK.refl hJ
  obtain ⟨wr1, wr2, wr3, wr4⟩ := mC_w hB.1 hJ (w := y1) (by omega) (by omega)
  have wd := Wd_of hB.1 hJ hB.2.1 (w := y1) (by omega) (by omega)
  have wds := Wds_of hB.1 hJ hB.2.1 (w := y1) (by omega)
  obtain ⟨wg1, wg2, wg3, wg4, wg5, wg6⟩ := Wd_rng wd
  have eN : cN h0 y1 = h0 235 (6 * h0 224 36 + y1).toNat := rfl
  have eL : cL h0 y1 = h0 236 (6 * h0 224 36 + y1).toNat := rfl
  refine sx_aload_n dX12_runFor_0 rfl ?_
  refine sx_iconst dX12_runFor_1 ⟨by decide, by decide⟩ ?_
  refine sy_putI (k := 67) cl_12 fl_X12_522 dX12_runFor_2 s_224 (by decide) rfl (by decide) rfl rfl (fun h1 eh1 => ?_)
  have Ih1 := hI.up eh1 trivial rfl
  have th1_224_67 := eh1.1
  have th1_224_68 := eh1.2 (224) 68 (by decide)
  refine sx_aload_n dX12_runFor_5 rfl ?_
  refine sx_iconst dX12_runFor_6 ⟨by decide, by decide⟩ ?_
  refine sy_putI (k := 68) cl_12 fl_X12_528 dX12_runFor_7 s_224 (by decide) rfl (by decide) rfl rfl (fun h2 eh2 => ?_)
  have Ih2 := Ih1.up eh2 trivial rfl
  have th2_224_67 := eh2.2 (224) 67 (by decide)
  have th2_224_68 := eh2.1
  refine sx_iload_n dX12_runFor_10 rfl ?_
  refine sx_iconst dX12_runFor_11 ⟨by decide, by decide⟩ ?_
  refine sx_isub dX12_runFor_12 ?_
  refine sy_topw (by omega) ?_
  refine sy_top (fun v3 ev3 => ?_)
  refine sx_istore dX12_runFor_13 (by decide) ?_
  refine sx_loop1 (fun (h : sw_H) (k : Int) => (mK (prW [67, 68, 69, 70] [262, 263, 264, 265, 266]) h0 h) ∧ (-1 ≤ k) ∧ (k < y3) ∧ (h 224 67 = y3 - 1 - k) ∧ (h 224 68 = 0)) (fun (h : sw_H) (k : Int) => (k + 1).toNat) (fun (h : sw_H) (k : Int) => sw_E G NH SH (d + 5) mX12_runFor 15 [some (sw_r 224), some (sw_i y1), some (sw_i y2), some (sw_i y3), some (sw_i k)] [] h (sw_Qv (fun h' => mK (prW [67, 68, 69, 70] [262, 263, 264, 265, 266]) h0 h' ∧ (h' 224 67 = y3 + cL h0 y1)))) ?_ _ _ ?_
  · rintro h4 k_5 ⟨Ih4, j6, j7, j8, j9⟩ ihh4
    try dsimp only at ihh4
    refine sx_iload dX12_runFor_15 rfl ?_
    refine sx_if_lt (tgt := 40) dX12_runFor_17 (by decide) (fun c10 => ?_) (fun c10 => ?_)
    ·
      have CD : cdK h0 h4 := Ih4.cd rfl rfl
      refine sx_aload_n dX12_runFor_40 rfl ?_
      refine sx_iload_n dX12_runFor_41 rfl ?_
      refine sx_callVv lk_X12_573 cl_12 s_224 (by decide) dX12_runFor_42 (vs := [_]) rfl rfl (Nat.le_of_ble_eq_true rfl) (Nat.le_of_ble_eq_true rfl) rfl (c_X12_runWord _ Ih4.1 (cN h0 y1) (cL h0 y1) (cH h0 y1) _ (by omega) (Wds_cd CD wds) (Wd_cd CD wd) (by omega)) (fun h11 ph11 => ?_)
      obtain ⟨Kh11, c_h11⟩ := ph11
      have Ih11 := Ih4.tr Kh11 (prW_sub rfl rfl)
      refine sx_ret dX12_runFor_45 ?_
      exact ⟨rfl, ⟨Ih11, by omega⟩⟩
    ·
      refine sx_aload_n dX12_runFor_20 rfl ?_
      refine sx_iload_n dX12_runFor_21 rfl ?_
      refine sx_iconst dX12_runFor_22 ⟨by decide, by decide⟩ ?_
      refine sx_iload dX12_runFor_23 rfl ?_
      refine sx_callSi lk_X12_598 dX12_runFor_25 (vs := [_, _]) rfl rfl (Nat.le_of_ble_eq_true rfl) (Nat.le_of_ble_eq_true rfl) rfl (c_X12_power _ Ih4.1 _ _ (by first | omega | (rw [Int.tmod_eq_emod_of_nonneg (by omega)]; omega) | (rw [Int.tdiv_eq_ediv_of_nonneg (by omega)]; omega))) (fun x14 h13 ph13 => ?_)
      obtain ⟨rfl, p_x14⟩ := ph13
      have p4 := pw_4 (n := k_5) (by omega) (by omega)
      rw [← p_x14] at p4
      refine sx_idiv dX12_runFor_28 (by omega) ?_
      refine sx_iconst dX12_runFor_29 ⟨by decide, by decide⟩ ?_
      refine sx_irem dX12_runFor_30 (by decide) ?_
      refine sx_callVv lk_X12_534 cl_12 s_224 (by decide) dX12_runFor_31 (vs := [_]) rfl rfl (Nat.le_of_ble_eq_true rfl) (Nat.le_of_ble_eq_true rfl) rfl (c_X12_push _ Ih4.1 _ (by first | omega | (rw [Int.tmod_eq_emod_of_nonneg (by omega)]; omega) | (rw [Int.tdiv_eq_ediv_of_nonneg (by omega)]; omega))) (fun h15 ph15 => ?_)
      obtain ⟨Kh15, c_h15, v_h15⟩ := ph15
      have Ih15 := Ih4.tr Kh15 (prW_sub rfl rfl)
      have th15_224_68 := Kh15.2 224 68 rfl
      refine sx_iinc dX12_runFor_34 (by decide) rfl ?_
      rw [sw_w_id (by omega) (by omega)]
      refine sx_goto (tgt := 15) dX12_runFor_37 (by decide) ?_
      exact ihh4 _ _ ⟨Ih15, by omega, by omega, by omega, by omega⟩ (by exact sy_dec (by omega) (by omega))
  · exact ⟨Ih2, by omega, by omega, by omega, by omega⟩
set_option maxRecDepth 20000 in
set_option maxHeartbeats 4000000 in
theorem c_X12_areLike {G : sw_G} (d : Nat) {h0 : sw_H} (hJ : mI h0) (y1 y2 : Int) (hB : mB h0) (hw : 0 ≤ y1 ∧ y1 < 6) (ho : 0 ≤ y2 ∧ y2 < 6)  : sw_E G NH SH (d + 2) mX12_areLike 0 [some (sw_r 224), some (sw_i y1), some (sw_i y2)] [] h0 (sw_Qz (fun z h' => h0 = h' ∧ ((z = 1 → h0 235 (6 * h0 224 36 + y1).toNat = h0 235 (6 * h0 224 36 + y2).toNat ∧ h0 235 (6 * h0 224 36 + y1).toNat ≤ 3)))) := by
  have hI : mK (prW [] []) h0 h0 := mK.refl hJ
  refine sx_aload_n dX12_areLike_0 rfl ?_
  refine sx_iload_n dX12_areLike_1 rfl ?_
  refine sx_callVi lk_X12_504 cl_12 s_224 (by decide) dX12_areLike_2 (vs := [_]) rfl rfl (Nat.le_of_ble_eq_true rfl) (Nat.le_of_ble_eq_true rfl) rfl (c_X12_needsOf _ hI.1 _ (by first | omega | (rw [Int.tmod_eq_emod_of_nonneg (by omega)]; omega) | (rw [Int.tdiv_eq_ediv_of_nonneg (by omega)]; omega))) (fun x2 h1 ph1 => ?_)
  obtain ⟨rfl, p_x2⟩ := ph1
  refine sx_aload_n dX12_areLike_5 rfl ?_
  refine sx_iload_n dX12_areLike_6 rfl ?_
  refine sx_callVi lk_X12_504 cl_12 s_224 (by decide) dX12_areLike_7 (vs := [_]) rfl rfl (Nat.le_of_ble_eq_true rfl) (Nat.le_of_ble_eq_true rfl) rfl (c_X12_needsOf _ hI.1 _ (by first | omega | (rw [Int.tmod_eq_emod_of_nonneg (by omega)]; omega) | (rw [Int.tdiv_eq_ediv_of_nonneg (by omega)]; omega))) (fun x4 h3 ph3 => ?_)
  obtain ⟨rfl, p_x4⟩ := ph3
  refine sx_icmp_ne (tgt := 39) dX12_areLike_10 (by decide) (fun c5 => ?_) (fun c5 => ?_)
  ·
    refine sx_iconst dX12_areLike_39 ⟨by decide, by decide⟩ ?_
    refine sx_ireturn dX12_areLike_40 ?_
    exact ⟨_, rfl, by omega, ⟨rfl, by omega⟩⟩
  ·
    refine sx_aload_n dX12_areLike_13 rfl ?_
    refine sx_iload_n dX12_areLike_14 rfl ?_
    refine sx_callVi lk_X12_504 cl_12 s_224 (by decide) dX12_areLike_15 (vs := [_]) rfl rfl (Nat.le_of_ble_eq_true rfl) (Nat.le_of_ble_eq_true rfl) rfl (c_X12_needsOf _ hI.1 _ (by first | omega | (rw [Int.tmod_eq_emod_of_nonneg (by omega)]; omega) | (rw [Int.tdiv_eq_ediv_of_nonneg (by omega)]; omega))) (fun x7 h6 ph6 => ?_)
    obtain ⟨rfl, p_x7⟩ := ph6
    refine sx_iconst dX12_areLike_18 ⟨by decide, by decide⟩ ?_
    refine sx_icmp_gt (tgt := 39) dX12_areLike_19 (by decide) (fun c8 => ?_) (fun c8 => ?_)
    ·
      refine sx_iconst dX12_areLike_39 ⟨by decide, by decide⟩ ?_
      refine sx_ireturn dX12_areLike_40 ?_
      exact ⟨_, rfl, by omega, ⟨rfl, by omega⟩⟩
    ·
      refine sx_aload_n dX12_areLike_22 rfl ?_
      refine sx_iload_n dX12_areLike_23 rfl ?_
      refine sx_callVi lk_X12_579 cl_12 s_224 (by decide) dX12_areLike_24 (vs := [_]) rfl rfl (Nat.le_of_ble_eq_true rfl) (Nat.le_of_ble_eq_true rfl) rfl (c_X12_leavesOf _ hI.1 _ (by first | omega | (rw [Int.tmod_eq_emod_of_nonneg (by omega)]; omega) | (rw [Int.tdiv_eq_ediv_of_nonneg (by omega)]; omega))) (fun x10 h9 ph9 => ?_)
      obtain ⟨rfl, p_x10⟩ := ph9
      refine sx_aload_n dX12_areLike_27 rfl ?_
      refine sx_iload_n dX12_areLike_28 rfl ?_
      refine sx_callVi lk_X12_579 cl_12 s_224 (by decide) dX12_areLike_29 (vs := [_]) rfl rfl (Nat.le_of_ble_eq_true rfl) (Nat.le_of_ble_eq_true rfl) rfl (c_X12_leavesOf _ hI.1 _ (by first | omega | (rw [Int.tmod_eq_emod_of_nonneg (by omega)]; omega) | (rw [Int.tdiv_eq_ediv_of_nonneg (by omega)]; omega))) (fun x12 h11 ph11 => ?_)
      obtain ⟨rfl, p_x12⟩ := ph11
      refine sx_icmp_ne (tgt := 39) dX12_areLike_32 (by decide) (fun c13 => ?_) (fun c13 => ?_)
      ·
        refine sx_iconst dX12_areLike_39 ⟨by decide, by decide⟩ ?_
        refine sx_ireturn dX12_areLike_40 ?_
        exact ⟨_, rfl, by omega, ⟨rfl, by omega⟩⟩
      ·
        refine sx_iconst dX12_areLike_35 ⟨by decide, by decide⟩ ?_
        refine sx_goto (tgt := 40) dX12_areLike_36 (by decide) ?_
        refine sx_ireturn dX12_areLike_40 ?_
        exact ⟨_, rfl, by omega, ⟨rfl, by omega⟩⟩
set_option maxRecDepth 20000 in
set_option maxHeartbeats 4000000 in
theorem c_X12_firstUnlike {G : sw_G} (d : Nat) {h0 : sw_H} (hJ : mI h0) (y1 y2 : Int) (hB : mB h0) (hw : 0 ≤ y1 ∧ y1 < h0 227 (h0 224 36).toNat) (ho : 0 ≤ y2 ∧ y2 < h0 227 (h0 224 36).toNat) (hl : h0 235 (6 * h0 224 36 + y1).toNat = h0 235 (6 * h0 224 36 + y2).toNat ∧ h0 235 (6 * h0 224 36 + y1).toNat ≤ 3)  : sw_E G NH SH (d + 6) mX12_firstUnlike 0 [some (sw_r 224), some (sw_i y1), some (sw_i y2), none, none, none] [] h0 (sw_Qi (fun z h' => mK (prW [67, 68, 69, 70] [262, 263, 264, 265, 266, 269]) h0 h')) := by
  have hI : mK (prW [67, 68, 69, 70] [262, 263, 264, 265, 266, 269]) h0 h0 := mK.refl hJ
  obtain ⟨wr1, wr2, wr3, wr4⟩ := mC_w hB.1 hJ (w := y1) (by omega) (by omega)
  have wd := Wd_of hB.1 hJ hB.2.1 (w := y1) (by omega) (by omega)
  have wds := Wds_of hB.1 hJ hB.2.1 (w := y1) (by omega)
  obtain ⟨wg1, wg2, wg3, wg4, wg5, wg6⟩ := Wd_rng wd
  have eN : cN h0 y1 = h0 235 (6 * h0 224 36 + y1).toNat := rfl
  have eL : cL h0 y1 = h0 236 (6 * h0 224 36 + y1).toNat := rfl
  obtain ⟨wr1o, wr2o, wr3o, wr4o⟩ := mC_w hB.1 hJ (w := y2) (by omega) (by omega)
  have wdo := Wd_of hB.1 hJ hB.2.1 (w := y2) (by omega) (by omega)
  have wdso := Wds_of hB.1 hJ hB.2.1 (w := y2) (by omega)
  obtain ⟨wg1o, wg2o, wg3o, wg4o, wg5o, wg6o⟩ := Wd_rng wdo
  have eNo : cN h0 y2 = h0 235 (6 * h0 224 36 + y2).toNat := rfl
  have eLo : cL h0 y2 = h0 236 (6 * h0 224 36 + y2).toNat := rfl
  refine sx_aload_n dX12_firstUnlike_0 rfl ?_
  refine sx_iload_n dX12_firstUnlike_1 rfl ?_
  refine sx_callVi lk_X12_504 cl_12 s_224 (by decide) dX12_firstUnlike_2 (vs := [_]) rfl rfl (Nat.le_of_ble_eq_true rfl) (Nat.le_of_ble_eq_true rfl) rfl (c_X12_needsOf _ hI.1 _ (by first | omega | (rw [Int.tmod_eq_emod_of_nonneg (by omega)]; omega) | (rw [Int.tdiv_eq_ediv_of_nonneg (by omega)]; omega))) (fun x2 h1 ph1 => ?_)
  obtain ⟨rfl, p_x2⟩ := ph1
  refine sx_istore_n dX12_firstUnlike_5 (by decide) ?_
  refine sx_iconst dX12_firstUnlike_6 ⟨by decide, by decide⟩ ?_
  refine sx_istore dX12_firstUnlike_7 (by decide) ?_
  refine sx_loop1 (fun (h : sw_H) (v : Int) => (mK (prW [67, 68, 69, 70] [262, 263, 264, 265, 266, 269]) h0 h) ∧ (0 ≤ v) ∧ (v ≤ 64)) (fun (h : sw_H) (v : Int) => (100 - v).toNat) (fun (h : sw_H) (v : Int) => sw_E G NH SH (d + 6) mX12_firstUnlike 9 [some (sw_r 224), some (sw_i y1), some (sw_i y2), some (sw_i x2), some (sw_i v), none] [] h (sw_Qi (fun z h' => mK (prW [67, 68, 69, 70] [262, 263, 264, 265, 266, 269]) h0 h'))) ?_ _ _ ?_
  · rintro h3 v_4 ⟨Ih3, j5, j6⟩ ihh3
    try dsimp only at ihh3
    refine sx_iload dX12_firstUnlike_9 rfl ?_
    refine sx_iconst dX12_firstUnlike_11 ⟨by decide, by decide⟩ ?_
    refine sx_iload_n dX12_firstUnlike_12 rfl ?_
    refine sx_callSi lk_X12_598 dX12_firstUnlike_13 (vs := [_, _]) rfl rfl (Nat.le_of_ble_eq_true rfl) (Nat.le_of_ble_eq_true rfl) rfl (c_X12_power _ Ih3.1 _ _ (by first | omega | (rw [Int.tmod_eq_emod_of_nonneg (by omega)]; omega) | (rw [Int.tdiv_eq_ediv_of_nonneg (by omega)]; omega))) (fun x8 h7 ph7 => ?_)
    obtain ⟨rfl, p_x8⟩ := ph7
    have p4 := pw_4 (n := x2) (by omega) (by omega)
    rw [← p_x8] at p4
    refine sx_icmp_ge (tgt := 113) dX12_firstUnlike_16 (by decide) (fun c9 => ?_) (fun c9 => ?_)
    ·
      refine sx_iconst dX12_firstUnlike_113 ⟨by decide, by decide⟩ ?_
      refine sx_ireturn dX12_firstUnlike_114 ?_
      exact ⟨_, rfl, Ih3⟩
    ·
      refine sx_aload_n dX12_firstUnlike_19 rfl ?_
      refine sx_iload_n dX12_firstUnlike_20 rfl ?_
      refine sx_iload dX12_firstUnlike_21 rfl ?_
      refine sx_iload_n dX12_firstUnlike_23 rfl ?_
      refine sx_callVv lk_X12_601 cl_12 s_224 (by decide) dX12_firstUnlike_24 (vs := [_, _, _]) rfl rfl (Nat.le_of_ble_eq_true rfl) (Nat.le_of_ble_eq_true rfl) rfl (c_X12_runFor _ Ih3.1 _ _ _ (mB_mK Ih3 rfl rfl hJ hB) (by rw [Ih3.2 224 36 rfl, Ih3.2 227 _ rfl]; omega) (by rw [cN_cd (Ih3.cd rfl rfl)]; omega)) (fun h10 ph10 => ?_)
      obtain ⟨Kh10, c_h10⟩ := ph10
      have Ih10 := Ih3.tr Kh10 (prW_sub rfl rfl)
      refine sx_iconst dX12_firstUnlike_27 ⟨by decide, by decide⟩ ?_
      refine sx_istore dX12_firstUnlike_28 (by decide) ?_
      refine sx_loop1 (fun (h : sw_H) (k : Int) => (mK (prW [67, 68, 69, 70] [262, 263, 264, 265, 266, 269]) h0 h) ∧ (0 ≤ k)) (fun (h : sw_H) (k : Int) => (30 - k).toNat) (fun (h : sw_H) (k : Int) => sw_E G NH SH (d + 6) mX12_firstUnlike 30 [some (sw_r 224), some (sw_i y1), some (sw_i y2), some (sw_i x2), some (sw_i v_4), some (sw_i k)] [] h (sw_Qi (fun z h' => mK (prW [67, 68, 69, 70] [262, 263, 264, 265, 266, 269]) h0 h'))) ?_ _ _ ?_
      · rintro h12 k_13 ⟨Ih12, j14⟩ ihh12
        try dsimp only at ihh12
        refine sx_iload dX12_firstUnlike_30 rfl ?_
        refine sx_aload_n dX12_firstUnlike_32 rfl ?_
        refine sx_iload_n dX12_firstUnlike_33 rfl ?_
        refine sx_callVi lk_X12_579 cl_12 s_224 (by decide) dX12_firstUnlike_34 (vs := [_]) rfl rfl (Nat.le_of_ble_eq_true rfl) (Nat.le_of_ble_eq_true rfl) rfl (c_X12_leavesOf _ Ih12.1 _ (by first | omega | (rw [Int.tmod_eq_emod_of_nonneg (by omega)]; omega) | (rw [Int.tdiv_eq_ediv_of_nonneg (by omega)]; omega))) (fun x16 h15 ph15 => ?_)
        obtain ⟨rfl, p_x16⟩ := ph15
        rw [Ih12.2 224 36 rfl, Ih12.2 235 _ rfl, Ih12.2 236 _ rfl, ← eN, ← eL, sw_w_id (by omega) (by omega)] at p_x16
        refine sx_icmp_ge (tgt := 60) dX12_firstUnlike_37 (by decide) (fun c17 => ?_) (fun c17 => ?_)
        ·
          refine sx_aload_n dX12_firstUnlike_60 rfl ?_
          refine sx_iload_n dX12_firstUnlike_61 rfl ?_
          refine sx_iload dX12_firstUnlike_62 rfl ?_
          refine sx_iload_n dX12_firstUnlike_64 rfl ?_
          refine sx_callVv lk_X12_601 cl_12 s_224 (by decide) dX12_firstUnlike_65 (vs := [_, _, _]) rfl rfl (Nat.le_of_ble_eq_true rfl) (Nat.le_of_ble_eq_true rfl) rfl (c_X12_runFor _ Ih12.1 _ _ _ (mB_mK Ih12 rfl rfl hJ hB) (by rw [Ih12.2 224 36 rfl, Ih12.2 227 _ rfl]; omega) (by rw [cN_cd (Ih12.cd rfl rfl)]; omega)) (fun h18 ph18 => ?_)
          obtain ⟨Kh18, c_h18⟩ := ph18
          have Ih18 := Ih12.tr Kh18 (prW_sub rfl rfl)
          refine sx_iconst dX12_firstUnlike_68 ⟨by decide, by decide⟩ ?_
          refine sx_istore dX12_firstUnlike_69 (by decide) ?_
          refine sx_loop1 (fun (h : sw_H) (k : Int) => (mK (prW [67, 68, 69, 70] [262, 263, 264, 265, 266, 269]) h0 h) ∧ (0 ≤ k)) (fun (h : sw_H) (k : Int) => (30 - k).toNat) (fun (h : sw_H) (k : Int) => sw_E G NH SH (d + 6) mX12_firstUnlike 71 [some (sw_r 224), some (sw_i y1), some (sw_i y2), some (sw_i x2), some (sw_i v_4), some (sw_i k)] [] h (sw_Qi (fun z h' => mK (prW [67, 68, 69, 70] [262, 263, 264, 265, 266, 269]) h0 h'))) ?_ _ _ ?_
          · rintro h20 k_21 ⟨Ih20, j22⟩ ihh20
            try dsimp only at ihh20
            refine sx_iload dX12_firstUnlike_71 rfl ?_
            refine sx_aload_n dX12_firstUnlike_73 rfl ?_
            refine sx_iload_n dX12_firstUnlike_74 rfl ?_
            refine sx_callVi lk_X12_579 cl_12 s_224 (by decide) dX12_firstUnlike_75 (vs := [_]) rfl rfl (Nat.le_of_ble_eq_true rfl) (Nat.le_of_ble_eq_true rfl) rfl (c_X12_leavesOf _ Ih20.1 _ (by first | omega | (rw [Int.tmod_eq_emod_of_nonneg (by omega)]; omega) | (rw [Int.tdiv_eq_ediv_of_nonneg (by omega)]; omega))) (fun x24 h23 ph23 => ?_)
            obtain ⟨rfl, p_x24⟩ := ph23
            rw [Ih20.2 224 36 rfl, Ih20.2 235 _ rfl, Ih20.2 236 _ rfl, ← eN, ← eL, sw_w_id (by omega) (by omega)] at p_x24
            refine sx_icmp_ge (tgt := 107) dX12_firstUnlike_78 (by decide) (fun c25 => ?_) (fun c25 => ?_)
            ·
              refine sx_iinc dX12_firstUnlike_107 (by decide) rfl ?_
              rw [sw_w_id (by omega) (by omega)]
              refine sx_goto (tgt := 9) dX12_firstUnlike_110 (by decide) ?_
              refine sx_kill 5 ?_
              exact ihh3 _ _ ⟨Ih20, by omega, by omega⟩ (by exact sy_dec (by omega) (by omega))
            ·
              refine sx_aload_n dX12_firstUnlike_81 rfl ?_
              refine sx_getS (k := 76) (t := 269) cl_12 fl_X12_151 dX12_firstUnlike_82 s_224 (by decide) rfl (by decide) ?_
              refine sx_iload dX12_firstUnlike_85 rfl ?_
              refine sx_iaload dX12_firstUnlike_87 s_269 (by decide) (by decide) ⟨by omega, by omega⟩ ?_
              refine sx_aload_n dX12_firstUnlike_88 rfl ?_
              refine sx_getS (k := 62) (t := 262) cl_12 fl_X12_127 dX12_firstUnlike_89 s_224 (by decide) rfl (by decide) ?_
              refine sx_iload dX12_firstUnlike_92 rfl ?_
              refine sx_iaload dX12_firstUnlike_94 s_262 (by decide) (by decide) ⟨by omega, by omega⟩ ?_
              refine sx_icmp_eq (tgt := 101) dX12_firstUnlike_95 (by decide) (fun c26 => ?_) (fun c26 => ?_)
              ·
                refine sx_iinc dX12_firstUnlike_101 (by decide) rfl ?_
                rw [sw_w_id (by omega) (by omega)]
                refine sx_goto (tgt := 71) dX12_firstUnlike_104 (by decide) ?_
                exact ihh20 _ _ ⟨Ih20, by omega⟩ (by exact sy_dec (by omega) (by omega))
              ·
                refine sx_iload dX12_firstUnlike_98 rfl ?_
                refine sx_ireturn dX12_firstUnlike_100 ?_
                exact ⟨_, rfl, Ih20⟩
          · exact ⟨Ih18, by omega⟩
        ·
          refine sx_aload_n dX12_firstUnlike_40 rfl ?_
          refine sx_getS (k := 76) (t := 269) cl_12 fl_X12_151 dX12_firstUnlike_41 s_224 (by decide) rfl (by decide) ?_
          refine sx_iload dX12_firstUnlike_44 rfl ?_
          refine sx_aload_n dX12_firstUnlike_46 rfl ?_
          refine sx_getS (k := 62) (t := 262) cl_12 fl_X12_127 dX12_firstUnlike_47 s_224 (by decide) rfl (by decide) ?_
          refine sx_iload dX12_firstUnlike_50 rfl ?_
          refine sx_iaload dX12_firstUnlike_52 s_262 (by decide) (by decide) ⟨by omega, by omega⟩ ?_
          refine sy_iastore dX12_firstUnlike_53 s_269 (by decide) (by decide) ⟨by omega, by omega⟩ (fun h27 eh27 => ?_)
          have Ih27 := Ih12.up eh27 trivial rfl
          have th27_224_67 := eh27.2 (224) 67 (by omega)
          refine sx_iinc dX12_firstUnlike_54 (by decide) rfl ?_
          rw [sw_w_id (by omega) (by omega)]
          refine sx_goto (tgt := 30) dX12_firstUnlike_57 (by decide) ?_
          exact ihh12 _ _ ⟨Ih27, by omega⟩ (by exact sy_dec (by omega) (by omega))
      · exact ⟨Ih10, by omega⟩
  · exact ⟨hI, by omega, by omega⟩
set_option maxRecDepth 20000 in
set_option maxHeartbeats 4000000 in
theorem c_X12_alike {G : sw_G} (d : Nat) {h0 : sw_H} (hJ : mI h0) (y1 y2 : Int) (hB : mB h0)  : sw_E G NH SH (d + 7) mX12_alike 0 [some (sw_r 224), some (sw_i y1), some (sw_i y2)] [] h0 (sw_Qi (fun z h' => mK (prW [67, 68, 69, 70] [262, 263, 264, 265, 266, 269]) h0 h' ∧ (mB h') ∧ (h' 224 100 = h0 224 100))) := by
  have hI : mK (prW [67, 68, 69, 70] [262, 263, 264, 265, 266, 269]) h0 h0 := mK.refl hJ
  refine sx_aload_n dX12_alike_0 rfl ?_
  refine sx_iload_n dX12_alike_1 rfl ?_
  refine sx_callVz lk_X12_570 cl_12 s_224 (by decide) dX12_alike_2 (vs := [_]) rfl rfl (Nat.le_of_ble_eq_true rfl) (Nat.le_of_ble_eq_true rfl) rfl (c_X12_isOne _ hI.1 _) (fun x2 h1 zx2 ph1 => ?_)
  obtain ⟨rfl, p_x2⟩ := ph1
  refine sx_if_eq (tgt := 16) dX12_alike_5 (by decide) (fun c3 => ?_) (fun c3 => ?_)
  ·
    replace p_x2 := mt p_x2.mpr (show ¬ (x2 = 1) by rw [c3]; decide)
    clear zx2
    refine sx_iconst dX12_alike_16 ⟨by decide, by decide⟩ ?_
    refine sx_goto (tgt := 43) dX12_alike_17 (by decide) ?_
    refine sx_ireturn dX12_alike_43 ?_
    exact ⟨_, rfl, ⟨hI, mB_mK hI rfl rfl hJ hB, hI.2 224 100 rfl⟩⟩
  ·
    have vx2 : x2 = 1 := by rcases zx2 with q | q; (exact absurd q c3); exact q
    replace p_x2 := p_x2.mp vx2
    clear zx2
    obtain ⟨wr1, -, -, -⟩ := mC_w hB.1 hJ (w := y1) (by omega) (by omega)
    refine sx_aload_n dX12_alike_8 rfl ?_
    refine sx_iload_n dX12_alike_9 rfl ?_
    refine sx_callVz lk_X12_570 cl_12 s_224 (by decide) dX12_alike_10 (vs := [_]) rfl rfl (Nat.le_of_ble_eq_true rfl) (Nat.le_of_ble_eq_true rfl) rfl (c_X12_isOne _ hI.1 _) (fun x5 h4 zx5 ph4 => ?_)
    obtain ⟨rfl, p_x5⟩ := ph4
    refine sx_if_ne (tgt := 20) dX12_alike_13 (by decide) (fun c6 => ?_) (fun c6 => ?_)
    ·
      have vx5 : x5 = 1 := by rcases zx5 with q | q; (exact absurd q c6); exact q
      replace p_x5 := p_x5.mp vx5
      clear zx5
      obtain ⟨wr2, -, -, -⟩ := mC_w hB.1 hJ (w := y2) (by omega) (by omega)
      refine sx_aload_n dX12_alike_20 rfl ?_
      refine sx_iload_n dX12_alike_21 rfl ?_
      refine sx_iload_n dX12_alike_22 rfl ?_
      refine sx_callVz lk_X12_604 cl_12 s_224 (by decide) dX12_alike_23 (vs := [_, _]) rfl rfl (Nat.le_of_ble_eq_true rfl) (Nat.le_of_ble_eq_true rfl) rfl (c_X12_areLike _ hI.1 _ _ (hB) (by omega) (by omega)) (fun x8 h7 zx8 ph7 => ?_)
      obtain ⟨rfl, p_x8⟩ := ph7
      refine sx_if_eq (tgt := 42) dX12_alike_26 (by decide) (fun c9 => ?_) (fun c9 => ?_)
      ·
        clear zx8
        refine sx_iconst dX12_alike_42 ⟨by decide, by decide⟩ ?_
        refine sx_ireturn dX12_alike_43 ?_
        exact ⟨_, rfl, ⟨hI, mB_mK hI rfl rfl hJ hB, hI.2 224 100 rfl⟩⟩
      ·
        have vx8 : x8 = 1 := by rcases zx8 with q | q; (exact absurd q c9); exact q
        clear zx8
        refine sx_aload_n dX12_alike_29 rfl ?_
        refine sx_iload_n dX12_alike_30 rfl ?_
        refine sx_iload_n dX12_alike_31 rfl ?_
        refine sx_callVi lk_X12_607 cl_12 s_224 (by decide) dX12_alike_32 (vs := [_, _]) rfl rfl (Nat.le_of_ble_eq_true rfl) (Nat.le_of_ble_eq_true rfl) rfl (c_X12_firstUnlike _ hI.1 _ _ (hB) (by omega) (by omega) (by omega)) (fun x11 h10 ph10 => ?_)
        have Kh10 := ph10
        have Ih10 := hI.tr Kh10 (prW_sub rfl rfl)
        have th10_224_71 := Kh10.2 224 71 rfl
        have th10_224_73 := Kh10.2 224 73 rfl
        have th10_224_74 := Kh10.2 224 74 rfl
        have th10_224_85 := Kh10.2 224 85 rfl
        have th10_224_100 := Kh10.2 224 100 rfl
        refine sx_if_ge (tgt := 42) dX12_alike_35 (by decide) (fun c12 => ?_) (fun c12 => ?_)
        ·
          refine sx_iconst dX12_alike_42 ⟨by decide, by decide⟩ ?_
          refine sx_ireturn dX12_alike_43 ?_
          exact ⟨_, rfl, ⟨Ih10, mB_mK Ih10 rfl rfl hJ hB, Ih10.2 224 100 rfl⟩⟩
        ·
          refine sx_iconst dX12_alike_38 ⟨by decide, by decide⟩ ?_
          refine sx_goto (tgt := 43) dX12_alike_39 (by decide) ?_
          refine sx_ireturn dX12_alike_43 ?_
          exact ⟨_, rfl, ⟨Ih10, mB_mK Ih10 rfl rfl hJ hB, Ih10.2 224 100 rfl⟩⟩
    ·
      replace p_x5 := mt p_x5.mpr (show ¬ (x5 = 1) by rw [c6]; decide)
      clear zx5
      refine sx_iconst dX12_alike_16 ⟨by decide, by decide⟩ ?_
      refine sx_goto (tgt := 43) dX12_alike_17 (by decide) ?_
      refine sx_ireturn dX12_alike_43 ?_
      exact ⟨_, rfl, ⟨hI, mB_mK hI rfl rfl hJ hB, hI.2 224 100 rfl⟩⟩
set_option maxRecDepth 20000 in
set_option maxHeartbeats 4000000 in
theorem c_X12_differs {G : sw_G} (d : Nat) {h0 : sw_H} (hJ : mI h0) (y1 y2 : Int) (hB : mB h0)  : sw_E G NH SH (d + 7) mX12_differs 0 [some (sw_r 224), some (sw_i y1), some (sw_i y2), none] [] h0 (sw_Qi (fun z h' => mK (prW [67, 68, 69, 70] [262, 263, 264, 265, 266, 269]) h0 h' ∧ (mB h') ∧ (h' 224 100 = h0 224 100))) := by
  have hI : mK (prW [67, 68, 69, 70] [262, 263, 264, 265, 266, 269]) h0 h0 := mK.refl hJ
  refine sx_aload_n dX12_differs_0 rfl ?_
  refine sx_iload_n dX12_differs_1 rfl ?_
  refine sx_callVz lk_X12_570 cl_12 s_224 (by decide) dX12_differs_2 (vs := [_]) rfl rfl (Nat.le_of_ble_eq_true rfl) (Nat.le_of_ble_eq_true rfl) rfl (c_X12_isOne _ hI.1 _) (fun x2 h1 zx2 ph1 => ?_)
  obtain ⟨rfl, p_x2⟩ := ph1
  refine sx_if_eq (tgt := 25) dX12_differs_5 (by decide) (fun c3 => ?_) (fun c3 => ?_)
  ·
    replace p_x2 := mt p_x2.mpr (show ¬ (x2 = 1) by rw [c3]; decide)
    clear zx2
    refine sx_iconst dX12_differs_25 ⟨by decide, by decide⟩ ?_
    refine sx_ireturn dX12_differs_26 ?_
    exact ⟨_, rfl, ⟨hI, mB_mK hI rfl rfl hJ hB, hI.2 224 100 rfl⟩⟩
  ·
    have vx2 : x2 = 1 := by rcases zx2 with q | q; (exact absurd q c3); exact q
    replace p_x2 := p_x2.mp vx2
    clear zx2
    obtain ⟨wr1, -, -, -⟩ := mC_w hB.1 hJ (w := y1) (by omega) (by omega)
    refine sx_aload_n dX12_differs_8 rfl ?_
    refine sx_iload_n dX12_differs_9 rfl ?_
    refine sx_callVz lk_X12_570 cl_12 s_224 (by decide) dX12_differs_10 (vs := [_]) rfl rfl (Nat.le_of_ble_eq_true rfl) (Nat.le_of_ble_eq_true rfl) rfl (c_X12_isOne _ hI.1 _) (fun x5 h4 zx5 ph4 => ?_)
    obtain ⟨rfl, p_x5⟩ := ph4
    refine sx_if_eq (tgt := 25) dX12_differs_13 (by decide) (fun c6 => ?_) (fun c6 => ?_)
    ·
      replace p_x5 := mt p_x5.mpr (show ¬ (x5 = 1) by rw [c6]; decide)
      clear zx5
      refine sx_iconst dX12_differs_25 ⟨by decide, by decide⟩ ?_
      refine sx_ireturn dX12_differs_26 ?_
      exact ⟨_, rfl, ⟨hI, mB_mK hI rfl rfl hJ hB, hI.2 224 100 rfl⟩⟩
    ·
      have vx5 : x5 = 1 := by rcases zx5 with q | q; (exact absurd q c6); exact q
      replace p_x5 := p_x5.mp vx5
      clear zx5
      obtain ⟨wr2, -, -, -⟩ := mC_w hB.1 hJ (w := y2) (by omega) (by omega)
      refine sx_aload_n dX12_differs_16 rfl ?_
      refine sx_iload_n dX12_differs_17 rfl ?_
      refine sx_iload_n dX12_differs_18 rfl ?_
      refine sx_callVz lk_X12_604 cl_12 s_224 (by decide) dX12_differs_19 (vs := [_, _]) rfl rfl (Nat.le_of_ble_eq_true rfl) (Nat.le_of_ble_eq_true rfl) rfl (c_X12_areLike _ hI.1 _ _ (hB) (by omega) (by omega)) (fun x8 h7 zx8 ph7 => ?_)
      obtain ⟨rfl, p_x8⟩ := ph7
      refine sx_if_ne (tgt := 27) dX12_differs_22 (by decide) (fun c9 => ?_) (fun c9 => ?_)
      ·
        have vx8 : x8 = 1 := by rcases zx8 with q | q; (exact absurd q c9); exact q
        clear zx8
        refine sx_aload_n dX12_differs_27 rfl ?_
        refine sx_iload_n dX12_differs_28 rfl ?_
        refine sx_iload_n dX12_differs_29 rfl ?_
        refine sx_callVi lk_X12_607 cl_12 s_224 (by decide) dX12_differs_30 (vs := [_, _]) rfl rfl (Nat.le_of_ble_eq_true rfl) (Nat.le_of_ble_eq_true rfl) rfl (c_X12_firstUnlike _ hI.1 _ _ (hB) (by omega) (by omega) (by omega)) (fun x11 h10 ph10 => ?_)
        have Kh10 := ph10
        have Ih10 := hI.tr Kh10 (prW_sub rfl rfl)
        have th10_224_71 := Kh10.2 224 71 rfl
        have th10_224_73 := Kh10.2 224 73 rfl
        have th10_224_74 := Kh10.2 224 74 rfl
        have th10_224_85 := Kh10.2 224 85 rfl
        have th10_224_100 := Kh10.2 224 100 rfl
        refine sx_istore_n dX12_differs_33 (by decide) ?_
        refine sx_iload_n dX12_differs_34 rfl ?_
        refine sx_if_ge (tgt := 42) dX12_differs_35 (by decide) (fun c12 => ?_) (fun c12 => ?_)
        ·
          refine sx_iload_n dX12_differs_42 rfl ?_
          refine sx_bipush dX12_differs_43 ⟨by decide, by decide, by decide⟩ ?_
          refine sx_idiv dX12_differs_45 (by decide) ?_
          refine sx_bipush dX12_differs_46 ⟨by decide, by decide, by decide⟩ ?_
          refine sx_imul dX12_differs_48 ?_
          refine sx_iload_n dX12_differs_49 rfl ?_
          refine sx_iconst dX12_differs_50 ⟨by decide, by decide⟩ ?_
          refine sx_idiv dX12_differs_51 (by decide) ?_
          refine sx_iconst dX12_differs_52 ⟨by decide, by decide⟩ ?_
          refine sx_irem dX12_differs_53 (by decide) ?_
          refine sx_bipush dX12_differs_54 ⟨by decide, by decide, by decide⟩ ?_
          refine sx_imul dX12_differs_56 ?_
          refine sx_iadd dX12_differs_57 ?_
          refine sx_iload_n dX12_differs_58 rfl ?_
          refine sx_iconst dX12_differs_59 ⟨by decide, by decide⟩ ?_
          refine sx_irem dX12_differs_60 (by decide) ?_
          refine sx_iadd dX12_differs_61 ?_
          refine sx_ireturn dX12_differs_62 ?_
          exact ⟨_, rfl, ⟨Ih10, mB_mK Ih10 rfl rfl hJ hB, Ih10.2 224 100 rfl⟩⟩
        ·
          refine sx_iconst dX12_differs_38 ⟨by decide, by decide⟩ ?_
          refine sx_goto (tgt := 62) dX12_differs_39 (by decide) ?_
          refine sx_ireturn dX12_differs_62 ?_
          exact ⟨_, rfl, ⟨Ih10, mB_mK Ih10 rfl rfl hJ hB, Ih10.2 224 100 rfl⟩⟩
      ·
        clear zx8
        refine sx_iconst dX12_differs_25 ⟨by decide, by decide⟩ ?_
        refine sx_ireturn dX12_differs_26 ?_
        exact ⟨_, rfl, ⟨hI, mB_mK hI rfl rfl hJ hB, hI.2 224 100 rfl⟩⟩

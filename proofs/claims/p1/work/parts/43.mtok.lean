set_option maxRecDepth 20000 in
set_option maxHeartbeats 4000000 in
theorem c_X12_sign {G : sw_G} (d : Nat) {h0 : sw_H} (hJ : mI h0) (y1 : Int) (hk : 0 ≤ y1)  : sw_E G NH SH (d) mX12_sign 0 [some (sw_r 224), some (sw_i y1)] [] h0 (sw_Qi (fun z h' => h0 = h' ∧ (0 ≤ z ∧ z ≤ 255 ∧ (h0 224 3 ≤ y1 → z = 0) ∧ z = sgn h0 y1))) := by
  have hI : mK (prW [] []) h0 h0 := mK.refl hJ
  refine sx_iload_n dX12_sign_0 rfl ?_
  refine sx_aload_n dX12_sign_1 rfl ?_
  refine sx_getI (k := 3) cl_12 fl_X12_224 dX12_sign_2 s_224 (by decide) rfl (by decide) ?_
  have r1 : (0 : Int) ≤ h0 224 3 ∧ h0 224 3 ≤ 1600 := hI.1 224 3
  refine sx_icmp_ge (tgt := 21) dX12_sign_5 (by decide) (fun c2 => ?_) (fun c2 => ?_)
  ·
    refine sx_iconst dX12_sign_21 ⟨by decide, by decide⟩ ?_
    refine sx_ireturn dX12_sign_22 ?_
    exact ⟨_, rfl, ⟨rfl, by first | exact ⟨by omega, by omega, fun q => by omega, by unfold sgn; rw [if_pos (by omega)]⟩ | exact ⟨(iand_rng _).1, (iand_rng _).2, fun q => by omega, by unfold sgn; rw [if_neg (by omega)]⟩⟩⟩
  ·
    refine sx_aload_n dX12_sign_8 rfl ?_
    refine sx_getS (k := 1) (t := 226) cl_12 fl_X12_13 dX12_sign_9 s_224 (by decide) rfl (by decide) ?_
    refine sx_iload_n dX12_sign_12 rfl ?_
    refine sx_baload dX12_sign_13 s_226 (by decide) (by decide) ⟨by first | omega | (rw [Int.tmod_eq_emod_of_nonneg (by omega)]; omega) | (rw [Int.tdiv_eq_ediv_of_nonneg (by omega)]; omega), by first | omega | (rw [Int.tmod_eq_emod_of_nonneg (by omega)]; omega) | (rw [Int.tdiv_eq_ediv_of_nonneg (by omega)]; omega)⟩ (fun b3 b4 => ?_)
    refine sx_sipush dX12_sign_14 ⟨by decide, by decide, by decide⟩ ?_
    refine sx_iand dX12_sign_17 ?_
    refine sx_goto (tgt := 22) dX12_sign_18 (by decide) ?_
    refine sx_ireturn dX12_sign_22 ?_
    exact ⟨_, rfl, ⟨rfl, by first | exact ⟨by omega, by omega, fun q => by omega, by unfold sgn; rw [if_pos (by omega)]⟩ | exact ⟨(iand_rng _).1, (iand_rng _).2, fun q => by omega, by unfold sgn; rw [if_neg (by omega)]⟩⟩⟩
set_option maxRecDepth 20000 in
set_option maxHeartbeats 4000000 in
theorem c_X12_isGood {G : sw_G} (d : Nat) {h0 : sw_H} (hJ : mI h0)  : sw_E G NH SH (d) mX12_isGood 0 [some (sw_r 224)] [] h0 (sw_Qz (fun z h' => h0 = h' ∧ ((z = 1 ↔ h0 224 4 = 0)))) := by
  have hI : mK (prW [] []) h0 h0 := mK.refl hJ
  refine sx_aload_n dX12_isGood_0 rfl ?_
  refine sx_getI (k := 4) cl_12 fl_X12_227 dX12_isGood_1 s_224 (by decide) rfl (by decide) ?_
  have r1 : (0 : Int) ≤ h0 224 4 ∧ h0 224 4 ≤ 7 := hI.1 224 4
  refine sx_if_ne (tgt := 11) dX12_isGood_4 (by decide) (fun c2 => ?_) (fun c2 => ?_)
  ·
    refine sx_iconst dX12_isGood_11 ⟨by decide, by decide⟩ ?_
    refine sx_ireturn dX12_isGood_12 ?_
    exact ⟨_, rfl, by omega, ⟨rfl, by omega⟩⟩
  ·
    refine sx_iconst dX12_isGood_7 ⟨by decide, by decide⟩ ?_
    refine sx_goto (tgt := 12) dX12_isGood_8 (by decide) ?_
    refine sx_ireturn dX12_isGood_12 ?_
    exact ⟨_, rfl, by omega, ⟨rfl, by omega⟩⟩
set_option maxRecDepth 20000 in
set_option maxHeartbeats 4000000 in
theorem c_X12_fails {G : sw_G} (d : Nat) {h0 : sw_H} (hJ : mI h0) (y1 y2 : Int) (hk : 1 ≤ y1 ∧ y1 ≤ 7)  : sw_E G NH SH (d) mX12_fails 0 [some (sw_r 224), some (sw_i y1), some (sw_i y2)] [] h0 (sw_Qv (fun h' => mK (prW [4, 5] []) h0 h' ∧ (1 ≤ h' 224 4))) := by
  have hI : mK (prW [4, 5] []) h0 h0 := mK.refl hJ
  refine sx_aload_n dX12_fails_0 rfl ?_
  refine sx_getI (k := 4) cl_12 fl_X12_227 dX12_fails_1 s_224 (by decide) rfl (by decide) ?_
  have r1 : (0 : Int) ≤ h0 224 4 ∧ h0 224 4 ≤ 7 := hI.1 224 4
  refine sx_if_le (tgt := 8) dX12_fails_4 (by decide) (fun c2 => ?_) (fun c2 => ?_)
  ·
    refine sx_aload_n dX12_fails_8 rfl ?_
    refine sx_iload_n dX12_fails_9 rfl ?_
    refine sy_putI (k := 4) cl_12 fl_X12_227 dX12_fails_10 s_224 (by decide) rfl (by decide) rfl rfl (fun h3 eh3 => ?_)
    have Ih3 := hI.up eh3 (show (0 : Int) ≤ _ ∧ _ ≤ (7 : Int) from ⟨by first | omega | (rw [Int.tmod_eq_emod_of_nonneg (by omega)]; omega) | (rw [Int.tdiv_eq_ediv_of_nonneg (by omega)]; omega), by first | omega | (rw [Int.tmod_eq_emod_of_nonneg (by omega)]; omega) | (rw [Int.tdiv_eq_ediv_of_nonneg (by omega)]; omega)⟩) rfl
    have th3_224_4 := eh3.1
    refine sx_aload_n dX12_fails_13 rfl ?_
    refine sx_iload_n dX12_fails_14 rfl ?_
    refine sy_putI (k := 5) cl_12 fl_X12_16 dX12_fails_15 s_224 (by decide) rfl (by decide) rfl rfl (fun h4 eh4 => ?_)
    have Ih4 := Ih3.up eh4 trivial rfl
    have th4_224_4 := eh4.2 (224) 4 (by decide)
    refine sx_ret dX12_fails_18 ?_
    exact ⟨rfl, ⟨Ih4, by omega⟩⟩
  ·
    refine sx_ret dX12_fails_7 ?_
    exact ⟨rfl, ⟨hI, by omega⟩⟩
set_option maxRecDepth 20000 in
set_option maxHeartbeats 4000000 in
theorem c_X12_isSignHere {G : sw_G} (d : Nat) {h0 : sw_H} (hJ : mI h0) (y1 : Int)  : sw_E G NH SH (d + 1) mX12_isSignHere 0 [some (sw_r 224), some (sw_i y1)] [] h0 (sw_Qz (fun z h' => h0 = h' ∧ ((z = 1 → h0 224 8 = 5)))) := by
  have hI : mK (prW [] []) h0 h0 := mK.refl hJ
  refine sx_aload_n dX12_isSignHere_0 rfl ?_
  refine sx_getI (k := 8) cl_12 fl_X12_302 dX12_isSignHere_1 s_224 (by decide) rfl (by decide) ?_
  have r1 : (0 : Int) ≤ h0 224 8 ∧ h0 224 8 ≤ 5 := hI.1 224 8
  refine sx_iconst dX12_isSignHere_4 ⟨by decide, by decide⟩ ?_
  refine sx_icmp_ne (tgt := 24) dX12_isSignHere_5 (by decide) (fun c2 => ?_) (fun c2 => ?_)
  ·
    refine sx_iconst dX12_isSignHere_24 ⟨by decide, by decide⟩ ?_
    refine sx_ireturn dX12_isSignHere_25 ?_
    exact ⟨_, rfl, by omega, ⟨rfl, by omega⟩⟩
  ·
    refine sx_aload_n dX12_isSignHere_8 rfl ?_
    refine sx_aload_n dX12_isSignHere_9 rfl ?_
    refine sx_getI (k := 6) cl_12 fl_X12_295 dX12_isSignHere_10 s_224 (by decide) rfl (by decide) ?_
    have r3 : (0 : Int) ≤ h0 224 6 ∧ h0 224 6 ≤ 1700 := hI.1 224 6
    refine sx_callVi lk_X12_298 cl_12 s_224 (by decide) dX12_isSignHere_13 (vs := [_]) rfl rfl (Nat.le_of_ble_eq_true rfl) (Nat.le_of_ble_eq_true rfl) rfl (c_X12_sign _ hI.1 _ (by omega)) (fun x5 h4 ph4 => ?_)
    obtain ⟨rfl, p_x5⟩ := ph4
    refine sx_iload_n dX12_isSignHere_16 rfl ?_
    refine sx_icmp_ne (tgt := 24) dX12_isSignHere_17 (by decide) (fun c6 => ?_) (fun c6 => ?_)
    ·
      refine sx_iconst dX12_isSignHere_24 ⟨by decide, by decide⟩ ?_
      refine sx_ireturn dX12_isSignHere_25 ?_
      exact ⟨_, rfl, by omega, ⟨rfl, by omega⟩⟩
    ·
      refine sx_iconst dX12_isSignHere_20 ⟨by decide, by decide⟩ ?_
      refine sx_goto (tgt := 25) dX12_isSignHere_21 (by decide) ?_
      refine sx_ireturn dX12_isSignHere_25 ?_
      exact ⟨_, rfl, by omega, ⟨rfl, by omega⟩⟩
set_option maxRecDepth 20000 in
set_option maxHeartbeats 4000000 in
theorem c_X12_isWord {G : sw_G} (d : Nat) {h0 : sw_H} (hJ : mI h0) (y1 : Int)  : sw_E G NH SH (d) mX12_isWord 0 [some (sw_r 224), some (sw_l y1), none] [] h0 (sw_Qz (fun z h' => h0 = h' ∧ ((z = 1 → h0 224 8 = 3)))) := by
  have hI : mK (prW [] []) h0 h0 := mK.refl hJ
  refine sx_aload_n dX12_isWord_0 rfl ?_
  refine sx_getI (k := 8) cl_12 fl_X12_302 dX12_isWord_1 s_224 (by decide) rfl (by decide) ?_
  have r1 : (0 : Int) ≤ h0 224 8 ∧ h0 224 8 ≤ 5 := hI.1 224 8
  refine sx_iconst dX12_isWord_4 ⟨by decide, by decide⟩ ?_
  refine sx_icmp_ne (tgt := 21) dX12_isWord_5 (by decide) (fun c2 => ?_) (fun c2 => ?_)
  ·
    refine sx_iconst dX12_isWord_21 ⟨by decide, by decide⟩ ?_
    refine sx_ireturn dX12_isWord_22 ?_
    exact ⟨_, rfl, by omega, ⟨rfl, by omega⟩⟩
  ·
    refine sx_aload_n dX12_isWord_8 rfl ?_
    refine sx_getL (k := 10) cl_12 fl_X12_309 dX12_isWord_9 s_224 (by decide) rfl (by decide) ?_
    refine sx_lload_n dX12_isWord_12 rfl ?_
    refine sx_lcmp dX12_isWord_13 ?_
    refine sx_if_ne (tgt := 21) dX12_isWord_14 (by decide) (fun c3 => ?_) (fun c3 => ?_)
    ·
      refine sx_iconst dX12_isWord_21 ⟨by decide, by decide⟩ ?_
      refine sx_ireturn dX12_isWord_22 ?_
      exact ⟨_, rfl, by omega, ⟨rfl, by omega⟩⟩
    ·
      refine sx_iconst dX12_isWord_17 ⟨by decide, by decide⟩ ?_
      refine sx_goto (tgt := 22) dX12_isWord_18 (by decide) ?_
      refine sx_ireturn dX12_isWord_22 ?_
      exact ⟨_, rfl, by omega, ⟨rfl, by omega⟩⟩
set_option maxRecDepth 20000 in
set_option maxHeartbeats 4000000 in
theorem c_X12_misplaced {G : sw_G} (d : Nat) {h0 : sw_H} (hJ : mI h0)  : sw_E G NH SH (d + 1) mX12_misplaced 0 [some (sw_r 224)] [] h0 (sw_Qv (fun h' => mK (prW [4, 5] []) h0 h' ∧ (1 ≤ h' 224 4))) := by
  have hI : mK (prW [4, 5] []) h0 h0 := mK.refl hJ
  refine sx_aload_n dX12_misplaced_0 rfl ?_
  refine sx_aload_n dX12_misplaced_1 rfl ?_
  refine sx_getI (k := 8) cl_12 fl_X12_302 dX12_misplaced_2 s_224 (by decide) rfl (by decide) ?_
  have r1 : (0 : Int) ≤ h0 224 8 ∧ h0 224 8 ≤ 5 := hI.1 224 8
  refine sx_iconst dX12_misplaced_5 ⟨by decide, by decide⟩ ?_
  refine sx_icmp_ne (tgt := 13) dX12_misplaced_6 (by decide) (fun c2 => ?_) (fun c2 => ?_)
  ·
    refine sx_iconst dX12_misplaced_13 ⟨by decide, by decide⟩ ?_
    refine sx_aload_n dX12_misplaced_14 rfl ?_
    refine sx_getI (k := 6) cl_12 fl_X12_295 dX12_misplaced_15 s_224 (by decide) rfl (by decide) ?_
    have r3 : (0 : Int) ≤ h0 224 6 ∧ h0 224 6 ≤ 1700 := hI.1 224 6
    refine sx_callVv lk_X12_326 cl_12 s_224 (by decide) dX12_misplaced_18 (vs := [_, _]) rfl rfl (Nat.le_of_ble_eq_true rfl) (Nat.le_of_ble_eq_true rfl) rfl (c_X12_fails _ hI.1 _ _ (by omega)) (fun h4 ph4 => ?_)
    obtain ⟨Kh4, g_h4⟩ := ph4
    have Ih4 := hI.tr Kh4 (prW_sub rfl rfl)
    have th4_224_8 := Kh4.2 224 8 rfl
    have th4_224_6 := Kh4.2 224 6 rfl
    refine sx_ret dX12_misplaced_21 ?_
    exact ⟨rfl, ⟨Ih4, by omega⟩⟩
  ·
    refine sx_iconst dX12_misplaced_9 ⟨by decide, by decide⟩ ?_
    refine sx_goto (tgt := 14) dX12_misplaced_10 (by decide) ?_
    refine sx_aload_n dX12_misplaced_14 rfl ?_
    refine sx_getI (k := 6) cl_12 fl_X12_295 dX12_misplaced_15 s_224 (by decide) rfl (by decide) ?_
    have r6 : (0 : Int) ≤ h0 224 6 ∧ h0 224 6 ≤ 1700 := hI.1 224 6
    refine sx_callVv lk_X12_326 cl_12 s_224 (by decide) dX12_misplaced_18 (vs := [_, _]) rfl rfl (Nat.le_of_ble_eq_true rfl) (Nat.le_of_ble_eq_true rfl) rfl (c_X12_fails _ hI.1 _ _ (by omega)) (fun h7 ph7 => ?_)
    obtain ⟨Kh7, g_h7⟩ := ph7
    have Ih7 := hI.tr Kh7 (prW_sub rfl rfl)
    have th7_224_8 := Kh7.2 224 8 rfl
    have th7_224_6 := Kh7.2 224 6 rfl
    refine sx_ret dX12_misplaced_21 ?_
    exact ⟨rfl, ⟨Ih7, by omega⟩⟩
set_option maxRecDepth 20000 in
set_option maxHeartbeats 4000000 in
theorem c_X12_goOn {G : sw_G} (d : Nat) {h0 : sw_H} (hJ : mI h0) (ht : h0 224 7 ≤ h0 224 3)  : sw_E G NH SH (d + 2) mX12_goOn 0 [some (sw_r 224), none, none] [] h0 (sw_Qv (fun h' => mK (prW [6, 7, 8, 9, 10] []) h0 h' ∧ (h' 224 7 ≤ h' 224 3 ∧ (h' 224 8 = 0 → h' 224 7 = h' 224 3)) ∧ ((h' 224 8 = 0 ∨ h0 224 7 < h' 224 7)) ∧ (h0 224 7 ≤ h' 224 7))) := by
  have hI : mK (prW [6, 7, 8, 9, 10] []) h0 h0 := mK.refl hJ
  refine sx_aload_n dX12_goOn_0 rfl ?_
  refine sx_aload_n dX12_goOn_1 rfl ?_
  refine sx_getI (k := 7) cl_12 fl_X12_292 dX12_goOn_2 s_224 (by decide) rfl (by decide) ?_
  have r1 : (0 : Int) ≤ h0 224 7 ∧ h0 224 7 ≤ 1700 := hI.1 224 7
  refine sy_putI (k := 6) cl_12 fl_X12_295 dX12_goOn_5 s_224 (by decide) rfl (by decide) rfl rfl (fun h2 eh2 => ?_)
  have Ih2 := hI.up eh2 (show (0 : Int) ≤ _ ∧ _ ≤ (1700 : Int) from ⟨by omega, by omega⟩) rfl
  have th2_224_3 := eh2.2 (224) 3 (by decide)
  have th2_224_6 := eh2.1
  have th2_224_7 := eh2.2 (224) 7 (by decide)
  have th2_224_8 := eh2.2 (224) 8 (by decide)
  have th2_224_9 := eh2.2 (224) 9 (by decide)
  refine sx_loop0 (fun (h : sw_H) => (mK (prW [6, 7, 8, 9, 10] []) h0 h) ∧ (h 224 7 = h0 224 7) ∧ (h 224 3 = h0 224 3) ∧ (h0 224 7 ≤ h 224 6) ∧ (h 224 6 ≤ h 224 3)) (fun (h : sw_H) => (1700 - h 224 6).toNat) (fun (h : sw_H) => sw_E G NH SH (d + 2) mX12_goOn 8 [some (sw_r 224), none, none] [] h (sw_Qv (fun h' => mK (prW [6, 7, 8, 9, 10] []) h0 h' ∧ (h' 224 7 ≤ h' 224 3 ∧ (h' 224 8 = 0 → h' 224 7 = h' 224 3)) ∧ ((h' 224 8 = 0 ∨ h0 224 7 < h' 224 7)) ∧ (h0 224 7 ≤ h' 224 7)))) ?_ _ ?_
  · rintro h3 ⟨Ih3, j4, j5, j6, j7⟩ ihh3
    try dsimp only at ihh3
    refine sx_aload_n dX12_goOn_8 rfl ?_
    refine sx_getI (k := 6) cl_12 fl_X12_295 dX12_goOn_9 s_224 (by decide) rfl (by decide) ?_
    have r8 : (0 : Int) ≤ h3 224 6 ∧ h3 224 6 ≤ 1700 := Ih3.1 224 6
    refine sx_aload_n dX12_goOn_12 rfl ?_
    refine sx_getI (k := 3) cl_12 fl_X12_224 dX12_goOn_13 s_224 (by decide) rfl (by decide) ?_
    have r9 : (0 : Int) ≤ h3 224 3 ∧ h3 224 3 ≤ 1600 := Ih3.1 224 3
    refine sx_icmp_ge (tgt := 58) dX12_goOn_16 (by decide) (fun c10 => ?_) (fun c10 => ?_)
    ·
      refine sx_aload_n dX12_goOn_58 rfl ?_
      refine sx_aload_n dX12_goOn_59 rfl ?_
      refine sx_getI (k := 6) cl_12 fl_X12_295 dX12_goOn_60 s_224 (by decide) rfl (by decide) ?_
      have r11 : (0 : Int) ≤ h3 224 6 ∧ h3 224 6 ≤ 1700 := Ih3.1 224 6
      refine sx_callVi lk_X12_298 cl_12 s_224 (by decide) dX12_goOn_63 (vs := [_]) rfl rfl (Nat.le_of_ble_eq_true rfl) (Nat.le_of_ble_eq_true rfl) rfl (c_X12_sign _ Ih3.1 _ (by omega)) (fun x13 h12 ph12 => ?_)
      obtain ⟨rfl, p_x13⟩ := ph12
      have sgc := p_x13.2.2.2
      refine sx_istore_n dX12_goOn_66 (by decide) ?_
      refine sx_aload_n dX12_goOn_67 rfl ?_
      refine sx_aload_n dX12_goOn_68 rfl ?_
      refine sx_getI (k := 6) cl_12 fl_X12_295 dX12_goOn_69 s_224 (by decide) rfl (by decide) ?_
      have r14 : (0 : Int) ≤ h3 224 6 ∧ h3 224 6 ≤ 1700 := Ih3.1 224 6
      refine sx_iconst dX12_goOn_72 ⟨by decide, by decide⟩ ?_
      refine sx_iadd dX12_goOn_73 ?_
      refine sy_topw (by omega) ?_
      refine sy_putI (k := 7) cl_12 fl_X12_292 dX12_goOn_74 s_224 (by decide) rfl (by decide) rfl rfl (fun h15 eh15 => ?_)
      have Ih15 := Ih3.up eh15 (show (0 : Int) ≤ _ ∧ _ ≤ (1700 : Int) from ⟨by omega, by omega⟩) rfl
      have sgc := sgc.trans (by rw [sgn_to eh15 (by decide), eh15.2 224 6 (by decide)] : sgn h3 (h3 224 6) = sgn h15 (h15 224 6))
      have th15_224_3 := eh15.2 (224) 3 (by decide)
      have th15_224_6 := eh15.2 (224) 6 (by decide)
      have th15_224_7 := eh15.1
      have th15_224_8 := eh15.2 (224) 8 (by decide)
      have th15_224_9 := eh15.2 (224) 9 (by decide)
      refine sx_aload_n dX12_goOn_77 rfl ?_
      refine sx_getI (k := 6) cl_12 fl_X12_295 dX12_goOn_78 s_224 (by decide) rfl (by decide) ?_
      have r16 : (0 : Int) ≤ h15 224 6 ∧ h15 224 6 ≤ 1700 := Ih15.1 224 6
      refine sx_aload_n dX12_goOn_81 rfl ?_
      refine sx_getI (k := 3) cl_12 fl_X12_224 dX12_goOn_82 s_224 (by decide) rfl (by decide) ?_
      have r17 : (0 : Int) ≤ h15 224 3 ∧ h15 224 3 ≤ 1600 := Ih15.1 224 3
      refine sx_icmp_lt (tgt := 112) dX12_goOn_85 (by decide) (fun c18 => ?_) (fun c18 => ?_)
      ·
        refine sx_iload_n dX12_goOn_112 rfl ?_
        refine sx_callSz lk_X12_305 dX12_goOn_113 (vs := [_]) rfl rfl (Nat.le_of_ble_eq_true rfl) (Nat.le_of_ble_eq_true rfl) rfl (c_X12_isLetter _ Ih15.1 _) (fun x20 h19 zx20 ph19 => ?_)
        obtain ⟨rfl, p_x20⟩ := ph19
        refine sx_if_eq (tgt := 239) dX12_goOn_116 (by decide) (fun c21 => ?_) (fun c21 => ?_)
        ·
          refine sx_iload_n dX12_goOn_239 rfl ?_
          refine sx_callSz lk_X12_317 dX12_goOn_240 (vs := [_]) rfl rfl (Nat.le_of_ble_eq_true rfl) (Nat.le_of_ble_eq_true rfl) rfl (c_X12_isDigit _ Ih15.1 _) (fun x23 h22 zx23 ph22 => ?_)
          obtain ⟨rfl, p_x23⟩ := ph22
          refine sx_if_eq (tgt := 361) dX12_goOn_243 (by decide) (fun c24 => ?_) (fun c24 => ?_)
          ·
            refine sx_aload_n dX12_goOn_361 rfl ?_
            refine sx_iload_n dX12_goOn_362 rfl ?_
            refine sx_callSz lk_X12_323 dX12_goOn_363 (vs := [_]) rfl rfl (Nat.le_of_ble_eq_true rfl) (Nat.le_of_ble_eq_true rfl) rfl (c_X12_isSign _ Ih15.1 _) (fun x26 h25 zx26 ph25 => ?_)
            subst ph25
            refine sx_if_eq (tgt := 373) dX12_goOn_366 (by decide) (fun c27 => ?_) (fun c27 => ?_)
            ·
              refine sx_iconst dX12_goOn_373 ⟨by decide, by decide⟩ ?_
              refine sy_putI (k := 8) cl_12 fl_X12_302 dX12_goOn_374 s_224 (by decide) rfl (by decide) rfl rfl (fun h28 eh28 => ?_)
              have Ih28 := Ih15.up eh28 (show (0 : Int) ≤ _ ∧ _ ≤ (5 : Int) from ⟨by omega, by omega⟩) rfl
              have th28_224_3 := eh28.2 (224) 3 (by decide)
              have th28_224_6 := eh28.2 (224) 6 (by decide)
              have th28_224_7 := eh28.2 (224) 7 (by decide)
              have th28_224_8 := eh28.1
              have th28_224_9 := eh28.2 (224) 9 (by decide)
              refine sx_ret dX12_goOn_377 ?_
              exact ⟨rfl, ⟨Ih28, by omega, by omega, by omega⟩⟩
            ·
              refine sx_iconst dX12_goOn_369 ⟨by decide, by decide⟩ ?_
              refine sx_goto (tgt := 374) dX12_goOn_370 (by decide) ?_
              refine sy_putI (k := 8) cl_12 fl_X12_302 dX12_goOn_374 s_224 (by decide) rfl (by decide) rfl rfl (fun h29 eh29 => ?_)
              have Ih29 := Ih15.up eh29 (show (0 : Int) ≤ _ ∧ _ ≤ (5 : Int) from ⟨by omega, by omega⟩) rfl
              have th29_224_3 := eh29.2 (224) 3 (by decide)
              have th29_224_6 := eh29.2 (224) 6 (by decide)
              have th29_224_7 := eh29.2 (224) 7 (by decide)
              have th29_224_8 := eh29.1
              have th29_224_9 := eh29.2 (224) 9 (by decide)
              refine sx_ret dX12_goOn_377 ?_
              exact ⟨rfl, ⟨Ih29, by omega, by omega, by omega⟩⟩
          ·
            refine sx_aload_n dX12_goOn_246 rfl ?_
            refine sx_iconst dX12_goOn_247 ⟨by decide, by decide⟩ ?_
            refine sy_putI (k := 9) cl_12 fl_X12_320 dX12_goOn_248 s_224 (by decide) rfl (by decide) rfl rfl (fun h30 eh30 => ?_)
            have Ih30 := Ih15.up eh30 (show (0 : Int) ≤ _ ∧ _ ≤ (9999 : Int) from ⟨by omega, by omega⟩) rfl
            have sgc := sgc.trans (by rw [sgn_to eh30 (by decide), eh30.2 224 6 (by decide)] : sgn h15 (h15 224 6) = sgn h30 (h30 224 6))
            have th30_224_3 := eh30.2 (224) 3 (by decide)
            have th30_224_6 := eh30.2 (224) 6 (by decide)
            have th30_224_7 := eh30.2 (224) 7 (by decide)
            have th30_224_8 := eh30.2 (224) 8 (by decide)
            have th30_224_9 := eh30.1
            refine sx_aload_n dX12_goOn_251 rfl ?_
            refine sx_aload_n dX12_goOn_252 rfl ?_
            refine sx_getI (k := 6) cl_12 fl_X12_295 dX12_goOn_253 s_224 (by decide) rfl (by decide) ?_
            have r31 : (0 : Int) ≤ h30 224 6 ∧ h30 224 6 ≤ 1700 := Ih30.1 224 6
            refine sy_putI (k := 7) cl_12 fl_X12_292 dX12_goOn_256 s_224 (by decide) rfl (by decide) rfl rfl (fun h32 eh32 => ?_)
            have Ih32 := Ih30.up eh32 (show (0 : Int) ≤ _ ∧ _ ≤ (1700 : Int) from ⟨by omega, by omega⟩) rfl
            have sgc := sgc.trans (by rw [sgn_to eh32 (by decide), eh32.2 224 6 (by decide)] : sgn h30 (h30 224 6) = sgn h32 (h32 224 6))
            have th32_224_3 := eh32.2 (224) 3 (by decide)
            have th32_224_6 := eh32.2 (224) 6 (by decide)
            have th32_224_7 := eh32.1
            have th32_224_8 := eh32.2 (224) 8 (by decide)
            have th32_224_9 := eh32.2 (224) 9 (by decide)
            refine sx_loop0 (fun (h : sw_H) => (mK (prW [6, 7, 8, 9, 10] []) h0 h) ∧ (h 224 3 = h0 224 3) ∧ (h0 224 7 ≤ h 224 6) ∧ (h 224 6 < h 224 3) ∧ (h 224 6 ≤ h 224 7) ∧ (h 224 7 ≤ h 224 3) ∧ (h 224 6 < h 224 7 ∨ x13 = sgn h (h 224 6)) ∧ ((h 224 7 = h 224 6 ∧ h 224 9 = 0) ∨ (h 224 7 = h 224 6 + 1 ∧ h 224 9 ≤ 9) ∨ (h 224 7 = h 224 6 + 2 ∧ h 224 9 ≤ 99) ∨ (h 224 7 = h 224 6 + 3 ∧ h 224 9 ≤ 999) ∨ h 224 6 + 4 ≤ h 224 7)) (fun (h : sw_H) => (1700 - h 224 7).toNat) (fun (h : sw_H) => sw_E G NH SH (d + 2) mX12_goOn 259 [some (sw_r 224), some (sw_i x13), none] [] h (sw_Qv (fun h' => mK (prW [6, 7, 8, 9, 10] []) h0 h' ∧ (h' 224 7 ≤ h' 224 3 ∧ (h' 224 8 = 0 → h' 224 7 = h' 224 3)) ∧ ((h' 224 8 = 0 ∨ h0 224 7 < h' 224 7)) ∧ (h0 224 7 ≤ h' 224 7)))) ?_ _ ?_
            · rintro h33 ⟨Ih33, b0, b1, b2, b3, b4, jl, jn⟩ ihh33
              try dsimp only at ihh33
              refine sx_aload_n dX12_goOn_259 rfl ?_
              refine sx_aload_n dX12_goOn_260 rfl ?_
              refine sx_getI (k := 7) cl_12 fl_X12_292 dX12_goOn_261 s_224 (by decide) rfl (by decide) ?_
              have r34 : (0 : Int) ≤ h33 224 7 ∧ h33 224 7 ≤ 1700 := Ih33.1 224 7
              refine sx_callVi lk_X12_298 cl_12 s_224 (by decide) dX12_goOn_264 (vs := [_]) rfl rfl (Nat.le_of_ble_eq_true rfl) (Nat.le_of_ble_eq_true rfl) rfl (c_X12_sign _ Ih33.1 _ (by omega)) (fun x36 h35 ph35 => ?_)
              obtain ⟨rfl, p_x36⟩ := ph35
              have sgl := p_x36.2.2.2
              refine sx_callSz lk_X12_317 dX12_goOn_267 (vs := [_]) rfl rfl (Nat.le_of_ble_eq_true rfl) (Nat.le_of_ble_eq_true rfl) rfl (c_X12_isDigit _ Ih33.1 _) (fun x38 h37 zx38 ph37 => ?_)
              obtain ⟨rfl, p_x38⟩ := ph37
              refine sx_if_eq (tgt := 322) dX12_goOn_270 (by decide) (fun c39 => ?_) (fun c39 => ?_)
              ·
                have hgt : h33 224 6 < h33 224 7 := by by_cases q2 : h33 224 6 < h33 224 7; exact q2; exfalso; rcases jl with q | q; exact q2 q; have q3 : h33 224 7 = h33 224 6 := (by omega); rw [q3, ← q] at sgl; omega
                refine sx_aload_n dX12_goOn_322 rfl ?_
                refine sx_aload_n dX12_goOn_323 rfl ?_
                refine sx_getI (k := 7) cl_12 fl_X12_292 dX12_goOn_324 s_224 (by decide) rfl (by decide) ?_
                have r40 : (0 : Int) ≤ h33 224 7 ∧ h33 224 7 ≤ 1700 := Ih33.1 224 7
                refine sx_aload_n dX12_goOn_327 rfl ?_
                refine sx_getI (k := 6) cl_12 fl_X12_295 dX12_goOn_328 s_224 (by decide) rfl (by decide) ?_
                have r41 : (0 : Int) ≤ h33 224 6 ∧ h33 224 6 ≤ 1700 := Ih33.1 224 6
                refine sx_isub dX12_goOn_331 ?_
                refine sy_topw (by omega) ?_
                refine sx_iconst dX12_goOn_332 ⟨by decide, by decide⟩ ?_
                refine sx_icmp_gt (tgt := 350) dX12_goOn_333 (by decide) (fun c42 => ?_) (fun c42 => ?_)
                ·
                  refine sx_iconst dX12_goOn_350 ⟨by decide, by decide⟩ ?_
                  refine sx_goto (tgt := 355) dX12_goOn_351 (by decide) ?_
                  refine sy_putI (k := 8) cl_12 fl_X12_302 dX12_goOn_355 s_224 (by decide) rfl (by decide) rfl rfl (fun h43 eh43 => ?_)
                  have Ih43 := Ih33.up eh43 (show (0 : Int) ≤ _ ∧ _ ≤ (5 : Int) from ⟨by omega, by omega⟩) rfl
                  have th43_224_3 := eh43.2 (224) 3 (by decide)
                  have th43_224_6 := eh43.2 (224) 6 (by decide)
                  have th43_224_7 := eh43.2 (224) 7 (by decide)
                  have th43_224_8 := eh43.1
                  have th43_224_9 := eh43.2 (224) 9 (by decide)
                  refine sx_goto (tgt := 377) dX12_goOn_358 (by decide) ?_
                  refine sx_ret dX12_goOn_377 ?_
                  exact ⟨rfl, ⟨Ih43, by omega, by omega, by omega⟩⟩
                ·
                  refine sx_aload_n dX12_goOn_336 rfl ?_
                  refine sx_aload_n dX12_goOn_337 rfl ?_
                  refine sx_getI (k := 7) cl_12 fl_X12_292 dX12_goOn_338 s_224 (by decide) rfl (by decide) ?_
                  have r44 : (0 : Int) ≤ h33 224 7 ∧ h33 224 7 ≤ 1700 := Ih33.1 224 7
                  refine sx_callVi lk_X12_298 cl_12 s_224 (by decide) dX12_goOn_341 (vs := [_]) rfl rfl (Nat.le_of_ble_eq_true rfl) (Nat.le_of_ble_eq_true rfl) rfl (c_X12_sign _ Ih33.1 _ (by omega)) (fun x46 h45 ph45 => ?_)
                  obtain ⟨rfl, p_x46⟩ := ph45
                  refine sx_callSz lk_X12_305 dX12_goOn_344 (vs := [_]) rfl rfl (Nat.le_of_ble_eq_true rfl) (Nat.le_of_ble_eq_true rfl) rfl (c_X12_isLetter _ Ih33.1 _) (fun x48 h47 zx48 ph47 => ?_)
                  obtain ⟨rfl, p_x48⟩ := ph47
                  refine sx_if_eq (tgt := 354) dX12_goOn_347 (by decide) (fun c49 => ?_) (fun c49 => ?_)
                  ·
                    refine sx_iconst dX12_goOn_354 ⟨by decide, by decide⟩ ?_
                    refine sy_putI (k := 8) cl_12 fl_X12_302 dX12_goOn_355 s_224 (by decide) rfl (by decide) rfl rfl (fun h50 eh50 => ?_)
                    have Ih50 := Ih33.up eh50 (show (0 : Int) ≤ _ ∧ _ ≤ (5 : Int) from ⟨by omega, by omega⟩) rfl
                    have th50_224_3 := eh50.2 (224) 3 (by decide)
                    have th50_224_6 := eh50.2 (224) 6 (by decide)
                    have th50_224_7 := eh50.2 (224) 7 (by decide)
                    have th50_224_8 := eh50.1
                    have th50_224_9 := eh50.2 (224) 9 (by decide)
                    refine sx_goto (tgt := 377) dX12_goOn_358 (by decide) ?_
                    refine sx_ret dX12_goOn_377 ?_
                    exact ⟨rfl, ⟨Ih50, by omega, by omega, by omega⟩⟩
                  ·
                    refine sx_iconst dX12_goOn_350 ⟨by decide, by decide⟩ ?_
                    refine sx_goto (tgt := 355) dX12_goOn_351 (by decide) ?_
                    refine sy_putI (k := 8) cl_12 fl_X12_302 dX12_goOn_355 s_224 (by decide) rfl (by decide) rfl rfl (fun h51 eh51 => ?_)
                    have Ih51 := Ih33.up eh51 (show (0 : Int) ≤ _ ∧ _ ≤ (5 : Int) from ⟨by omega, by omega⟩) rfl
                    have th51_224_3 := eh51.2 (224) 3 (by decide)
                    have th51_224_6 := eh51.2 (224) 6 (by decide)
                    have th51_224_7 := eh51.2 (224) 7 (by decide)
                    have th51_224_8 := eh51.1
                    have th51_224_9 := eh51.2 (224) 9 (by decide)
                    refine sx_goto (tgt := 377) dX12_goOn_358 (by decide) ?_
                    refine sx_ret dX12_goOn_377 ?_
                    exact ⟨rfl, ⟨Ih51, by omega, by omega, by omega⟩⟩
              ·
                refine sx_aload_n dX12_goOn_273 rfl ?_
                refine sx_getI (k := 7) cl_12 fl_X12_292 dX12_goOn_274 s_224 (by decide) rfl (by decide) ?_
                have r52 : (0 : Int) ≤ h33 224 7 ∧ h33 224 7 ≤ 1700 := Ih33.1 224 7
                refine sx_aload_n dX12_goOn_277 rfl ?_
                refine sx_getI (k := 6) cl_12 fl_X12_295 dX12_goOn_278 s_224 (by decide) rfl (by decide) ?_
                have r53 : (0 : Int) ≤ h33 224 6 ∧ h33 224 6 ≤ 1700 := Ih33.1 224 6
                refine sx_isub dX12_goOn_281 ?_
                refine sy_topw (by omega) ?_
                refine sx_iconst dX12_goOn_282 ⟨by decide, by decide⟩ ?_
                refine sx_icmp_ge (tgt := 309) dX12_goOn_283 (by decide) (fun c54 => ?_) (fun c54 => ?_)
                ·
                  refine sx_aload_n dX12_goOn_309 rfl ?_
                  refine sx_dupr dX12_goOn_310 ?_
                  refine sx_getI (k := 7) cl_12 fl_X12_292 dX12_goOn_311 s_224 (by decide) rfl (by decide) ?_
                  have r55 : (0 : Int) ≤ h33 224 7 ∧ h33 224 7 ≤ 1700 := Ih33.1 224 7
                  refine sx_iconst dX12_goOn_314 ⟨by decide, by decide⟩ ?_
                  refine sx_iadd dX12_goOn_315 ?_
                  refine sy_topw (by omega) ?_
                  refine sy_putI (k := 7) cl_12 fl_X12_292 dX12_goOn_316 s_224 (by decide) rfl (by decide) rfl rfl (fun h56 eh56 => ?_)
                  have Ih56 := Ih33.up eh56 (show (0 : Int) ≤ _ ∧ _ ≤ (1700 : Int) from ⟨by omega, by omega⟩) rfl
                  have th56_224_3 := eh56.2 (224) 3 (by decide)
                  have th56_224_6 := eh56.2 (224) 6 (by decide)
                  have th56_224_7 := eh56.1
                  have th56_224_8 := eh56.2 (224) 8 (by decide)
                  have th56_224_9 := eh56.2 (224) 9 (by decide)
                  refine sx_goto (tgt := 259) dX12_goOn_319 (by decide) ?_
                  exact ihh33 _ ⟨Ih56, by omega, by omega, by omega, by omega, by omega, by (exact Or.inl (by omega)), by (rcases jn with q | q | q | q | q <;> (first | (exact Or.inl (by omega)) | (exact Or.inr (Or.inl (by omega))) | (exact Or.inr (Or.inr (Or.inl (by omega)))) | (exact Or.inr (Or.inr (Or.inr (Or.inl (by omega))))) | (exact Or.inr (Or.inr (Or.inr (Or.inr (by omega)))))))⟩ (by exact sy_dec (by omega) (by omega))
                ·
                  have r9 : (0 : Int) ≤ h33 224 9 ∧ h33 224 9 ≤ 9999 := Ih33.1 224 9
                  have jn3 : h33 224 9 ≤ 999 ∧ 0 ≤ h33 224 9 := by rcases jn with q | q | q | q | q <;> omega
                  refine sx_aload_n dX12_goOn_286 rfl ?_
                  refine sx_bipush dX12_goOn_287 ⟨by decide, by decide, by decide⟩ ?_
                  refine sx_aload_n dX12_goOn_289 rfl ?_
                  refine sx_getI (k := 9) cl_12 fl_X12_320 dX12_goOn_290 s_224 (by decide) rfl (by decide) ?_
                  have r57 : (0 : Int) ≤ h33 224 9 ∧ h33 224 9 ≤ 9999 := Ih33.1 224 9
                  refine sx_imul dX12_goOn_293 ?_
                  refine sy_topw (by omega) ?_
                  refine sx_aload_n dX12_goOn_294 rfl ?_
                  refine sx_aload_n dX12_goOn_295 rfl ?_
                  refine sx_getI (k := 7) cl_12 fl_X12_292 dX12_goOn_296 s_224 (by decide) rfl (by decide) ?_
                  have r58 : (0 : Int) ≤ h33 224 7 ∧ h33 224 7 ≤ 1700 := Ih33.1 224 7
                  refine sx_callVi lk_X12_298 cl_12 s_224 (by decide) dX12_goOn_299 (vs := [_]) rfl rfl (Nat.le_of_ble_eq_true rfl) (Nat.le_of_ble_eq_true rfl) rfl (c_X12_sign _ Ih33.1 _ (by omega)) (fun x60 h59 ph59 => ?_)
                  obtain ⟨rfl, p_x60⟩ := ph59
                  refine sx_iadd dX12_goOn_302 ?_
                  refine sy_topw (by omega) ?_
                  refine sx_bipush dX12_goOn_303 ⟨by decide, by decide, by decide⟩ ?_
                  refine sx_isub dX12_goOn_305 ?_
                  refine sy_topw (by omega) ?_
                  refine sy_putI (k := 9) cl_12 fl_X12_320 dX12_goOn_306 s_224 (by decide) rfl (by decide) rfl rfl (fun h61 eh61 => ?_)
                  have Ih61 := Ih33.up eh61 (show (0 : Int) ≤ _ ∧ _ ≤ (9999 : Int) from ⟨by omega, by omega⟩) rfl
                  have th61_224_3 := eh61.2 (224) 3 (by decide)
                  have th61_224_6 := eh61.2 (224) 6 (by decide)
                  have th61_224_7 := eh61.2 (224) 7 (by decide)
                  have th61_224_8 := eh61.2 (224) 8 (by decide)
                  have th61_224_9 := eh61.1
                  refine sx_aload_n dX12_goOn_309 rfl ?_
                  refine sx_dupr dX12_goOn_310 ?_
                  refine sx_getI (k := 7) cl_12 fl_X12_292 dX12_goOn_311 s_224 (by decide) rfl (by decide) ?_
                  have r62 : (0 : Int) ≤ h61 224 7 ∧ h61 224 7 ≤ 1700 := Ih61.1 224 7
                  refine sx_iconst dX12_goOn_314 ⟨by decide, by decide⟩ ?_
                  refine sx_iadd dX12_goOn_315 ?_
                  refine sy_topw (by omega) ?_
                  refine sy_putI (k := 7) cl_12 fl_X12_292 dX12_goOn_316 s_224 (by decide) rfl (by decide) rfl rfl (fun h63 eh63 => ?_)
                  have Ih63 := Ih61.up eh63 (show (0 : Int) ≤ _ ∧ _ ≤ (1700 : Int) from ⟨by omega, by omega⟩) rfl
                  have th63_224_3 := eh63.2 (224) 3 (by decide)
                  have th63_224_6 := eh63.2 (224) 6 (by decide)
                  have th63_224_7 := eh63.1
                  have th63_224_8 := eh63.2 (224) 8 (by decide)
                  have th63_224_9 := eh63.2 (224) 9 (by decide)
                  refine sx_goto (tgt := 259) dX12_goOn_319 (by decide) ?_
                  exact ihh33 _ ⟨Ih63, by omega, by omega, by omega, by omega, by omega, by (exact Or.inl (by omega)), by (rcases jn with q | q | q | q | q <;> (first | (exact Or.inl (by omega)) | (exact Or.inr (Or.inl (by omega))) | (exact Or.inr (Or.inr (Or.inl (by omega)))) | (exact Or.inr (Or.inr (Or.inr (Or.inl (by omega))))) | (exact Or.inr (Or.inr (Or.inr (Or.inr (by omega)))))))⟩ (by exact sy_dec (by omega) (by omega))
            · exact ⟨Ih32, by omega, by omega, by omega, by omega, by omega, by (exact Or.inr sgc), by (exact Or.inl (by omega))⟩
        ·
          refine sx_loop0 (fun (h : sw_H) => (mK (prW [6, 7, 8, 9, 10] []) h0 h) ∧ (h 224 3 = h0 224 3) ∧ (h0 224 7 ≤ h 224 6) ∧ (h 224 6 < h 224 3) ∧ (h 224 6 < h 224 7) ∧ (h 224 7 ≤ h 224 3)) (fun (h : sw_H) => (1700 - h 224 7).toNat) (fun (h : sw_H) => sw_E G NH SH (d + 2) mX12_goOn 119 [some (sw_r 224), some (sw_i x13), none] [] h (sw_Qv (fun h' => mK (prW [6, 7, 8, 9, 10] []) h0 h' ∧ (h' 224 7 ≤ h' 224 3 ∧ (h' 224 8 = 0 → h' 224 7 = h' 224 3)) ∧ ((h' 224 8 = 0 ∨ h0 224 7 < h' 224 7)) ∧ (h0 224 7 ≤ h' 224 7)))) ?_ _ ?_
          · rintro h64 ⟨Ih64, j65, j66, j67, j68, j69⟩ ihh64
            try dsimp only at ihh64
            refine sx_aload_n dX12_goOn_119 rfl ?_
            refine sx_aload_n dX12_goOn_120 rfl ?_
            refine sx_getI (k := 7) cl_12 fl_X12_292 dX12_goOn_121 s_224 (by decide) rfl (by decide) ?_
            have r70 : (0 : Int) ≤ h64 224 7 ∧ h64 224 7 ≤ 1700 := Ih64.1 224 7
            refine sx_callVi lk_X12_298 cl_12 s_224 (by decide) dX12_goOn_124 (vs := [_]) rfl rfl (Nat.le_of_ble_eq_true rfl) (Nat.le_of_ble_eq_true rfl) rfl (c_X12_sign _ Ih64.1 _ (by omega)) (fun x72 h71 ph71 => ?_)
            obtain ⟨rfl, p_x72⟩ := ph71
            refine sx_callSz lk_X12_305 dX12_goOn_127 (vs := [_]) rfl rfl (Nat.le_of_ble_eq_true rfl) (Nat.le_of_ble_eq_true rfl) rfl (c_X12_isLetter _ Ih64.1 _) (fun x74 h73 zx74 ph73 => ?_)
            obtain ⟨rfl, p_x74⟩ := ph73
            refine sx_if_eq (tgt := 146) dX12_goOn_130 (by decide) (fun c75 => ?_) (fun c75 => ?_)
            ·
              refine sx_aload_n dX12_goOn_146 rfl ?_
              refine sx_lconst dX12_goOn_147 rfl ?_
              refine sy_putL (k := 10) cl_12 fl_X12_309 dX12_goOn_148 s_224 (by decide) rfl (by decide) rfl rfl (fun h76 eh76 => ?_)
              have Ih76 := Ih64.up eh76 trivial rfl
              have th76_224_3 := eh76.2 (224) 3 (by decide)
              have th76_224_6 := eh76.2 (224) 6 (by decide)
              have th76_224_7 := eh76.2 (224) 7 (by decide)
              have th76_224_8 := eh76.2 (224) 8 (by decide)
              have th76_224_9 := eh76.2 (224) 9 (by decide)
              refine sx_aload_n dX12_goOn_151 rfl ?_
              refine sx_getI (k := 6) cl_12 fl_X12_295 dX12_goOn_152 s_224 (by decide) rfl (by decide) ?_
              have r77 : (0 : Int) ≤ h76 224 6 ∧ h76 224 6 ≤ 1700 := Ih76.1 224 6
              refine sy_top (fun v78 ev78 => ?_)
              refine sx_istore_n dX12_goOn_155 (by decide) ?_
              refine sx_loop1 (fun (h : sw_H) (k : Int) => (mK (prW [6, 7, 8, 9, 10] []) h0 h) ∧ (h 224 3 = h0 224 3) ∧ (h0 224 7 ≤ h 224 6) ∧ (h 224 6 < h 224 3) ∧ (h 224 6 < h 224 7) ∧ (h 224 7 ≤ h 224 3) ∧ (0 ≤ k)) (fun (h : sw_H) (k : Int) => (1700 - k).toNat) (fun (h : sw_H) (k : Int) => sw_E G NH SH (d + 2) mX12_goOn 156 [some (sw_r 224), some (sw_i x13), some (sw_i k)] [] h (sw_Qv (fun h' => mK (prW [6, 7, 8, 9, 10] []) h0 h' ∧ (h' 224 7 ≤ h' 224 3 ∧ (h' 224 8 = 0 → h' 224 7 = h' 224 3)) ∧ ((h' 224 8 = 0 ∨ h0 224 7 < h' 224 7)) ∧ (h0 224 7 ≤ h' 224 7)))) ?_ _ _ ?_
              · rintro h79 k_80 ⟨Ih79, j81, j82, j83, j84, j85, j86⟩ ihh79
                try dsimp only at ihh79
                refine sx_iload_n dX12_goOn_156 rfl ?_
                refine sx_aload_n dX12_goOn_157 rfl ?_
                refine sx_getI (k := 7) cl_12 fl_X12_292 dX12_goOn_158 s_224 (by decide) rfl (by decide) ?_
                have r87 : (0 : Int) ≤ h79 224 7 ∧ h79 224 7 ≤ 1700 := Ih79.1 224 7
                refine sx_icmp_ge (tgt := 199) dX12_goOn_161 (by decide) (fun c88 => ?_) (fun c88 => ?_)
                ·
                  refine sx_aload_n dX12_goOn_199 rfl ?_
                  refine sx_aload_n dX12_goOn_200 rfl ?_
                  refine sx_getI (k := 7) cl_12 fl_X12_292 dX12_goOn_201 s_224 (by decide) rfl (by decide) ?_
                  have r89 : (0 : Int) ≤ h79 224 7 ∧ h79 224 7 ≤ 1700 := Ih79.1 224 7
                  refine sx_aload_n dX12_goOn_204 rfl ?_
                  refine sx_getI (k := 6) cl_12 fl_X12_295 dX12_goOn_205 s_224 (by decide) rfl (by decide) ?_
                  have r90 : (0 : Int) ≤ h79 224 6 ∧ h79 224 6 ≤ 1700 := Ih79.1 224 6
                  refine sx_isub dX12_goOn_208 ?_
                  refine sy_topw (by omega) ?_
                  refine sx_bipush dX12_goOn_209 ⟨by decide, by decide, by decide⟩ ?_
                  refine sx_icmp_le (tgt := 218) dX12_goOn_211 (by decide) (fun c91 => ?_) (fun c91 => ?_)
                  ·
                    refine sx_aload_n dX12_goOn_218 rfl ?_
                    refine sx_getL (k := 10) cl_12 fl_X12_309 dX12_goOn_219 s_224 (by decide) rfl (by decide) ?_
                    refine sx_callSz lk_X12_313 dX12_goOn_222 (vs := [_]) rfl rfl (Nat.le_of_ble_eq_true rfl) (Nat.le_of_ble_eq_true rfl) rfl (c_X12_isKept _ Ih79.1 _) (fun x93 h92 zx93 ph92 => ?_)
                    subst ph92
                    refine sx_if_eq (tgt := 232) dX12_goOn_225 (by decide) (fun c94 => ?_) (fun c94 => ?_)
                    ·
                      refine sx_iconst dX12_goOn_232 ⟨by decide, by decide⟩ ?_
                      refine sy_putI (k := 8) cl_12 fl_X12_302 dX12_goOn_233 s_224 (by decide) rfl (by decide) rfl rfl (fun h95 eh95 => ?_)
                      have Ih95 := Ih79.up eh95 (show (0 : Int) ≤ _ ∧ _ ≤ (5 : Int) from ⟨by omega, by omega⟩) rfl
                      have th95_224_3 := eh95.2 (224) 3 (by decide)
                      have th95_224_6 := eh95.2 (224) 6 (by decide)
                      have th95_224_7 := eh95.2 (224) 7 (by decide)
                      have th95_224_8 := eh95.1
                      have th95_224_9 := eh95.2 (224) 9 (by decide)
                      refine sx_goto (tgt := 377) dX12_goOn_236 (by decide) ?_
                      refine sx_ret dX12_goOn_377 ?_
                      exact ⟨rfl, ⟨Ih95, by omega, by omega, by omega⟩⟩
                    ·
                      refine sx_iconst dX12_goOn_228 ⟨by decide, by decide⟩ ?_
                      refine sx_goto (tgt := 233) dX12_goOn_229 (by decide) ?_
                      refine sy_putI (k := 8) cl_12 fl_X12_302 dX12_goOn_233 s_224 (by decide) rfl (by decide) rfl rfl (fun h96 eh96 => ?_)
                      have Ih96 := Ih79.up eh96 (show (0 : Int) ≤ _ ∧ _ ≤ (5 : Int) from ⟨by omega, by omega⟩) rfl
                      have th96_224_3 := eh96.2 (224) 3 (by decide)
                      have th96_224_6 := eh96.2 (224) 6 (by decide)
                      have th96_224_7 := eh96.2 (224) 7 (by decide)
                      have th96_224_8 := eh96.1
                      have th96_224_9 := eh96.2 (224) 9 (by decide)
                      refine sx_goto (tgt := 377) dX12_goOn_236 (by decide) ?_
                      refine sx_ret dX12_goOn_377 ?_
                      exact ⟨rfl, ⟨Ih96, by omega, by omega, by omega⟩⟩
                  ·
                    refine sx_iconst dX12_goOn_214 ⟨by decide, by decide⟩ ?_
                    refine sx_goto (tgt := 233) dX12_goOn_215 (by decide) ?_
                    refine sy_putI (k := 8) cl_12 fl_X12_302 dX12_goOn_233 s_224 (by decide) rfl (by decide) rfl rfl (fun h97 eh97 => ?_)
                    have Ih97 := Ih79.up eh97 (show (0 : Int) ≤ _ ∧ _ ≤ (5 : Int) from ⟨by omega, by omega⟩) rfl
                    have th97_224_3 := eh97.2 (224) 3 (by decide)
                    have th97_224_6 := eh97.2 (224) 6 (by decide)
                    have th97_224_7 := eh97.2 (224) 7 (by decide)
                    have th97_224_8 := eh97.1
                    have th97_224_9 := eh97.2 (224) 9 (by decide)
                    refine sx_goto (tgt := 377) dX12_goOn_236 (by decide) ?_
                    refine sx_ret dX12_goOn_377 ?_
                    exact ⟨rfl, ⟨Ih97, by omega, by omega, by omega⟩⟩
                ·
                  refine sx_iload_n dX12_goOn_164 rfl ?_
                  refine sx_aload_n dX12_goOn_165 rfl ?_
                  refine sx_getI (k := 6) cl_12 fl_X12_295 dX12_goOn_166 s_224 (by decide) rfl (by decide) ?_
                  have r98 : (0 : Int) ≤ h79 224 6 ∧ h79 224 6 ≤ 1700 := Ih79.1 224 6
                  refine sx_bipush dX12_goOn_169 ⟨by decide, by decide, by decide⟩ ?_
                  refine sx_iadd dX12_goOn_171 ?_
                  refine sy_topw (by omega) ?_
                  refine sx_icmp_ge (tgt := 199) dX12_goOn_172 (by decide) (fun c99 => ?_) (fun c99 => ?_)
                  ·
                    refine sx_aload_n dX12_goOn_199 rfl ?_
                    refine sx_aload_n dX12_goOn_200 rfl ?_
                    refine sx_getI (k := 7) cl_12 fl_X12_292 dX12_goOn_201 s_224 (by decide) rfl (by decide) ?_
                    have r100 : (0 : Int) ≤ h79 224 7 ∧ h79 224 7 ≤ 1700 := Ih79.1 224 7
                    refine sx_aload_n dX12_goOn_204 rfl ?_
                    refine sx_getI (k := 6) cl_12 fl_X12_295 dX12_goOn_205 s_224 (by decide) rfl (by decide) ?_
                    have r101 : (0 : Int) ≤ h79 224 6 ∧ h79 224 6 ≤ 1700 := Ih79.1 224 6
                    refine sx_isub dX12_goOn_208 ?_
                    refine sy_topw (by omega) ?_
                    refine sx_bipush dX12_goOn_209 ⟨by decide, by decide, by decide⟩ ?_
                    refine sx_icmp_le (tgt := 218) dX12_goOn_211 (by decide) (fun c102 => ?_) (fun c102 => ?_)
                    ·
                      refine sx_aload_n dX12_goOn_218 rfl ?_
                      refine sx_getL (k := 10) cl_12 fl_X12_309 dX12_goOn_219 s_224 (by decide) rfl (by decide) ?_
                      refine sx_callSz lk_X12_313 dX12_goOn_222 (vs := [_]) rfl rfl (Nat.le_of_ble_eq_true rfl) (Nat.le_of_ble_eq_true rfl) rfl (c_X12_isKept _ Ih79.1 _) (fun x104 h103 zx104 ph103 => ?_)
                      subst ph103
                      refine sx_if_eq (tgt := 232) dX12_goOn_225 (by decide) (fun c105 => ?_) (fun c105 => ?_)
                      ·
                        refine sx_iconst dX12_goOn_232 ⟨by decide, by decide⟩ ?_
                        refine sy_putI (k := 8) cl_12 fl_X12_302 dX12_goOn_233 s_224 (by decide) rfl (by decide) rfl rfl (fun h106 eh106 => ?_)
                        have Ih106 := Ih79.up eh106 (show (0 : Int) ≤ _ ∧ _ ≤ (5 : Int) from ⟨by omega, by omega⟩) rfl
                        have th106_224_3 := eh106.2 (224) 3 (by decide)
                        have th106_224_6 := eh106.2 (224) 6 (by decide)
                        have th106_224_7 := eh106.2 (224) 7 (by decide)
                        have th106_224_8 := eh106.1
                        have th106_224_9 := eh106.2 (224) 9 (by decide)
                        refine sx_goto (tgt := 377) dX12_goOn_236 (by decide) ?_
                        refine sx_ret dX12_goOn_377 ?_
                        exact ⟨rfl, ⟨Ih106, by omega, by omega, by omega⟩⟩
                      ·
                        refine sx_iconst dX12_goOn_228 ⟨by decide, by decide⟩ ?_
                        refine sx_goto (tgt := 233) dX12_goOn_229 (by decide) ?_
                        refine sy_putI (k := 8) cl_12 fl_X12_302 dX12_goOn_233 s_224 (by decide) rfl (by decide) rfl rfl (fun h107 eh107 => ?_)
                        have Ih107 := Ih79.up eh107 (show (0 : Int) ≤ _ ∧ _ ≤ (5 : Int) from ⟨by omega, by omega⟩) rfl
                        have th107_224_3 := eh107.2 (224) 3 (by decide)
                        have th107_224_6 := eh107.2 (224) 6 (by decide)
                        have th107_224_7 := eh107.2 (224) 7 (by decide)
                        have th107_224_8 := eh107.1
                        have th107_224_9 := eh107.2 (224) 9 (by decide)
                        refine sx_goto (tgt := 377) dX12_goOn_236 (by decide) ?_
                        refine sx_ret dX12_goOn_377 ?_
                        exact ⟨rfl, ⟨Ih107, by omega, by omega, by omega⟩⟩
                    ·
                      refine sx_iconst dX12_goOn_214 ⟨by decide, by decide⟩ ?_
                      refine sx_goto (tgt := 233) dX12_goOn_215 (by decide) ?_
                      refine sy_putI (k := 8) cl_12 fl_X12_302 dX12_goOn_233 s_224 (by decide) rfl (by decide) rfl rfl (fun h108 eh108 => ?_)
                      have Ih108 := Ih79.up eh108 (show (0 : Int) ≤ _ ∧ _ ≤ (5 : Int) from ⟨by omega, by omega⟩) rfl
                      have th108_224_3 := eh108.2 (224) 3 (by decide)
                      have th108_224_6 := eh108.2 (224) 6 (by decide)
                      have th108_224_7 := eh108.2 (224) 7 (by decide)
                      have th108_224_8 := eh108.1
                      have th108_224_9 := eh108.2 (224) 9 (by decide)
                      refine sx_goto (tgt := 377) dX12_goOn_236 (by decide) ?_
                      refine sx_ret dX12_goOn_377 ?_
                      exact ⟨rfl, ⟨Ih108, by omega, by omega, by omega⟩⟩
                  ·
                    refine sx_aload_n dX12_goOn_175 rfl ?_
                    refine sx_aload_n dX12_goOn_176 rfl ?_
                    refine sx_getL (k := 10) cl_12 fl_X12_309 dX12_goOn_177 s_224 (by decide) rfl (by decide) ?_
                    refine sx_bipush dX12_goOn_180 ⟨by decide, by decide, by decide⟩ ?_
                    refine sx_lshl dX12_goOn_182 ?_
                    refine sx_aload_n dX12_goOn_183 rfl ?_
                    refine sx_iload_n dX12_goOn_184 rfl ?_
                    refine sx_callVi lk_X12_298 cl_12 s_224 (by decide) dX12_goOn_185 (vs := [_]) rfl rfl (Nat.le_of_ble_eq_true rfl) (Nat.le_of_ble_eq_true rfl) rfl (c_X12_sign _ Ih79.1 _ (by omega)) (fun x110 h109 ph109 => ?_)
                    obtain ⟨rfl, p_x110⟩ := ph109
                    refine sx_i2l dX12_goOn_188 ?_
                    refine sx_lor dX12_goOn_189 ?_
                    refine sy_putL (k := 10) cl_12 fl_X12_309 dX12_goOn_190 s_224 (by decide) rfl (by decide) rfl rfl (fun h111 eh111 => ?_)
                    have Ih111 := Ih79.up eh111 trivial rfl
                    have th111_224_3 := eh111.2 (224) 3 (by decide)
                    have th111_224_6 := eh111.2 (224) 6 (by decide)
                    have th111_224_7 := eh111.2 (224) 7 (by decide)
                    have th111_224_8 := eh111.2 (224) 8 (by decide)
                    have th111_224_9 := eh111.2 (224) 9 (by decide)
                    refine sx_iinc dX12_goOn_193 (by decide) rfl ?_
                    rw [sw_w_id (by omega) (by omega)]
                    refine sx_goto (tgt := 156) dX12_goOn_196 (by decide) ?_
                    exact ihh79 _ _ ⟨Ih111, by omega, by omega, by omega, by omega, by omega, by omega⟩ (by exact sy_dec (by omega) (by omega))
              · exact ⟨Ih76, by omega, by omega, by omega, by omega, by omega, by omega⟩
            ·
              refine sx_aload_n dX12_goOn_133 rfl ?_
              refine sx_dupr dX12_goOn_134 ?_
              refine sx_getI (k := 7) cl_12 fl_X12_292 dX12_goOn_135 s_224 (by decide) rfl (by decide) ?_
              have r112 : (0 : Int) ≤ h64 224 7 ∧ h64 224 7 ≤ 1700 := Ih64.1 224 7
              refine sx_iconst dX12_goOn_138 ⟨by decide, by decide⟩ ?_
              refine sx_iadd dX12_goOn_139 ?_
              refine sy_topw (by omega) ?_
              refine sy_putI (k := 7) cl_12 fl_X12_292 dX12_goOn_140 s_224 (by decide) rfl (by decide) rfl rfl (fun h113 eh113 => ?_)
              have Ih113 := Ih64.up eh113 (show (0 : Int) ≤ _ ∧ _ ≤ (1700 : Int) from ⟨by omega, by omega⟩) rfl
              have th113_224_3 := eh113.2 (224) 3 (by decide)
              have th113_224_6 := eh113.2 (224) 6 (by decide)
              have th113_224_7 := eh113.1
              have th113_224_8 := eh113.2 (224) 8 (by decide)
              have th113_224_9 := eh113.2 (224) 9 (by decide)
              refine sx_goto (tgt := 119) dX12_goOn_143 (by decide) ?_
              exact ihh64 _ ⟨Ih113, by omega, by omega, by omega, by omega, by omega⟩ (by exact sy_dec (by omega) (by omega))
          · exact ⟨Ih15, by omega, by omega, by omega, by omega, by omega⟩
      ·
        refine sx_aload_n dX12_goOn_88 rfl ?_
        refine sx_iconst dX12_goOn_89 ⟨by decide, by decide⟩ ?_
        refine sy_putI (k := 8) cl_12 fl_X12_302 dX12_goOn_90 s_224 (by decide) rfl (by decide) rfl rfl (fun h114 eh114 => ?_)
        have Ih114 := Ih15.up eh114 (show (0 : Int) ≤ _ ∧ _ ≤ (5 : Int) from ⟨by omega, by omega⟩) rfl
        have th114_224_3 := eh114.2 (224) 3 (by decide)
        have th114_224_6 := eh114.2 (224) 6 (by decide)
        have th114_224_7 := eh114.2 (224) 7 (by decide)
        have th114_224_8 := eh114.1
        have th114_224_9 := eh114.2 (224) 9 (by decide)
        refine sx_aload_n dX12_goOn_93 rfl ?_
        refine sx_aload_n dX12_goOn_94 rfl ?_
        refine sx_getI (k := 3) cl_12 fl_X12_224 dX12_goOn_95 s_224 (by decide) rfl (by decide) ?_
        have r115 : (0 : Int) ≤ h114 224 3 ∧ h114 224 3 ≤ 1600 := Ih114.1 224 3
        refine sy_putI (k := 6) cl_12 fl_X12_295 dX12_goOn_98 s_224 (by decide) rfl (by decide) rfl rfl (fun h116 eh116 => ?_)
        have Ih116 := Ih114.up eh116 (show (0 : Int) ≤ _ ∧ _ ≤ (1700 : Int) from ⟨by omega, by omega⟩) rfl
        have th116_224_3 := eh116.2 (224) 3 (by decide)
        have th116_224_6 := eh116.1
        have th116_224_7 := eh116.2 (224) 7 (by decide)
        have th116_224_8 := eh116.2 (224) 8 (by decide)
        have th116_224_9 := eh116.2 (224) 9 (by decide)
        refine sx_aload_n dX12_goOn_101 rfl ?_
        refine sx_aload_n dX12_goOn_102 rfl ?_
        refine sx_getI (k := 3) cl_12 fl_X12_224 dX12_goOn_103 s_224 (by decide) rfl (by decide) ?_
        have r117 : (0 : Int) ≤ h116 224 3 ∧ h116 224 3 ≤ 1600 := Ih116.1 224 3
        refine sy_putI (k := 7) cl_12 fl_X12_292 dX12_goOn_106 s_224 (by decide) rfl (by decide) rfl rfl (fun h118 eh118 => ?_)
        have Ih118 := Ih116.up eh118 (show (0 : Int) ≤ _ ∧ _ ≤ (1700 : Int) from ⟨by omega, by omega⟩) rfl
        have th118_224_3 := eh118.2 (224) 3 (by decide)
        have th118_224_6 := eh118.2 (224) 6 (by decide)
        have th118_224_7 := eh118.1
        have th118_224_8 := eh118.2 (224) 8 (by decide)
        have th118_224_9 := eh118.2 (224) 9 (by decide)
        refine sx_goto (tgt := 377) dX12_goOn_109 (by decide) ?_
        refine sx_ret dX12_goOn_377 ?_
        exact ⟨rfl, ⟨Ih118, by omega, by omega, by omega⟩⟩
    ·
      refine sx_aload_n dX12_goOn_19 rfl ?_
      refine sx_aload_n dX12_goOn_20 rfl ?_
      refine sx_getI (k := 6) cl_12 fl_X12_295 dX12_goOn_21 s_224 (by decide) rfl (by decide) ?_
      have r119 : (0 : Int) ≤ h3 224 6 ∧ h3 224 6 ≤ 1700 := Ih3.1 224 6
      refine sx_callVi lk_X12_298 cl_12 s_224 (by decide) dX12_goOn_24 (vs := [_]) rfl rfl (Nat.le_of_ble_eq_true rfl) (Nat.le_of_ble_eq_true rfl) rfl (c_X12_sign _ Ih3.1 _ (by omega)) (fun x121 h120 ph120 => ?_)
      obtain ⟨rfl, p_x121⟩ := ph120
      refine sx_bipush dX12_goOn_27 ⟨by decide, by decide, by decide⟩ ?_
      refine sx_icmp_eq (tgt := 45) dX12_goOn_29 (by decide) (fun c122 => ?_) (fun c122 => ?_)
      ·
        refine sx_aload_n dX12_goOn_45 rfl ?_
        refine sx_dupr dX12_goOn_46 ?_
        refine sx_getI (k := 6) cl_12 fl_X12_295 dX12_goOn_47 s_224 (by decide) rfl (by decide) ?_
        have r123 : (0 : Int) ≤ h3 224 6 ∧ h3 224 6 ≤ 1700 := Ih3.1 224 6
        refine sx_iconst dX12_goOn_50 ⟨by decide, by decide⟩ ?_
        refine sx_iadd dX12_goOn_51 ?_
        refine sy_topw (by omega) ?_
        refine sy_putI (k := 6) cl_12 fl_X12_295 dX12_goOn_52 s_224 (by decide) rfl (by decide) rfl rfl (fun h124 eh124 => ?_)
        have Ih124 := Ih3.up eh124 (show (0 : Int) ≤ _ ∧ _ ≤ (1700 : Int) from ⟨by omega, by omega⟩) rfl
        have th124_224_3 := eh124.2 (224) 3 (by decide)
        have th124_224_6 := eh124.1
        have th124_224_7 := eh124.2 (224) 7 (by decide)
        have th124_224_8 := eh124.2 (224) 8 (by decide)
        have th124_224_9 := eh124.2 (224) 9 (by decide)
        refine sx_goto (tgt := 8) dX12_goOn_55 (by decide) ?_
        exact ihh3 _ ⟨Ih124, by omega, by omega, by omega, by omega⟩ (by exact sy_dec (by omega) (by omega))
      ·
        refine sx_aload_n dX12_goOn_32 rfl ?_
        refine sx_aload_n dX12_goOn_33 rfl ?_
        refine sx_getI (k := 6) cl_12 fl_X12_295 dX12_goOn_34 s_224 (by decide) rfl (by decide) ?_
        have r125 : (0 : Int) ≤ h3 224 6 ∧ h3 224 6 ≤ 1700 := Ih3.1 224 6
        refine sx_callVi lk_X12_298 cl_12 s_224 (by decide) dX12_goOn_37 (vs := [_]) rfl rfl (Nat.le_of_ble_eq_true rfl) (Nat.le_of_ble_eq_true rfl) rfl (c_X12_sign _ Ih3.1 _ (by omega)) (fun x127 h126 ph126 => ?_)
        obtain ⟨rfl, p_x127⟩ := ph126
        refine sx_bipush dX12_goOn_40 ⟨by decide, by decide, by decide⟩ ?_
        refine sx_icmp_ne (tgt := 58) dX12_goOn_42 (by decide) (fun c128 => ?_) (fun c128 => ?_)
        ·
          refine sx_aload_n dX12_goOn_58 rfl ?_
          refine sx_aload_n dX12_goOn_59 rfl ?_
          refine sx_getI (k := 6) cl_12 fl_X12_295 dX12_goOn_60 s_224 (by decide) rfl (by decide) ?_
          have r129 : (0 : Int) ≤ h3 224 6 ∧ h3 224 6 ≤ 1700 := Ih3.1 224 6
          refine sx_callVi lk_X12_298 cl_12 s_224 (by decide) dX12_goOn_63 (vs := [_]) rfl rfl (Nat.le_of_ble_eq_true rfl) (Nat.le_of_ble_eq_true rfl) rfl (c_X12_sign _ Ih3.1 _ (by omega)) (fun x131 h130 ph130 => ?_)
          obtain ⟨rfl, p_x131⟩ := ph130
          have sgc := p_x131.2.2.2
          refine sx_istore_n dX12_goOn_66 (by decide) ?_
          refine sx_aload_n dX12_goOn_67 rfl ?_
          refine sx_aload_n dX12_goOn_68 rfl ?_
          refine sx_getI (k := 6) cl_12 fl_X12_295 dX12_goOn_69 s_224 (by decide) rfl (by decide) ?_
          have r132 : (0 : Int) ≤ h3 224 6 ∧ h3 224 6 ≤ 1700 := Ih3.1 224 6
          refine sx_iconst dX12_goOn_72 ⟨by decide, by decide⟩ ?_
          refine sx_iadd dX12_goOn_73 ?_
          refine sy_topw (by omega) ?_
          refine sy_putI (k := 7) cl_12 fl_X12_292 dX12_goOn_74 s_224 (by decide) rfl (by decide) rfl rfl (fun h133 eh133 => ?_)
          have Ih133 := Ih3.up eh133 (show (0 : Int) ≤ _ ∧ _ ≤ (1700 : Int) from ⟨by omega, by omega⟩) rfl
          have sgc := sgc.trans (by rw [sgn_to eh133 (by decide), eh133.2 224 6 (by decide)] : sgn h3 (h3 224 6) = sgn h133 (h133 224 6))
          have th133_224_3 := eh133.2 (224) 3 (by decide)
          have th133_224_6 := eh133.2 (224) 6 (by decide)
          have th133_224_7 := eh133.1
          have th133_224_8 := eh133.2 (224) 8 (by decide)
          have th133_224_9 := eh133.2 (224) 9 (by decide)
          refine sx_aload_n dX12_goOn_77 rfl ?_
          refine sx_getI (k := 6) cl_12 fl_X12_295 dX12_goOn_78 s_224 (by decide) rfl (by decide) ?_
          have r134 : (0 : Int) ≤ h133 224 6 ∧ h133 224 6 ≤ 1700 := Ih133.1 224 6
          refine sx_aload_n dX12_goOn_81 rfl ?_
          refine sx_getI (k := 3) cl_12 fl_X12_224 dX12_goOn_82 s_224 (by decide) rfl (by decide) ?_
          have r135 : (0 : Int) ≤ h133 224 3 ∧ h133 224 3 ≤ 1600 := Ih133.1 224 3
          refine sx_icmp_lt (tgt := 112) dX12_goOn_85 (by decide) (fun c136 => ?_) (fun c136 => ?_)
          ·
            refine sx_iload_n dX12_goOn_112 rfl ?_
            refine sx_callSz lk_X12_305 dX12_goOn_113 (vs := [_]) rfl rfl (Nat.le_of_ble_eq_true rfl) (Nat.le_of_ble_eq_true rfl) rfl (c_X12_isLetter _ Ih133.1 _) (fun x138 h137 zx138 ph137 => ?_)
            obtain ⟨rfl, p_x138⟩ := ph137
            refine sx_if_eq (tgt := 239) dX12_goOn_116 (by decide) (fun c139 => ?_) (fun c139 => ?_)
            ·
              refine sx_iload_n dX12_goOn_239 rfl ?_
              refine sx_callSz lk_X12_317 dX12_goOn_240 (vs := [_]) rfl rfl (Nat.le_of_ble_eq_true rfl) (Nat.le_of_ble_eq_true rfl) rfl (c_X12_isDigit _ Ih133.1 _) (fun x141 h140 zx141 ph140 => ?_)
              obtain ⟨rfl, p_x141⟩ := ph140
              refine sx_if_eq (tgt := 361) dX12_goOn_243 (by decide) (fun c142 => ?_) (fun c142 => ?_)
              ·
                refine sx_aload_n dX12_goOn_361 rfl ?_
                refine sx_iload_n dX12_goOn_362 rfl ?_
                refine sx_callSz lk_X12_323 dX12_goOn_363 (vs := [_]) rfl rfl (Nat.le_of_ble_eq_true rfl) (Nat.le_of_ble_eq_true rfl) rfl (c_X12_isSign _ Ih133.1 _) (fun x144 h143 zx144 ph143 => ?_)
                subst ph143
                refine sx_if_eq (tgt := 373) dX12_goOn_366 (by decide) (fun c145 => ?_) (fun c145 => ?_)
                ·
                  refine sx_iconst dX12_goOn_373 ⟨by decide, by decide⟩ ?_
                  refine sy_putI (k := 8) cl_12 fl_X12_302 dX12_goOn_374 s_224 (by decide) rfl (by decide) rfl rfl (fun h146 eh146 => ?_)
                  have Ih146 := Ih133.up eh146 (show (0 : Int) ≤ _ ∧ _ ≤ (5 : Int) from ⟨by omega, by omega⟩) rfl
                  have th146_224_3 := eh146.2 (224) 3 (by decide)
                  have th146_224_6 := eh146.2 (224) 6 (by decide)
                  have th146_224_7 := eh146.2 (224) 7 (by decide)
                  have th146_224_8 := eh146.1
                  have th146_224_9 := eh146.2 (224) 9 (by decide)
                  refine sx_ret dX12_goOn_377 ?_
                  exact ⟨rfl, ⟨Ih146, by omega, by omega, by omega⟩⟩
                ·
                  refine sx_iconst dX12_goOn_369 ⟨by decide, by decide⟩ ?_
                  refine sx_goto (tgt := 374) dX12_goOn_370 (by decide) ?_
                  refine sy_putI (k := 8) cl_12 fl_X12_302 dX12_goOn_374 s_224 (by decide) rfl (by decide) rfl rfl (fun h147 eh147 => ?_)
                  have Ih147 := Ih133.up eh147 (show (0 : Int) ≤ _ ∧ _ ≤ (5 : Int) from ⟨by omega, by omega⟩) rfl
                  have th147_224_3 := eh147.2 (224) 3 (by decide)
                  have th147_224_6 := eh147.2 (224) 6 (by decide)
                  have th147_224_7 := eh147.2 (224) 7 (by decide)
                  have th147_224_8 := eh147.1
                  have th147_224_9 := eh147.2 (224) 9 (by decide)
                  refine sx_ret dX12_goOn_377 ?_
                  exact ⟨rfl, ⟨Ih147, by omega, by omega, by omega⟩⟩
              ·
                refine sx_aload_n dX12_goOn_246 rfl ?_
                refine sx_iconst dX12_goOn_247 ⟨by decide, by decide⟩ ?_
                refine sy_putI (k := 9) cl_12 fl_X12_320 dX12_goOn_248 s_224 (by decide) rfl (by decide) rfl rfl (fun h148 eh148 => ?_)
                have Ih148 := Ih133.up eh148 (show (0 : Int) ≤ _ ∧ _ ≤ (9999 : Int) from ⟨by omega, by omega⟩) rfl
                have sgc := sgc.trans (by rw [sgn_to eh148 (by decide), eh148.2 224 6 (by decide)] : sgn h133 (h133 224 6) = sgn h148 (h148 224 6))
                have th148_224_3 := eh148.2 (224) 3 (by decide)
                have th148_224_6 := eh148.2 (224) 6 (by decide)
                have th148_224_7 := eh148.2 (224) 7 (by decide)
                have th148_224_8 := eh148.2 (224) 8 (by decide)
                have th148_224_9 := eh148.1
                refine sx_aload_n dX12_goOn_251 rfl ?_
                refine sx_aload_n dX12_goOn_252 rfl ?_
                refine sx_getI (k := 6) cl_12 fl_X12_295 dX12_goOn_253 s_224 (by decide) rfl (by decide) ?_
                have r149 : (0 : Int) ≤ h148 224 6 ∧ h148 224 6 ≤ 1700 := Ih148.1 224 6
                refine sy_putI (k := 7) cl_12 fl_X12_292 dX12_goOn_256 s_224 (by decide) rfl (by decide) rfl rfl (fun h150 eh150 => ?_)
                have Ih150 := Ih148.up eh150 (show (0 : Int) ≤ _ ∧ _ ≤ (1700 : Int) from ⟨by omega, by omega⟩) rfl
                have sgc := sgc.trans (by rw [sgn_to eh150 (by decide), eh150.2 224 6 (by decide)] : sgn h148 (h148 224 6) = sgn h150 (h150 224 6))
                have th150_224_3 := eh150.2 (224) 3 (by decide)
                have th150_224_6 := eh150.2 (224) 6 (by decide)
                have th150_224_7 := eh150.1
                have th150_224_8 := eh150.2 (224) 8 (by decide)
                have th150_224_9 := eh150.2 (224) 9 (by decide)
                refine sx_loop0 (fun (h : sw_H) => (mK (prW [6, 7, 8, 9, 10] []) h0 h) ∧ (h 224 3 = h0 224 3) ∧ (h0 224 7 ≤ h 224 6) ∧ (h 224 6 < h 224 3) ∧ (h 224 6 ≤ h 224 7) ∧ (h 224 7 ≤ h 224 3) ∧ (h 224 6 < h 224 7 ∨ x131 = sgn h (h 224 6)) ∧ ((h 224 7 = h 224 6 ∧ h 224 9 = 0) ∨ (h 224 7 = h 224 6 + 1 ∧ h 224 9 ≤ 9) ∨ (h 224 7 = h 224 6 + 2 ∧ h 224 9 ≤ 99) ∨ (h 224 7 = h 224 6 + 3 ∧ h 224 9 ≤ 999) ∨ h 224 6 + 4 ≤ h 224 7)) (fun (h : sw_H) => (1700 - h 224 7).toNat) (fun (h : sw_H) => sw_E G NH SH (d + 2) mX12_goOn 259 [some (sw_r 224), some (sw_i x131), none] [] h (sw_Qv (fun h' => mK (prW [6, 7, 8, 9, 10] []) h0 h' ∧ (h' 224 7 ≤ h' 224 3 ∧ (h' 224 8 = 0 → h' 224 7 = h' 224 3)) ∧ ((h' 224 8 = 0 ∨ h0 224 7 < h' 224 7)) ∧ (h0 224 7 ≤ h' 224 7)))) ?_ _ ?_
                · rintro h151 ⟨Ih151, b0, b1, b2, b3, b4, jl, jn⟩ ihh151
                  try dsimp only at ihh151
                  refine sx_aload_n dX12_goOn_259 rfl ?_
                  refine sx_aload_n dX12_goOn_260 rfl ?_
                  refine sx_getI (k := 7) cl_12 fl_X12_292 dX12_goOn_261 s_224 (by decide) rfl (by decide) ?_
                  have r152 : (0 : Int) ≤ h151 224 7 ∧ h151 224 7 ≤ 1700 := Ih151.1 224 7
                  refine sx_callVi lk_X12_298 cl_12 s_224 (by decide) dX12_goOn_264 (vs := [_]) rfl rfl (Nat.le_of_ble_eq_true rfl) (Nat.le_of_ble_eq_true rfl) rfl (c_X12_sign _ Ih151.1 _ (by omega)) (fun x154 h153 ph153 => ?_)
                  obtain ⟨rfl, p_x154⟩ := ph153
                  have sgl := p_x154.2.2.2
                  refine sx_callSz lk_X12_317 dX12_goOn_267 (vs := [_]) rfl rfl (Nat.le_of_ble_eq_true rfl) (Nat.le_of_ble_eq_true rfl) rfl (c_X12_isDigit _ Ih151.1 _) (fun x156 h155 zx156 ph155 => ?_)
                  obtain ⟨rfl, p_x156⟩ := ph155
                  refine sx_if_eq (tgt := 322) dX12_goOn_270 (by decide) (fun c157 => ?_) (fun c157 => ?_)
                  ·
                    have hgt : h151 224 6 < h151 224 7 := by by_cases q2 : h151 224 6 < h151 224 7; exact q2; exfalso; rcases jl with q | q; exact q2 q; have q3 : h151 224 7 = h151 224 6 := (by omega); rw [q3, ← q] at sgl; omega
                    refine sx_aload_n dX12_goOn_322 rfl ?_
                    refine sx_aload_n dX12_goOn_323 rfl ?_
                    refine sx_getI (k := 7) cl_12 fl_X12_292 dX12_goOn_324 s_224 (by decide) rfl (by decide) ?_
                    have r158 : (0 : Int) ≤ h151 224 7 ∧ h151 224 7 ≤ 1700 := Ih151.1 224 7
                    refine sx_aload_n dX12_goOn_327 rfl ?_
                    refine sx_getI (k := 6) cl_12 fl_X12_295 dX12_goOn_328 s_224 (by decide) rfl (by decide) ?_
                    have r159 : (0 : Int) ≤ h151 224 6 ∧ h151 224 6 ≤ 1700 := Ih151.1 224 6
                    refine sx_isub dX12_goOn_331 ?_
                    refine sy_topw (by omega) ?_
                    refine sx_iconst dX12_goOn_332 ⟨by decide, by decide⟩ ?_
                    refine sx_icmp_gt (tgt := 350) dX12_goOn_333 (by decide) (fun c160 => ?_) (fun c160 => ?_)
                    ·
                      refine sx_iconst dX12_goOn_350 ⟨by decide, by decide⟩ ?_
                      refine sx_goto (tgt := 355) dX12_goOn_351 (by decide) ?_
                      refine sy_putI (k := 8) cl_12 fl_X12_302 dX12_goOn_355 s_224 (by decide) rfl (by decide) rfl rfl (fun h161 eh161 => ?_)
                      have Ih161 := Ih151.up eh161 (show (0 : Int) ≤ _ ∧ _ ≤ (5 : Int) from ⟨by omega, by omega⟩) rfl
                      have th161_224_3 := eh161.2 (224) 3 (by decide)
                      have th161_224_6 := eh161.2 (224) 6 (by decide)
                      have th161_224_7 := eh161.2 (224) 7 (by decide)
                      have th161_224_8 := eh161.1
                      have th161_224_9 := eh161.2 (224) 9 (by decide)
                      refine sx_goto (tgt := 377) dX12_goOn_358 (by decide) ?_
                      refine sx_ret dX12_goOn_377 ?_
                      exact ⟨rfl, ⟨Ih161, by omega, by omega, by omega⟩⟩
                    ·
                      refine sx_aload_n dX12_goOn_336 rfl ?_
                      refine sx_aload_n dX12_goOn_337 rfl ?_
                      refine sx_getI (k := 7) cl_12 fl_X12_292 dX12_goOn_338 s_224 (by decide) rfl (by decide) ?_
                      have r162 : (0 : Int) ≤ h151 224 7 ∧ h151 224 7 ≤ 1700 := Ih151.1 224 7
                      refine sx_callVi lk_X12_298 cl_12 s_224 (by decide) dX12_goOn_341 (vs := [_]) rfl rfl (Nat.le_of_ble_eq_true rfl) (Nat.le_of_ble_eq_true rfl) rfl (c_X12_sign _ Ih151.1 _ (by omega)) (fun x164 h163 ph163 => ?_)
                      obtain ⟨rfl, p_x164⟩ := ph163
                      refine sx_callSz lk_X12_305 dX12_goOn_344 (vs := [_]) rfl rfl (Nat.le_of_ble_eq_true rfl) (Nat.le_of_ble_eq_true rfl) rfl (c_X12_isLetter _ Ih151.1 _) (fun x166 h165 zx166 ph165 => ?_)
                      obtain ⟨rfl, p_x166⟩ := ph165
                      refine sx_if_eq (tgt := 354) dX12_goOn_347 (by decide) (fun c167 => ?_) (fun c167 => ?_)
                      ·
                        refine sx_iconst dX12_goOn_354 ⟨by decide, by decide⟩ ?_
                        refine sy_putI (k := 8) cl_12 fl_X12_302 dX12_goOn_355 s_224 (by decide) rfl (by decide) rfl rfl (fun h168 eh168 => ?_)
                        have Ih168 := Ih151.up eh168 (show (0 : Int) ≤ _ ∧ _ ≤ (5 : Int) from ⟨by omega, by omega⟩) rfl
                        have th168_224_3 := eh168.2 (224) 3 (by decide)
                        have th168_224_6 := eh168.2 (224) 6 (by decide)
                        have th168_224_7 := eh168.2 (224) 7 (by decide)
                        have th168_224_8 := eh168.1
                        have th168_224_9 := eh168.2 (224) 9 (by decide)
                        refine sx_goto (tgt := 377) dX12_goOn_358 (by decide) ?_
                        refine sx_ret dX12_goOn_377 ?_
                        exact ⟨rfl, ⟨Ih168, by omega, by omega, by omega⟩⟩
                      ·
                        refine sx_iconst dX12_goOn_350 ⟨by decide, by decide⟩ ?_
                        refine sx_goto (tgt := 355) dX12_goOn_351 (by decide) ?_
                        refine sy_putI (k := 8) cl_12 fl_X12_302 dX12_goOn_355 s_224 (by decide) rfl (by decide) rfl rfl (fun h169 eh169 => ?_)
                        have Ih169 := Ih151.up eh169 (show (0 : Int) ≤ _ ∧ _ ≤ (5 : Int) from ⟨by omega, by omega⟩) rfl
                        have th169_224_3 := eh169.2 (224) 3 (by decide)
                        have th169_224_6 := eh169.2 (224) 6 (by decide)
                        have th169_224_7 := eh169.2 (224) 7 (by decide)
                        have th169_224_8 := eh169.1
                        have th169_224_9 := eh169.2 (224) 9 (by decide)
                        refine sx_goto (tgt := 377) dX12_goOn_358 (by decide) ?_
                        refine sx_ret dX12_goOn_377 ?_
                        exact ⟨rfl, ⟨Ih169, by omega, by omega, by omega⟩⟩
                  ·
                    refine sx_aload_n dX12_goOn_273 rfl ?_
                    refine sx_getI (k := 7) cl_12 fl_X12_292 dX12_goOn_274 s_224 (by decide) rfl (by decide) ?_
                    have r170 : (0 : Int) ≤ h151 224 7 ∧ h151 224 7 ≤ 1700 := Ih151.1 224 7
                    refine sx_aload_n dX12_goOn_277 rfl ?_
                    refine sx_getI (k := 6) cl_12 fl_X12_295 dX12_goOn_278 s_224 (by decide) rfl (by decide) ?_
                    have r171 : (0 : Int) ≤ h151 224 6 ∧ h151 224 6 ≤ 1700 := Ih151.1 224 6
                    refine sx_isub dX12_goOn_281 ?_
                    refine sy_topw (by omega) ?_
                    refine sx_iconst dX12_goOn_282 ⟨by decide, by decide⟩ ?_
                    refine sx_icmp_ge (tgt := 309) dX12_goOn_283 (by decide) (fun c172 => ?_) (fun c172 => ?_)
                    ·
                      refine sx_aload_n dX12_goOn_309 rfl ?_
                      refine sx_dupr dX12_goOn_310 ?_
                      refine sx_getI (k := 7) cl_12 fl_X12_292 dX12_goOn_311 s_224 (by decide) rfl (by decide) ?_
                      have r173 : (0 : Int) ≤ h151 224 7 ∧ h151 224 7 ≤ 1700 := Ih151.1 224 7
                      refine sx_iconst dX12_goOn_314 ⟨by decide, by decide⟩ ?_
                      refine sx_iadd dX12_goOn_315 ?_
                      refine sy_topw (by omega) ?_
                      refine sy_putI (k := 7) cl_12 fl_X12_292 dX12_goOn_316 s_224 (by decide) rfl (by decide) rfl rfl (fun h174 eh174 => ?_)
                      have Ih174 := Ih151.up eh174 (show (0 : Int) ≤ _ ∧ _ ≤ (1700 : Int) from ⟨by omega, by omega⟩) rfl
                      have th174_224_3 := eh174.2 (224) 3 (by decide)
                      have th174_224_6 := eh174.2 (224) 6 (by decide)
                      have th174_224_7 := eh174.1
                      have th174_224_8 := eh174.2 (224) 8 (by decide)
                      have th174_224_9 := eh174.2 (224) 9 (by decide)
                      refine sx_goto (tgt := 259) dX12_goOn_319 (by decide) ?_
                      exact ihh151 _ ⟨Ih174, by omega, by omega, by omega, by omega, by omega, by (exact Or.inl (by omega)), by (rcases jn with q | q | q | q | q <;> (first | (exact Or.inl (by omega)) | (exact Or.inr (Or.inl (by omega))) | (exact Or.inr (Or.inr (Or.inl (by omega)))) | (exact Or.inr (Or.inr (Or.inr (Or.inl (by omega))))) | (exact Or.inr (Or.inr (Or.inr (Or.inr (by omega)))))))⟩ (by exact sy_dec (by omega) (by omega))
                    ·
                      have r9 : (0 : Int) ≤ h151 224 9 ∧ h151 224 9 ≤ 9999 := Ih151.1 224 9
                      have jn3 : h151 224 9 ≤ 999 ∧ 0 ≤ h151 224 9 := by rcases jn with q | q | q | q | q <;> omega
                      refine sx_aload_n dX12_goOn_286 rfl ?_
                      refine sx_bipush dX12_goOn_287 ⟨by decide, by decide, by decide⟩ ?_
                      refine sx_aload_n dX12_goOn_289 rfl ?_
                      refine sx_getI (k := 9) cl_12 fl_X12_320 dX12_goOn_290 s_224 (by decide) rfl (by decide) ?_
                      have r175 : (0 : Int) ≤ h151 224 9 ∧ h151 224 9 ≤ 9999 := Ih151.1 224 9
                      refine sx_imul dX12_goOn_293 ?_
                      refine sy_topw (by omega) ?_
                      refine sx_aload_n dX12_goOn_294 rfl ?_
                      refine sx_aload_n dX12_goOn_295 rfl ?_
                      refine sx_getI (k := 7) cl_12 fl_X12_292 dX12_goOn_296 s_224 (by decide) rfl (by decide) ?_
                      have r176 : (0 : Int) ≤ h151 224 7 ∧ h151 224 7 ≤ 1700 := Ih151.1 224 7
                      refine sx_callVi lk_X12_298 cl_12 s_224 (by decide) dX12_goOn_299 (vs := [_]) rfl rfl (Nat.le_of_ble_eq_true rfl) (Nat.le_of_ble_eq_true rfl) rfl (c_X12_sign _ Ih151.1 _ (by omega)) (fun x178 h177 ph177 => ?_)
                      obtain ⟨rfl, p_x178⟩ := ph177
                      refine sx_iadd dX12_goOn_302 ?_
                      refine sy_topw (by omega) ?_
                      refine sx_bipush dX12_goOn_303 ⟨by decide, by decide, by decide⟩ ?_
                      refine sx_isub dX12_goOn_305 ?_
                      refine sy_topw (by omega) ?_
                      refine sy_putI (k := 9) cl_12 fl_X12_320 dX12_goOn_306 s_224 (by decide) rfl (by decide) rfl rfl (fun h179 eh179 => ?_)
                      have Ih179 := Ih151.up eh179 (show (0 : Int) ≤ _ ∧ _ ≤ (9999 : Int) from ⟨by omega, by omega⟩) rfl
                      have th179_224_3 := eh179.2 (224) 3 (by decide)
                      have th179_224_6 := eh179.2 (224) 6 (by decide)
                      have th179_224_7 := eh179.2 (224) 7 (by decide)
                      have th179_224_8 := eh179.2 (224) 8 (by decide)
                      have th179_224_9 := eh179.1
                      refine sx_aload_n dX12_goOn_309 rfl ?_
                      refine sx_dupr dX12_goOn_310 ?_
                      refine sx_getI (k := 7) cl_12 fl_X12_292 dX12_goOn_311 s_224 (by decide) rfl (by decide) ?_
                      have r180 : (0 : Int) ≤ h179 224 7 ∧ h179 224 7 ≤ 1700 := Ih179.1 224 7
                      refine sx_iconst dX12_goOn_314 ⟨by decide, by decide⟩ ?_
                      refine sx_iadd dX12_goOn_315 ?_
                      refine sy_topw (by omega) ?_
                      refine sy_putI (k := 7) cl_12 fl_X12_292 dX12_goOn_316 s_224 (by decide) rfl (by decide) rfl rfl (fun h181 eh181 => ?_)
                      have Ih181 := Ih179.up eh181 (show (0 : Int) ≤ _ ∧ _ ≤ (1700 : Int) from ⟨by omega, by omega⟩) rfl
                      have th181_224_3 := eh181.2 (224) 3 (by decide)
                      have th181_224_6 := eh181.2 (224) 6 (by decide)
                      have th181_224_7 := eh181.1
                      have th181_224_8 := eh181.2 (224) 8 (by decide)
                      have th181_224_9 := eh181.2 (224) 9 (by decide)
                      refine sx_goto (tgt := 259) dX12_goOn_319 (by decide) ?_
                      exact ihh151 _ ⟨Ih181, by omega, by omega, by omega, by omega, by omega, by (exact Or.inl (by omega)), by (rcases jn with q | q | q | q | q <;> (first | (exact Or.inl (by omega)) | (exact Or.inr (Or.inl (by omega))) | (exact Or.inr (Or.inr (Or.inl (by omega)))) | (exact Or.inr (Or.inr (Or.inr (Or.inl (by omega))))) | (exact Or.inr (Or.inr (Or.inr (Or.inr (by omega)))))))⟩ (by exact sy_dec (by omega) (by omega))
                · exact ⟨Ih150, by omega, by omega, by omega, by omega, by omega, by (exact Or.inr sgc), by (exact Or.inl (by omega))⟩
            ·
              refine sx_loop0 (fun (h : sw_H) => (mK (prW [6, 7, 8, 9, 10] []) h0 h) ∧ (h 224 3 = h0 224 3) ∧ (h0 224 7 ≤ h 224 6) ∧ (h 224 6 < h 224 3) ∧ (h 224 6 < h 224 7) ∧ (h 224 7 ≤ h 224 3)) (fun (h : sw_H) => (1700 - h 224 7).toNat) (fun (h : sw_H) => sw_E G NH SH (d + 2) mX12_goOn 119 [some (sw_r 224), some (sw_i x131), none] [] h (sw_Qv (fun h' => mK (prW [6, 7, 8, 9, 10] []) h0 h' ∧ (h' 224 7 ≤ h' 224 3 ∧ (h' 224 8 = 0 → h' 224 7 = h' 224 3)) ∧ ((h' 224 8 = 0 ∨ h0 224 7 < h' 224 7)) ∧ (h0 224 7 ≤ h' 224 7)))) ?_ _ ?_
              · rintro h182 ⟨Ih182, j183, j184, j185, j186, j187⟩ ihh182
                try dsimp only at ihh182
                refine sx_aload_n dX12_goOn_119 rfl ?_
                refine sx_aload_n dX12_goOn_120 rfl ?_
                refine sx_getI (k := 7) cl_12 fl_X12_292 dX12_goOn_121 s_224 (by decide) rfl (by decide) ?_
                have r188 : (0 : Int) ≤ h182 224 7 ∧ h182 224 7 ≤ 1700 := Ih182.1 224 7
                refine sx_callVi lk_X12_298 cl_12 s_224 (by decide) dX12_goOn_124 (vs := [_]) rfl rfl (Nat.le_of_ble_eq_true rfl) (Nat.le_of_ble_eq_true rfl) rfl (c_X12_sign _ Ih182.1 _ (by omega)) (fun x190 h189 ph189 => ?_)
                obtain ⟨rfl, p_x190⟩ := ph189
                refine sx_callSz lk_X12_305 dX12_goOn_127 (vs := [_]) rfl rfl (Nat.le_of_ble_eq_true rfl) (Nat.le_of_ble_eq_true rfl) rfl (c_X12_isLetter _ Ih182.1 _) (fun x192 h191 zx192 ph191 => ?_)
                obtain ⟨rfl, p_x192⟩ := ph191
                refine sx_if_eq (tgt := 146) dX12_goOn_130 (by decide) (fun c193 => ?_) (fun c193 => ?_)
                ·
                  refine sx_aload_n dX12_goOn_146 rfl ?_
                  refine sx_lconst dX12_goOn_147 rfl ?_
                  refine sy_putL (k := 10) cl_12 fl_X12_309 dX12_goOn_148 s_224 (by decide) rfl (by decide) rfl rfl (fun h194 eh194 => ?_)
                  have Ih194 := Ih182.up eh194 trivial rfl
                  have th194_224_3 := eh194.2 (224) 3 (by decide)
                  have th194_224_6 := eh194.2 (224) 6 (by decide)
                  have th194_224_7 := eh194.2 (224) 7 (by decide)
                  have th194_224_8 := eh194.2 (224) 8 (by decide)
                  have th194_224_9 := eh194.2 (224) 9 (by decide)
                  refine sx_aload_n dX12_goOn_151 rfl ?_
                  refine sx_getI (k := 6) cl_12 fl_X12_295 dX12_goOn_152 s_224 (by decide) rfl (by decide) ?_
                  have r195 : (0 : Int) ≤ h194 224 6 ∧ h194 224 6 ≤ 1700 := Ih194.1 224 6
                  refine sy_top (fun v196 ev196 => ?_)
                  refine sx_istore_n dX12_goOn_155 (by decide) ?_
                  refine sx_loop1 (fun (h : sw_H) (k : Int) => (mK (prW [6, 7, 8, 9, 10] []) h0 h) ∧ (h 224 3 = h0 224 3) ∧ (h0 224 7 ≤ h 224 6) ∧ (h 224 6 < h 224 3) ∧ (h 224 6 < h 224 7) ∧ (h 224 7 ≤ h 224 3) ∧ (0 ≤ k)) (fun (h : sw_H) (k : Int) => (1700 - k).toNat) (fun (h : sw_H) (k : Int) => sw_E G NH SH (d + 2) mX12_goOn 156 [some (sw_r 224), some (sw_i x131), some (sw_i k)] [] h (sw_Qv (fun h' => mK (prW [6, 7, 8, 9, 10] []) h0 h' ∧ (h' 224 7 ≤ h' 224 3 ∧ (h' 224 8 = 0 → h' 224 7 = h' 224 3)) ∧ ((h' 224 8 = 0 ∨ h0 224 7 < h' 224 7)) ∧ (h0 224 7 ≤ h' 224 7)))) ?_ _ _ ?_
                  · rintro h197 k_198 ⟨Ih197, j199, j200, j201, j202, j203, j204⟩ ihh197
                    try dsimp only at ihh197
                    refine sx_iload_n dX12_goOn_156 rfl ?_
                    refine sx_aload_n dX12_goOn_157 rfl ?_
                    refine sx_getI (k := 7) cl_12 fl_X12_292 dX12_goOn_158 s_224 (by decide) rfl (by decide) ?_
                    have r205 : (0 : Int) ≤ h197 224 7 ∧ h197 224 7 ≤ 1700 := Ih197.1 224 7
                    refine sx_icmp_ge (tgt := 199) dX12_goOn_161 (by decide) (fun c206 => ?_) (fun c206 => ?_)
                    ·
                      refine sx_aload_n dX12_goOn_199 rfl ?_
                      refine sx_aload_n dX12_goOn_200 rfl ?_
                      refine sx_getI (k := 7) cl_12 fl_X12_292 dX12_goOn_201 s_224 (by decide) rfl (by decide) ?_
                      have r207 : (0 : Int) ≤ h197 224 7 ∧ h197 224 7 ≤ 1700 := Ih197.1 224 7
                      refine sx_aload_n dX12_goOn_204 rfl ?_
                      refine sx_getI (k := 6) cl_12 fl_X12_295 dX12_goOn_205 s_224 (by decide) rfl (by decide) ?_
                      have r208 : (0 : Int) ≤ h197 224 6 ∧ h197 224 6 ≤ 1700 := Ih197.1 224 6
                      refine sx_isub dX12_goOn_208 ?_
                      refine sy_topw (by omega) ?_
                      refine sx_bipush dX12_goOn_209 ⟨by decide, by decide, by decide⟩ ?_
                      refine sx_icmp_le (tgt := 218) dX12_goOn_211 (by decide) (fun c209 => ?_) (fun c209 => ?_)
                      ·
                        refine sx_aload_n dX12_goOn_218 rfl ?_
                        refine sx_getL (k := 10) cl_12 fl_X12_309 dX12_goOn_219 s_224 (by decide) rfl (by decide) ?_
                        refine sx_callSz lk_X12_313 dX12_goOn_222 (vs := [_]) rfl rfl (Nat.le_of_ble_eq_true rfl) (Nat.le_of_ble_eq_true rfl) rfl (c_X12_isKept _ Ih197.1 _) (fun x211 h210 zx211 ph210 => ?_)
                        subst ph210
                        refine sx_if_eq (tgt := 232) dX12_goOn_225 (by decide) (fun c212 => ?_) (fun c212 => ?_)
                        ·
                          refine sx_iconst dX12_goOn_232 ⟨by decide, by decide⟩ ?_
                          refine sy_putI (k := 8) cl_12 fl_X12_302 dX12_goOn_233 s_224 (by decide) rfl (by decide) rfl rfl (fun h213 eh213 => ?_)
                          have Ih213 := Ih197.up eh213 (show (0 : Int) ≤ _ ∧ _ ≤ (5 : Int) from ⟨by omega, by omega⟩) rfl
                          have th213_224_3 := eh213.2 (224) 3 (by decide)
                          have th213_224_6 := eh213.2 (224) 6 (by decide)
                          have th213_224_7 := eh213.2 (224) 7 (by decide)
                          have th213_224_8 := eh213.1
                          have th213_224_9 := eh213.2 (224) 9 (by decide)
                          refine sx_goto (tgt := 377) dX12_goOn_236 (by decide) ?_
                          refine sx_ret dX12_goOn_377 ?_
                          exact ⟨rfl, ⟨Ih213, by omega, by omega, by omega⟩⟩
                        ·
                          refine sx_iconst dX12_goOn_228 ⟨by decide, by decide⟩ ?_
                          refine sx_goto (tgt := 233) dX12_goOn_229 (by decide) ?_
                          refine sy_putI (k := 8) cl_12 fl_X12_302 dX12_goOn_233 s_224 (by decide) rfl (by decide) rfl rfl (fun h214 eh214 => ?_)
                          have Ih214 := Ih197.up eh214 (show (0 : Int) ≤ _ ∧ _ ≤ (5 : Int) from ⟨by omega, by omega⟩) rfl
                          have th214_224_3 := eh214.2 (224) 3 (by decide)
                          have th214_224_6 := eh214.2 (224) 6 (by decide)
                          have th214_224_7 := eh214.2 (224) 7 (by decide)
                          have th214_224_8 := eh214.1
                          have th214_224_9 := eh214.2 (224) 9 (by decide)
                          refine sx_goto (tgt := 377) dX12_goOn_236 (by decide) ?_
                          refine sx_ret dX12_goOn_377 ?_
                          exact ⟨rfl, ⟨Ih214, by omega, by omega, by omega⟩⟩
                      ·
                        refine sx_iconst dX12_goOn_214 ⟨by decide, by decide⟩ ?_
                        refine sx_goto (tgt := 233) dX12_goOn_215 (by decide) ?_
                        refine sy_putI (k := 8) cl_12 fl_X12_302 dX12_goOn_233 s_224 (by decide) rfl (by decide) rfl rfl (fun h215 eh215 => ?_)
                        have Ih215 := Ih197.up eh215 (show (0 : Int) ≤ _ ∧ _ ≤ (5 : Int) from ⟨by omega, by omega⟩) rfl
                        have th215_224_3 := eh215.2 (224) 3 (by decide)
                        have th215_224_6 := eh215.2 (224) 6 (by decide)
                        have th215_224_7 := eh215.2 (224) 7 (by decide)
                        have th215_224_8 := eh215.1
                        have th215_224_9 := eh215.2 (224) 9 (by decide)
                        refine sx_goto (tgt := 377) dX12_goOn_236 (by decide) ?_
                        refine sx_ret dX12_goOn_377 ?_
                        exact ⟨rfl, ⟨Ih215, by omega, by omega, by omega⟩⟩
                    ·
                      refine sx_iload_n dX12_goOn_164 rfl ?_
                      refine sx_aload_n dX12_goOn_165 rfl ?_
                      refine sx_getI (k := 6) cl_12 fl_X12_295 dX12_goOn_166 s_224 (by decide) rfl (by decide) ?_
                      have r216 : (0 : Int) ≤ h197 224 6 ∧ h197 224 6 ≤ 1700 := Ih197.1 224 6
                      refine sx_bipush dX12_goOn_169 ⟨by decide, by decide, by decide⟩ ?_
                      refine sx_iadd dX12_goOn_171 ?_
                      refine sy_topw (by omega) ?_
                      refine sx_icmp_ge (tgt := 199) dX12_goOn_172 (by decide) (fun c217 => ?_) (fun c217 => ?_)
                      ·
                        refine sx_aload_n dX12_goOn_199 rfl ?_
                        refine sx_aload_n dX12_goOn_200 rfl ?_
                        refine sx_getI (k := 7) cl_12 fl_X12_292 dX12_goOn_201 s_224 (by decide) rfl (by decide) ?_
                        have r218 : (0 : Int) ≤ h197 224 7 ∧ h197 224 7 ≤ 1700 := Ih197.1 224 7
                        refine sx_aload_n dX12_goOn_204 rfl ?_
                        refine sx_getI (k := 6) cl_12 fl_X12_295 dX12_goOn_205 s_224 (by decide) rfl (by decide) ?_
                        have r219 : (0 : Int) ≤ h197 224 6 ∧ h197 224 6 ≤ 1700 := Ih197.1 224 6
                        refine sx_isub dX12_goOn_208 ?_
                        refine sy_topw (by omega) ?_
                        refine sx_bipush dX12_goOn_209 ⟨by decide, by decide, by decide⟩ ?_
                        refine sx_icmp_le (tgt := 218) dX12_goOn_211 (by decide) (fun c220 => ?_) (fun c220 => ?_)
                        ·
                          refine sx_aload_n dX12_goOn_218 rfl ?_
                          refine sx_getL (k := 10) cl_12 fl_X12_309 dX12_goOn_219 s_224 (by decide) rfl (by decide) ?_
                          refine sx_callSz lk_X12_313 dX12_goOn_222 (vs := [_]) rfl rfl (Nat.le_of_ble_eq_true rfl) (Nat.le_of_ble_eq_true rfl) rfl (c_X12_isKept _ Ih197.1 _) (fun x222 h221 zx222 ph221 => ?_)
                          subst ph221
                          refine sx_if_eq (tgt := 232) dX12_goOn_225 (by decide) (fun c223 => ?_) (fun c223 => ?_)
                          ·
                            refine sx_iconst dX12_goOn_232 ⟨by decide, by decide⟩ ?_
                            refine sy_putI (k := 8) cl_12 fl_X12_302 dX12_goOn_233 s_224 (by decide) rfl (by decide) rfl rfl (fun h224 eh224 => ?_)
                            have Ih224 := Ih197.up eh224 (show (0 : Int) ≤ _ ∧ _ ≤ (5 : Int) from ⟨by omega, by omega⟩) rfl
                            have th224_224_3 := eh224.2 (224) 3 (by decide)
                            have th224_224_6 := eh224.2 (224) 6 (by decide)
                            have th224_224_7 := eh224.2 (224) 7 (by decide)
                            have th224_224_8 := eh224.1
                            have th224_224_9 := eh224.2 (224) 9 (by decide)
                            refine sx_goto (tgt := 377) dX12_goOn_236 (by decide) ?_
                            refine sx_ret dX12_goOn_377 ?_
                            exact ⟨rfl, ⟨Ih224, by omega, by omega, by omega⟩⟩
                          ·
                            refine sx_iconst dX12_goOn_228 ⟨by decide, by decide⟩ ?_
                            refine sx_goto (tgt := 233) dX12_goOn_229 (by decide) ?_
                            refine sy_putI (k := 8) cl_12 fl_X12_302 dX12_goOn_233 s_224 (by decide) rfl (by decide) rfl rfl (fun h225 eh225 => ?_)
                            have Ih225 := Ih197.up eh225 (show (0 : Int) ≤ _ ∧ _ ≤ (5 : Int) from ⟨by omega, by omega⟩) rfl
                            have th225_224_3 := eh225.2 (224) 3 (by decide)
                            have th225_224_6 := eh225.2 (224) 6 (by decide)
                            have th225_224_7 := eh225.2 (224) 7 (by decide)
                            have th225_224_8 := eh225.1
                            have th225_224_9 := eh225.2 (224) 9 (by decide)
                            refine sx_goto (tgt := 377) dX12_goOn_236 (by decide) ?_
                            refine sx_ret dX12_goOn_377 ?_
                            exact ⟨rfl, ⟨Ih225, by omega, by omega, by omega⟩⟩
                        ·
                          refine sx_iconst dX12_goOn_214 ⟨by decide, by decide⟩ ?_
                          refine sx_goto (tgt := 233) dX12_goOn_215 (by decide) ?_
                          refine sy_putI (k := 8) cl_12 fl_X12_302 dX12_goOn_233 s_224 (by decide) rfl (by decide) rfl rfl (fun h226 eh226 => ?_)
                          have Ih226 := Ih197.up eh226 (show (0 : Int) ≤ _ ∧ _ ≤ (5 : Int) from ⟨by omega, by omega⟩) rfl
                          have th226_224_3 := eh226.2 (224) 3 (by decide)
                          have th226_224_6 := eh226.2 (224) 6 (by decide)
                          have th226_224_7 := eh226.2 (224) 7 (by decide)
                          have th226_224_8 := eh226.1
                          have th226_224_9 := eh226.2 (224) 9 (by decide)
                          refine sx_goto (tgt := 377) dX12_goOn_236 (by decide) ?_
                          refine sx_ret dX12_goOn_377 ?_
                          exact ⟨rfl, ⟨Ih226, by omega, by omega, by omega⟩⟩
                      ·
                        refine sx_aload_n dX12_goOn_175 rfl ?_
                        refine sx_aload_n dX12_goOn_176 rfl ?_
                        refine sx_getL (k := 10) cl_12 fl_X12_309 dX12_goOn_177 s_224 (by decide) rfl (by decide) ?_
                        refine sx_bipush dX12_goOn_180 ⟨by decide, by decide, by decide⟩ ?_
                        refine sx_lshl dX12_goOn_182 ?_
                        refine sx_aload_n dX12_goOn_183 rfl ?_
                        refine sx_iload_n dX12_goOn_184 rfl ?_
                        refine sx_callVi lk_X12_298 cl_12 s_224 (by decide) dX12_goOn_185 (vs := [_]) rfl rfl (Nat.le_of_ble_eq_true rfl) (Nat.le_of_ble_eq_true rfl) rfl (c_X12_sign _ Ih197.1 _ (by omega)) (fun x228 h227 ph227 => ?_)
                        obtain ⟨rfl, p_x228⟩ := ph227
                        refine sx_i2l dX12_goOn_188 ?_
                        refine sx_lor dX12_goOn_189 ?_
                        refine sy_putL (k := 10) cl_12 fl_X12_309 dX12_goOn_190 s_224 (by decide) rfl (by decide) rfl rfl (fun h229 eh229 => ?_)
                        have Ih229 := Ih197.up eh229 trivial rfl
                        have th229_224_3 := eh229.2 (224) 3 (by decide)
                        have th229_224_6 := eh229.2 (224) 6 (by decide)
                        have th229_224_7 := eh229.2 (224) 7 (by decide)
                        have th229_224_8 := eh229.2 (224) 8 (by decide)
                        have th229_224_9 := eh229.2 (224) 9 (by decide)
                        refine sx_iinc dX12_goOn_193 (by decide) rfl ?_
                        rw [sw_w_id (by omega) (by omega)]
                        refine sx_goto (tgt := 156) dX12_goOn_196 (by decide) ?_
                        exact ihh197 _ _ ⟨Ih229, by omega, by omega, by omega, by omega, by omega, by omega⟩ (by exact sy_dec (by omega) (by omega))
                  · exact ⟨Ih194, by omega, by omega, by omega, by omega, by omega, by omega⟩
                ·
                  refine sx_aload_n dX12_goOn_133 rfl ?_
                  refine sx_dupr dX12_goOn_134 ?_
                  refine sx_getI (k := 7) cl_12 fl_X12_292 dX12_goOn_135 s_224 (by decide) rfl (by decide) ?_
                  have r230 : (0 : Int) ≤ h182 224 7 ∧ h182 224 7 ≤ 1700 := Ih182.1 224 7
                  refine sx_iconst dX12_goOn_138 ⟨by decide, by decide⟩ ?_
                  refine sx_iadd dX12_goOn_139 ?_
                  refine sy_topw (by omega) ?_
                  refine sy_putI (k := 7) cl_12 fl_X12_292 dX12_goOn_140 s_224 (by decide) rfl (by decide) rfl rfl (fun h231 eh231 => ?_)
                  have Ih231 := Ih182.up eh231 (show (0 : Int) ≤ _ ∧ _ ≤ (1700 : Int) from ⟨by omega, by omega⟩) rfl
                  have th231_224_3 := eh231.2 (224) 3 (by decide)
                  have th231_224_6 := eh231.2 (224) 6 (by decide)
                  have th231_224_7 := eh231.1
                  have th231_224_8 := eh231.2 (224) 8 (by decide)
                  have th231_224_9 := eh231.2 (224) 9 (by decide)
                  refine sx_goto (tgt := 119) dX12_goOn_143 (by decide) ?_
                  exact ihh182 _ ⟨Ih231, by omega, by omega, by omega, by omega, by omega⟩ (by exact sy_dec (by omega) (by omega))
              · exact ⟨Ih133, by omega, by omega, by omega, by omega, by omega⟩
          ·
            refine sx_aload_n dX12_goOn_88 rfl ?_
            refine sx_iconst dX12_goOn_89 ⟨by decide, by decide⟩ ?_
            refine sy_putI (k := 8) cl_12 fl_X12_302 dX12_goOn_90 s_224 (by decide) rfl (by decide) rfl rfl (fun h232 eh232 => ?_)
            have Ih232 := Ih133.up eh232 (show (0 : Int) ≤ _ ∧ _ ≤ (5 : Int) from ⟨by omega, by omega⟩) rfl
            have th232_224_3 := eh232.2 (224) 3 (by decide)
            have th232_224_6 := eh232.2 (224) 6 (by decide)
            have th232_224_7 := eh232.2 (224) 7 (by decide)
            have th232_224_8 := eh232.1
            have th232_224_9 := eh232.2 (224) 9 (by decide)
            refine sx_aload_n dX12_goOn_93 rfl ?_
            refine sx_aload_n dX12_goOn_94 rfl ?_
            refine sx_getI (k := 3) cl_12 fl_X12_224 dX12_goOn_95 s_224 (by decide) rfl (by decide) ?_
            have r233 : (0 : Int) ≤ h232 224 3 ∧ h232 224 3 ≤ 1600 := Ih232.1 224 3
            refine sy_putI (k := 6) cl_12 fl_X12_295 dX12_goOn_98 s_224 (by decide) rfl (by decide) rfl rfl (fun h234 eh234 => ?_)
            have Ih234 := Ih232.up eh234 (show (0 : Int) ≤ _ ∧ _ ≤ (1700 : Int) from ⟨by omega, by omega⟩) rfl
            have th234_224_3 := eh234.2 (224) 3 (by decide)
            have th234_224_6 := eh234.1
            have th234_224_7 := eh234.2 (224) 7 (by decide)
            have th234_224_8 := eh234.2 (224) 8 (by decide)
            have th234_224_9 := eh234.2 (224) 9 (by decide)
            refine sx_aload_n dX12_goOn_101 rfl ?_
            refine sx_aload_n dX12_goOn_102 rfl ?_
            refine sx_getI (k := 3) cl_12 fl_X12_224 dX12_goOn_103 s_224 (by decide) rfl (by decide) ?_
            have r235 : (0 : Int) ≤ h234 224 3 ∧ h234 224 3 ≤ 1600 := Ih234.1 224 3
            refine sy_putI (k := 7) cl_12 fl_X12_292 dX12_goOn_106 s_224 (by decide) rfl (by decide) rfl rfl (fun h236 eh236 => ?_)
            have Ih236 := Ih234.up eh236 (show (0 : Int) ≤ _ ∧ _ ≤ (1700 : Int) from ⟨by omega, by omega⟩) rfl
            have th236_224_3 := eh236.2 (224) 3 (by decide)
            have th236_224_6 := eh236.2 (224) 6 (by decide)
            have th236_224_7 := eh236.1
            have th236_224_8 := eh236.2 (224) 8 (by decide)
            have th236_224_9 := eh236.2 (224) 9 (by decide)
            refine sx_goto (tgt := 377) dX12_goOn_109 (by decide) ?_
            refine sx_ret dX12_goOn_377 ?_
            exact ⟨rfl, ⟨Ih236, by omega, by omega, by omega⟩⟩
        ·
          refine sx_aload_n dX12_goOn_45 rfl ?_
          refine sx_dupr dX12_goOn_46 ?_
          refine sx_getI (k := 6) cl_12 fl_X12_295 dX12_goOn_47 s_224 (by decide) rfl (by decide) ?_
          have r237 : (0 : Int) ≤ h3 224 6 ∧ h3 224 6 ≤ 1700 := Ih3.1 224 6
          refine sx_iconst dX12_goOn_50 ⟨by decide, by decide⟩ ?_
          refine sx_iadd dX12_goOn_51 ?_
          refine sy_topw (by omega) ?_
          refine sy_putI (k := 6) cl_12 fl_X12_295 dX12_goOn_52 s_224 (by decide) rfl (by decide) rfl rfl (fun h238 eh238 => ?_)
          have Ih238 := Ih3.up eh238 (show (0 : Int) ≤ _ ∧ _ ≤ (1700 : Int) from ⟨by omega, by omega⟩) rfl
          have th238_224_3 := eh238.2 (224) 3 (by decide)
          have th238_224_6 := eh238.1
          have th238_224_7 := eh238.2 (224) 7 (by decide)
          have th238_224_8 := eh238.2 (224) 8 (by decide)
          have th238_224_9 := eh238.2 (224) 9 (by decide)
          refine sx_goto (tgt := 8) dX12_goOn_55 (by decide) ?_
          exact ihh3 _ ⟨Ih238, by omega, by omega, by omega, by omega⟩ (by exact sy_dec (by omega) (by omega))
  · exact ⟨Ih2, by omega, by omega, by omega, by omega⟩
set_option maxRecDepth 20000 in
set_option maxHeartbeats 4000000 in
theorem c_X12_must {G : sw_G} (d : Nat) {h0 : sw_H} (hJ : mI h0) (y1 : Int) (ht : h0 224 7 ≤ h0 224 3 ∧ (h0 224 8 = 0 → h0 224 7 = h0 224 3))  : sw_E G NH SH (d + 3) mX12_must 0 [some (sw_r 224), some (sw_i y1)] [] h0 (sw_Qv (fun h' => mK (prW [4, 5, 6, 7, 8, 9, 10] []) h0 h' ∧ (h' 224 7 ≤ h' 224 3 ∧ (h' 224 8 = 0 → h' 224 7 = h' 224 3)) ∧ (h0 224 7 ≤ h' 224 7 ∧ (h0 224 8 = 0 → h' 224 8 = 0)) ∧ ((y1 = 0 → 1 ≤ h' 224 4) ∧ (h0 224 4 ≠ 0 → h' 224 4 ≠ 0) ∧ (h' 224 4 = 0 → h' 224 8 = 0 ∨ h0 224 7 < h' 224 7)))) := by
  have hI : mK (prW [4, 5, 6, 7, 8, 9, 10] []) h0 h0 := mK.refl hJ
  have r4 : (0 : Int) ≤ h0 224 4 ∧ h0 224 4 ≤ 7 := hI.1 224 4
  refine sx_aload_n dX12_must_0 rfl ?_
  refine sx_callVz lk_X12_330 cl_12 s_224 (by decide) dX12_must_1 (vs := []) rfl rfl (Nat.le_of_ble_eq_true rfl) (Nat.le_of_ble_eq_true rfl) rfl (c_X12_isGood _ hI.1) (fun x2 h1 zx2 ph1 => ?_)
  obtain ⟨rfl, p_x2⟩ := ph1
  refine sx_if_ne (tgt := 8) dX12_must_4 (by decide) (fun c3 => ?_) (fun c3 => ?_)
  ·
    refine sx_iload_n dX12_must_8 rfl ?_
    refine sx_if_eq (tgt := 19) dX12_must_9 (by decide) (fun c4 => ?_) (fun c4 => ?_)
    ·
      refine sx_aload_n dX12_must_19 rfl ?_
      refine sx_callVv lk_X12_337 cl_12 s_224 (by decide) dX12_must_20 (vs := []) rfl rfl (Nat.le_of_ble_eq_true rfl) (Nat.le_of_ble_eq_true rfl) rfl (c_X12_misplaced _ hI.1) (fun h5 ph5 => ?_)
      obtain ⟨Kh5, g_h5⟩ := ph5
      have Ih5 := hI.tr Kh5 (prW_sub rfl rfl)
      have th5_224_3 := Kh5.2 224 3 rfl
      have th5_224_6 := Kh5.2 224 6 rfl
      have th5_224_7 := Kh5.2 224 7 rfl
      have th5_224_8 := Kh5.2 224 8 rfl
      refine sx_ret dX12_must_23 ?_
      exact ⟨rfl, ⟨Ih5, by omega, by omega, by omega⟩⟩
    ·
      refine sx_aload_n dX12_must_12 rfl ?_
      refine sx_callVv lk_X12_334 cl_12 s_224 (by decide) dX12_must_13 (vs := []) rfl rfl (Nat.le_of_ble_eq_true rfl) (Nat.le_of_ble_eq_true rfl) rfl (c_X12_goOn _ hI.1 (by omega)) (fun h7 ph7 => ?_)
      obtain ⟨Kh7, a_h7, s_h7, l_h7⟩ := ph7
      have Ih7 := hI.tr Kh7 (prW_sub rfl rfl)
      have th7_224_3 := Kh7.2 224 3 rfl
      have th7_224_4 := Kh7.2 224 4 rfl
      refine sx_goto (tgt := 23) dX12_must_16 (by decide) ?_
      refine sx_ret dX12_must_23 ?_
      exact ⟨rfl, ⟨Ih7, by omega, by omega, by omega⟩⟩
  ·
    refine sx_ret dX12_must_7 ?_
    exact ⟨rfl, ⟨hI, by omega, by omega, by omega⟩⟩
set_option maxRecDepth 20000 in
set_option maxHeartbeats 4000000 in
theorem c_X12_numeral {G : sw_G} (d : Nat) {h0 : sw_H} (hJ : mI h0) (y1 y2 : Int) (ht : h0 224 7 ≤ h0 224 3 ∧ (h0 224 8 = 0 → h0 224 7 = h0 224 3)) (hb : y1 ≤ y2)  : sw_E G NH SH (d + 3) mX12_numeral 0 [some (sw_r 224), some (sw_i y1), some (sw_i y2), none] [] h0 (sw_Qi (fun z h' => mK (prW [4, 5, 6, 7, 8, 9, 10] []) h0 h' ∧ (h' 224 7 ≤ h' 224 3 ∧ (h' 224 8 = 0 → h' 224 7 = h' 224 3)) ∧ (h0 224 7 ≤ h' 224 7 ∧ (h0 224 8 = 0 → h' 224 8 = 0)) ∧ ((h0 224 4 ≠ 0 → h' 224 4 ≠ 0)) ∧ (y1 ≤ z ∧ z ≤ y2))) := by
  have hI : mK (prW [4, 5, 6, 7, 8, 9, 10] []) h0 h0 := mK.refl hJ
  refine sx_aload_n dX12_numeral_0 rfl ?_
  refine sx_callVz lk_X12_330 cl_12 s_224 (by decide) dX12_numeral_1 (vs := []) rfl rfl (Nat.le_of_ble_eq_true rfl) (Nat.le_of_ble_eq_true rfl) rfl (c_X12_isGood _ hI.1) (fun x2 h1 zx2 ph1 => ?_)
  obtain ⟨rfl, p_x2⟩ := ph1
  refine sx_if_ne (tgt := 9) dX12_numeral_4 (by decide) (fun c3 => ?_) (fun c3 => ?_)
  ·
    refine sx_aload_n dX12_numeral_9 rfl ?_
    refine sx_getI (k := 8) cl_12 fl_X12_302 dX12_numeral_10 s_224 (by decide) rfl (by decide) ?_
    have r4 : (0 : Int) ≤ h0 224 8 ∧ h0 224 8 ≤ 5 := hI.1 224 8
    refine sx_iconst dX12_numeral_13 ⟨by decide, by decide⟩ ?_
    refine sx_icmp_eq (tgt := 21) dX12_numeral_14 (by decide) (fun c5 => ?_) (fun c5 => ?_)
    ·
      refine sx_aload_n dX12_numeral_21 rfl ?_
      refine sx_callVz lk_X12_330 cl_12 s_224 (by decide) dX12_numeral_22 (vs := []) rfl rfl (Nat.le_of_ble_eq_true rfl) (Nat.le_of_ble_eq_true rfl) rfl (c_X12_isGood _ hI.1) (fun x7 h6 zx7 ph6 => ?_)
      obtain ⟨rfl, p_x7⟩ := ph6
      refine sx_if_eq (tgt := 53) dX12_numeral_25 (by decide) (fun c8 => ?_) (fun c8 => ?_)
      ·
        exfalso; omega
      ·
        refine sx_aload_n dX12_numeral_28 rfl ?_
        refine sx_getI (k := 9) cl_12 fl_X12_320 dX12_numeral_29 s_224 (by decide) rfl (by decide) ?_
        have r9 : (0 : Int) ≤ h0 224 9 ∧ h0 224 9 ≤ 9999 := hI.1 224 9
        refine sx_iload_n dX12_numeral_32 rfl ?_
        refine sx_icmp_lt (tgt := 44) dX12_numeral_33 (by decide) (fun c10 => ?_) (fun c10 => ?_)
        ·
          refine sx_aload_n dX12_numeral_44 rfl ?_
          refine sx_iconst dX12_numeral_45 ⟨by decide, by decide⟩ ?_
          refine sx_aload_n dX12_numeral_46 rfl ?_
          refine sx_getI (k := 6) cl_12 fl_X12_295 dX12_numeral_47 s_224 (by decide) rfl (by decide) ?_
          have r11 : (0 : Int) ≤ h0 224 6 ∧ h0 224 6 ≤ 1700 := hI.1 224 6
          refine sx_callVv lk_X12_326 cl_12 s_224 (by decide) dX12_numeral_50 (vs := [_, _]) rfl rfl (Nat.le_of_ble_eq_true rfl) (Nat.le_of_ble_eq_true rfl) rfl (c_X12_fails _ hI.1 _ _ (by omega)) (fun h12 ph12 => ?_)
          obtain ⟨Kh12, g_h12⟩ := ph12
          have Ih12 := hI.tr Kh12 (prW_sub rfl rfl)
          have th12_224_3 := Kh12.2 224 3 rfl
          have th12_224_6 := Kh12.2 224 6 rfl
          have th12_224_7 := Kh12.2 224 7 rfl
          have th12_224_8 := Kh12.2 224 8 rfl
          have th12_224_9 := Kh12.2 224 9 rfl
          refine sx_aload_n dX12_numeral_53 rfl ?_
          refine sx_getI (k := 9) cl_12 fl_X12_320 dX12_numeral_54 s_224 (by decide) rfl (by decide) ?_
          have r14 : (0 : Int) ≤ h12 224 9 ∧ h12 224 9 ≤ 9999 := Ih12.1 224 9
          refine sy_top (fun v15 ev15 => ?_)
          refine sx_istore_n dX12_numeral_57 (by decide) ?_
          refine sx_aload_n dX12_numeral_58 rfl ?_
          refine sx_callVz lk_X12_330 cl_12 s_224 (by decide) dX12_numeral_59 (vs := []) rfl rfl (Nat.le_of_ble_eq_true rfl) (Nat.le_of_ble_eq_true rfl) rfl (c_X12_isGood _ Ih12.1) (fun x17 h16 zx17 ph16 => ?_)
          obtain ⟨rfl, p_x17⟩ := ph16
          refine sx_if_eq (tgt := 69) dX12_numeral_62 (by decide) (fun c18 => ?_) (fun c18 => ?_)
          ·
            refine sx_aload_n dX12_numeral_69 rfl ?_
            refine sx_callVz lk_X12_330 cl_12 s_224 (by decide) dX12_numeral_70 (vs := []) rfl rfl (Nat.le_of_ble_eq_true rfl) (Nat.le_of_ble_eq_true rfl) rfl (c_X12_isGood _ Ih12.1) (fun x20 h19 zx20 ph19 => ?_)
            obtain ⟨rfl, p_x20⟩ := ph19
            refine sx_if_eq (tgt := 80) dX12_numeral_73 (by decide) (fun c21 => ?_) (fun c21 => ?_)
            ·
              refine sx_iload_n dX12_numeral_80 rfl ?_
              refine sx_ireturn dX12_numeral_81 ?_
              exact ⟨_, rfl, ⟨Ih12, by omega, by omega, by omega, by omega⟩⟩
            ·
              exfalso; omega
          ·
            exfalso; omega
        ·
          refine sx_aload_n dX12_numeral_36 rfl ?_
          refine sx_getI (k := 9) cl_12 fl_X12_320 dX12_numeral_37 s_224 (by decide) rfl (by decide) ?_
          have r22 : (0 : Int) ≤ h0 224 9 ∧ h0 224 9 ≤ 9999 := hI.1 224 9
          refine sx_iload_n dX12_numeral_40 rfl ?_
          refine sx_icmp_le (tgt := 53) dX12_numeral_41 (by decide) (fun c23 => ?_) (fun c23 => ?_)
          ·
            refine sx_aload_n dX12_numeral_53 rfl ?_
            refine sx_getI (k := 9) cl_12 fl_X12_320 dX12_numeral_54 s_224 (by decide) rfl (by decide) ?_
            have r24 : (0 : Int) ≤ h0 224 9 ∧ h0 224 9 ≤ 9999 := hI.1 224 9
            refine sy_top (fun v25 ev25 => ?_)
            refine sx_istore_n dX12_numeral_57 (by decide) ?_
            refine sx_aload_n dX12_numeral_58 rfl ?_
            refine sx_callVz lk_X12_330 cl_12 s_224 (by decide) dX12_numeral_59 (vs := []) rfl rfl (Nat.le_of_ble_eq_true rfl) (Nat.le_of_ble_eq_true rfl) rfl (c_X12_isGood _ hI.1) (fun x27 h26 zx27 ph26 => ?_)
            obtain ⟨rfl, p_x27⟩ := ph26
            refine sx_if_eq (tgt := 69) dX12_numeral_62 (by decide) (fun c28 => ?_) (fun c28 => ?_)
            ·
              exfalso; omega
            ·
              refine sx_aload_n dX12_numeral_65 rfl ?_
              refine sx_callVv lk_X12_334 cl_12 s_224 (by decide) dX12_numeral_66 (vs := []) rfl rfl (Nat.le_of_ble_eq_true rfl) (Nat.le_of_ble_eq_true rfl) rfl (c_X12_goOn _ hI.1 (by omega)) (fun h29 ph29 => ?_)
              obtain ⟨Kh29, a_h29, s_h29, l_h29⟩ := ph29
              have Ih29 := hI.tr Kh29 (prW_sub rfl rfl)
              have th29_224_3 := Kh29.2 224 3 rfl
              have th29_224_4 := Kh29.2 224 4 rfl
              refine sx_aload_n dX12_numeral_69 rfl ?_
              refine sx_callVz lk_X12_330 cl_12 s_224 (by decide) dX12_numeral_70 (vs := []) rfl rfl (Nat.le_of_ble_eq_true rfl) (Nat.le_of_ble_eq_true rfl) rfl (c_X12_isGood _ Ih29.1) (fun x32 h31 zx32 ph31 => ?_)
              obtain ⟨rfl, p_x32⟩ := ph31
              refine sx_if_eq (tgt := 80) dX12_numeral_73 (by decide) (fun c33 => ?_) (fun c33 => ?_)
              ·
                exfalso; omega
              ·
                refine sx_iload_n dX12_numeral_76 rfl ?_
                refine sx_goto (tgt := 81) dX12_numeral_77 (by decide) ?_
                refine sx_ireturn dX12_numeral_81 ?_
                exact ⟨_, rfl, ⟨Ih29, by omega, by omega, by omega, by omega⟩⟩
          ·
            refine sx_aload_n dX12_numeral_44 rfl ?_
            refine sx_iconst dX12_numeral_45 ⟨by decide, by decide⟩ ?_
            refine sx_aload_n dX12_numeral_46 rfl ?_
            refine sx_getI (k := 6) cl_12 fl_X12_295 dX12_numeral_47 s_224 (by decide) rfl (by decide) ?_
            have r34 : (0 : Int) ≤ h0 224 6 ∧ h0 224 6 ≤ 1700 := hI.1 224 6
            refine sx_callVv lk_X12_326 cl_12 s_224 (by decide) dX12_numeral_50 (vs := [_, _]) rfl rfl (Nat.le_of_ble_eq_true rfl) (Nat.le_of_ble_eq_true rfl) rfl (c_X12_fails _ hI.1 _ _ (by omega)) (fun h35 ph35 => ?_)
            obtain ⟨Kh35, g_h35⟩ := ph35
            have Ih35 := hI.tr Kh35 (prW_sub rfl rfl)
            have th35_224_3 := Kh35.2 224 3 rfl
            have th35_224_6 := Kh35.2 224 6 rfl
            have th35_224_7 := Kh35.2 224 7 rfl
            have th35_224_8 := Kh35.2 224 8 rfl
            have th35_224_9 := Kh35.2 224 9 rfl
            refine sx_aload_n dX12_numeral_53 rfl ?_
            refine sx_getI (k := 9) cl_12 fl_X12_320 dX12_numeral_54 s_224 (by decide) rfl (by decide) ?_
            have r37 : (0 : Int) ≤ h35 224 9 ∧ h35 224 9 ≤ 9999 := Ih35.1 224 9
            refine sy_top (fun v38 ev38 => ?_)
            refine sx_istore_n dX12_numeral_57 (by decide) ?_
            refine sx_aload_n dX12_numeral_58 rfl ?_
            refine sx_callVz lk_X12_330 cl_12 s_224 (by decide) dX12_numeral_59 (vs := []) rfl rfl (Nat.le_of_ble_eq_true rfl) (Nat.le_of_ble_eq_true rfl) rfl (c_X12_isGood _ Ih35.1) (fun x40 h39 zx40 ph39 => ?_)
            obtain ⟨rfl, p_x40⟩ := ph39
            refine sx_if_eq (tgt := 69) dX12_numeral_62 (by decide) (fun c41 => ?_) (fun c41 => ?_)
            ·
              refine sx_aload_n dX12_numeral_69 rfl ?_
              refine sx_callVz lk_X12_330 cl_12 s_224 (by decide) dX12_numeral_70 (vs := []) rfl rfl (Nat.le_of_ble_eq_true rfl) (Nat.le_of_ble_eq_true rfl) rfl (c_X12_isGood _ Ih35.1) (fun x43 h42 zx43 ph42 => ?_)
              obtain ⟨rfl, p_x43⟩ := ph42
              refine sx_if_eq (tgt := 80) dX12_numeral_73 (by decide) (fun c44 => ?_) (fun c44 => ?_)
              ·
                refine sx_iload_n dX12_numeral_80 rfl ?_
                refine sx_ireturn dX12_numeral_81 ?_
                exact ⟨_, rfl, ⟨Ih35, by omega, by omega, by omega, by omega⟩⟩
              ·
                exfalso; omega
            ·
              exfalso; omega
    ·
      refine sx_aload_n dX12_numeral_17 rfl ?_
      refine sx_callVv lk_X12_337 cl_12 s_224 (by decide) dX12_numeral_18 (vs := []) rfl rfl (Nat.le_of_ble_eq_true rfl) (Nat.le_of_ble_eq_true rfl) rfl (c_X12_misplaced _ hI.1) (fun h45 ph45 => ?_)
      obtain ⟨Kh45, g_h45⟩ := ph45
      have Ih45 := hI.tr Kh45 (prW_sub rfl rfl)
      have th45_224_3 := Kh45.2 224 3 rfl
      have th45_224_6 := Kh45.2 224 6 rfl
      have th45_224_7 := Kh45.2 224 7 rfl
      have th45_224_8 := Kh45.2 224 8 rfl
      have th45_224_9 := Kh45.2 224 9 rfl
      refine sx_aload_n dX12_numeral_21 rfl ?_
      refine sx_callVz lk_X12_330 cl_12 s_224 (by decide) dX12_numeral_22 (vs := []) rfl rfl (Nat.le_of_ble_eq_true rfl) (Nat.le_of_ble_eq_true rfl) rfl (c_X12_isGood _ Ih45.1) (fun x48 h47 zx48 ph47 => ?_)
      obtain ⟨rfl, p_x48⟩ := ph47
      refine sx_if_eq (tgt := 53) dX12_numeral_25 (by decide) (fun c49 => ?_) (fun c49 => ?_)
      ·
        refine sx_aload_n dX12_numeral_53 rfl ?_
        refine sx_getI (k := 9) cl_12 fl_X12_320 dX12_numeral_54 s_224 (by decide) rfl (by decide) ?_
        have r50 : (0 : Int) ≤ h45 224 9 ∧ h45 224 9 ≤ 9999 := Ih45.1 224 9
        refine sy_top (fun v51 ev51 => ?_)
        refine sx_istore_n dX12_numeral_57 (by decide) ?_
        refine sx_aload_n dX12_numeral_58 rfl ?_
        refine sx_callVz lk_X12_330 cl_12 s_224 (by decide) dX12_numeral_59 (vs := []) rfl rfl (Nat.le_of_ble_eq_true rfl) (Nat.le_of_ble_eq_true rfl) rfl (c_X12_isGood _ Ih45.1) (fun x53 h52 zx53 ph52 => ?_)
        obtain ⟨rfl, p_x53⟩ := ph52
        refine sx_if_eq (tgt := 69) dX12_numeral_62 (by decide) (fun c54 => ?_) (fun c54 => ?_)
        ·
          refine sx_aload_n dX12_numeral_69 rfl ?_
          refine sx_callVz lk_X12_330 cl_12 s_224 (by decide) dX12_numeral_70 (vs := []) rfl rfl (Nat.le_of_ble_eq_true rfl) (Nat.le_of_ble_eq_true rfl) rfl (c_X12_isGood _ Ih45.1) (fun x56 h55 zx56 ph55 => ?_)
          obtain ⟨rfl, p_x56⟩ := ph55
          refine sx_if_eq (tgt := 80) dX12_numeral_73 (by decide) (fun c57 => ?_) (fun c57 => ?_)
          ·
            refine sx_iload_n dX12_numeral_80 rfl ?_
            refine sx_ireturn dX12_numeral_81 ?_
            exact ⟨_, rfl, ⟨Ih45, by omega, by omega, by omega, by omega⟩⟩
          ·
            exfalso; omega
        ·
          exfalso; omega
      ·
        exfalso; omega
  ·
    refine sx_iload_n dX12_numeral_7 rfl ?_
    refine sx_ireturn dX12_numeral_8 ?_
    exact ⟨_, rfl, ⟨hI, by omega, by omega, by omega, by omega⟩⟩

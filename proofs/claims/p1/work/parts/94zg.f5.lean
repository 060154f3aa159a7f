-- ===== code of an empty TAPE =====
set_option maxRecDepth 20000 in
set_option maxHeartbeats 4000000 in
theorem f_X12_code {G : sw_G} (d : Nat) {h0 : sw_H} (hJ : mI h0) (hB : mB h0) (hF : FM h0)  : sw_E G NH SH (d + 8) mX12_code 0 [some (sw_r 224), none] [] h0 (sw_Qi (fun z h' => mK (prW [2, 3, 4, 5, 6, 7, 8, 9, 10, 36, 37, 38, 73, 74, 83, 99] [226, 227, 228, 229, 230, 231, 232, 261, 289]) h0 h' ∧ (z = 0))) := by
  have hI : mK (prW [2, 3, 4, 5, 6, 7, 8, 9, 10, 36, 37, 38, 73, 74, 83, 99] [226, 227, 228, 229, 230, 231, 232, 261, 289]) h0 h0 := mK.refl hJ
  obtain ⟨b0, r0, t2, k4, k5, a3, a4, l3, s9, t0, z7, z8, z9, z10, z12, z61, z89⟩ := hF
  refine sx_aload_n dX12_code_0 rfl ?_
  refine sx_iconst dX12_code_1 ⟨by decide, by decide⟩ ?_
  refine sy_putI (k := 4) cl_12 fl_X12_227 dX12_code_2 s_224 (by decide) rfl (by decide) rfl rfl (fun h1 eh1 => ?_)
  have Ih1 := hI.up eh1 (show (0 : Int) ≤ _ ∧ _ ≤ (7 : Int) from ⟨by omega, by omega⟩) rfl
  have th1_224_2 := eh1.2 (224) 2 (by decide)
  have th1_224_3 := eh1.2 (224) 3 (by decide)
  have th1_224_4 := eh1.1
  have th1_224_7 := eh1.2 (224) 7 (by decide)
  have th1_224_8 := eh1.2 (224) 8 (by decide)
  have th1_224_36 := eh1.2 (224) 36 (by decide)
  have th1_224_37 := eh1.2 (224) 37 (by decide)
  have th1_227_1 := eh1.2 (227) 1 (fun q => absurd q.1 (by decide))
  refine sx_aload_n dX12_code_5 rfl ?_
  refine sx_iconst dX12_code_6 ⟨by decide, by decide⟩ ?_
  refine sy_putI (k := 5) cl_12 fl_X12_16 dX12_code_7 s_224 (by decide) rfl (by decide) rfl rfl (fun h2 eh2 => ?_)
  have Ih2 := Ih1.up eh2 trivial rfl
  have th2_224_2 := eh2.2 (224) 2 (by decide)
  have th2_224_3 := eh2.2 (224) 3 (by decide)
  have th2_224_4 := eh2.2 (224) 4 (by decide)
  have th2_224_7 := eh2.2 (224) 7 (by decide)
  have th2_224_8 := eh2.2 (224) 8 (by decide)
  have th2_224_36 := eh2.2 (224) 36 (by decide)
  have th2_224_37 := eh2.2 (224) 37 (by decide)
  have th2_227_1 := eh2.2 (227) 1 (fun q => absurd q.1 (by decide))
  refine sx_aload_n dX12_code_10 rfl ?_
  refine sx_aload_n dX12_code_11 rfl ?_
  refine sx_getI (k := 2) cl_12 fl_X12_346 dX12_code_12 s_224 (by decide) rfl (by decide) ?_
  have r3 : (0 : Int) ≤ h2 224 2 ∧ h2 224 2 ≤ 1600 := Ih2.1 224 2
  refine sy_putI (k := 3) cl_12 fl_X12_224 dX12_code_15 s_224 (by decide) rfl (by decide) rfl rfl (fun h4 eh4 => ?_)
  have Ih4 := Ih2.up eh4 (show (0 : Int) ≤ _ ∧ _ ≤ (1600 : Int) from ⟨by omega, by omega⟩) rfl
  have th4_224_2 := eh4.2 (224) 2 (by decide)
  have th4_224_3 := eh4.1
  have th4_224_4 := eh4.2 (224) 4 (by decide)
  have th4_224_7 := eh4.2 (224) 7 (by decide)
  have th4_224_8 := eh4.2 (224) 8 (by decide)
  have th4_224_36 := eh4.2 (224) 36 (by decide)
  have th4_224_37 := eh4.2 (224) 37 (by decide)
  have th4_227_1 := eh4.2 (227) 1 (fun q => absurd q.1 (by decide))
  refine sx_iconst dX12_code_18 ⟨by decide, by decide⟩ ?_
  refine sx_istore_n dX12_code_19 (by decide) ?_
  refine sx_iload_n dX12_code_20 rfl ?_
  refine sx_aload_n dX12_code_21 rfl ?_
  refine sx_getI (k := 3) cl_12 fl_X12_224 dX12_code_22 s_224 (by decide) rfl (by decide) ?_
  have r5 : (0 : Int) ≤ h4 224 3 ∧ h4 224 3 ≤ 1600 := Ih4.1 224 3
  refine sx_icmp_ge (tgt := 46) dX12_code_25 (by decide) (fun c6 => ?_) (fun c6 => ?_)
  ·
    refine sx_aload_n dX12_code_46 rfl ?_
    refine sx_iconst dX12_code_47 ⟨by decide, by decide⟩ ?_
    refine sy_putI (k := 2) cl_12 fl_X12_346 dX12_code_48 s_224 (by decide) rfl (by decide) rfl rfl (fun h7 eh7 => ?_)
    have Ih7 := Ih4.up eh7 (show (0 : Int) ≤ _ ∧ _ ≤ (1600 : Int) from ⟨by omega, by omega⟩) rfl
    have th7_224_2 := eh7.1
    have th7_224_3 := eh7.2 (224) 3 (by decide)
    have th7_224_4 := eh7.2 (224) 4 (by decide)
    have th7_224_7 := eh7.2 (224) 7 (by decide)
    have th7_224_8 := eh7.2 (224) 8 (by decide)
    have th7_224_36 := eh7.2 (224) 36 (by decide)
    have th7_224_37 := eh7.2 (224) 37 (by decide)
    have th7_227_1 := eh7.2 (227) 1 (fun q => absurd q.1 (by decide))
    refine sx_aload_n dX12_code_51 rfl ?_
    refine sx_iconst dX12_code_52 ⟨by decide, by decide⟩ ?_
    refine sy_putI (k := 7) cl_12 fl_X12_292 dX12_code_53 s_224 (by decide) rfl (by decide) rfl rfl (fun h8 eh8 => ?_)
    have Ih8 := Ih7.up eh8 (show (0 : Int) ≤ _ ∧ _ ≤ (1700 : Int) from ⟨by omega, by omega⟩) rfl
    have th8_224_2 := eh8.2 (224) 2 (by decide)
    have th8_224_3 := eh8.2 (224) 3 (by decide)
    have th8_224_4 := eh8.2 (224) 4 (by decide)
    have th8_224_7 := eh8.1
    have th8_224_8 := eh8.2 (224) 8 (by decide)
    have th8_224_36 := eh8.2 (224) 36 (by decide)
    have th8_224_37 := eh8.2 (224) 37 (by decide)
    have th8_227_1 := eh8.2 (227) 1 (fun q => absurd q.1 (by decide))
    refine sx_aload_n dX12_code_56 rfl ?_
    refine sx_iconst dX12_code_57 ⟨by decide, by decide⟩ ?_
    refine sx_aload_n dX12_code_58 rfl ?_
    refine sx_getI (k := 36) cl_12 fl_X12_349 dX12_code_59 s_224 (by decide) rfl (by decide) ?_
    have r9 : (0 : Int) ≤ h8 224 36 ∧ h8 224 36 ≤ 1 := Ih8.1 224 36
    refine sx_isub dX12_code_62 ?_
    refine sy_topw (by omega) ?_
    refine sy_putI (k := 37) cl_12 fl_X12_340 dX12_code_63 s_224 (by decide) rfl (by decide) rfl rfl (fun h10 eh10 => ?_)
    have Ih10 := Ih8.up eh10 (show (0 : Int) ≤ _ ∧ _ ≤ (1 : Int) from ⟨by omega, by omega⟩) rfl
    have th10_224_2 := eh10.2 (224) 2 (by decide)
    have th10_224_3 := eh10.2 (224) 3 (by decide)
    have th10_224_4 := eh10.2 (224) 4 (by decide)
    have th10_224_7 := eh10.2 (224) 7 (by decide)
    have th10_224_8 := eh10.2 (224) 8 (by decide)
    have th10_224_36 := eh10.2 (224) 36 (by decide)
    have th10_224_37 := eh10.1
    have th10_227_1 := eh10.2 (227) 1 (fun q => absurd q.1 (by decide))
    refine sx_aload_n dX12_code_66 rfl ?_
    refine sx_callVv lk_X12_218 cl_12 s_224 (by decide) dX12_code_67 (vs := []) rfl rfl (Nat.le_of_ble_eq_true rfl) (Nat.le_of_ble_eq_true rfl) rfl (c_X12_clearBank _ Ih10.1 0 (⟨by omega, by decide⟩)) (fun h11 ph11 => ?_)
    obtain ⟨Kh11, c_h11, e_h11⟩ := ph11
    have Ih11 := Ih10.tr Kh11 (prWB_sub rfl rfl)
    have th11_224_2 := Kh11.2 224 2 rfl
    have th11_224_3 := Kh11.2 224 3 rfl
    have th11_224_4 := Kh11.2 224 4 rfl
    have th11_224_7 := Kh11.2 224 7 rfl
    have th11_224_8 := Kh11.2 224 8 rfl
    have th11_224_36 := Kh11.2 224 36 rfl
    have th11_224_37 := Kh11.2 224 37 rfl
    have w1 : h11 227 1 = 0 := by have q := e_h11; rw [show (h10 224 37).toNat = 1 by omega] at q; exact q.1
    refine sx_aload_n dX12_code_70 rfl ?_
    refine sx_callVv lk_X12_334 cl_12 s_224 (by decide) dX12_code_71 (vs := []) rfl rfl (Nat.le_of_ble_eq_true rfl) (Nat.le_of_ble_eq_true rfl) rfl (c_X12_goOn _ Ih11.1 (by omega)) (fun h13 ph13 => ?_)
    obtain ⟨Kh13, a_h13, s_h13, l_h13⟩ := ph13
    have Ih13 := Ih11.tr Kh13 (prW_sub rfl rfl)
    have th13_224_2 := Kh13.2 224 2 rfl
    have th13_224_3 := Kh13.2 224 3 rfl
    have th13_224_4 := Kh13.2 224 4 rfl
    have th13_224_36 := Kh13.2 224 36 rfl
    have th13_224_37 := Kh13.2 224 37 rfl
    have th13_227_1 := Kh13.2 227 1 rfl
    refine sx_aload_n dX12_code_74 rfl ?_
    refine sx_callVz lk_X12_330 cl_12 s_224 (by decide) dX12_code_75 (vs := []) rfl rfl (Nat.le_of_ble_eq_true rfl) (Nat.le_of_ble_eq_true rfl) rfl (c_X12_isGood _ Ih13.1) (fun x16 h15 zx16 ph15 => ?_)
    obtain ⟨rfl, p_x16⟩ := ph15
    refine sx_if_eq (tgt := 95) dX12_code_78 (by decide) (fun c17 => ?_) (fun c17 => ?_)
    ·
      replace p_x16 := mt p_x16.mpr (show ¬ (x16 = 1) by rw [c17]; decide)
      clear zx16
      exfalso; omega
    ·
      have vx16 : x16 = 1 := by rcases zx16 with q | q; (exact absurd q c17); exact q
      replace p_x16 := p_x16.mp vx16
      clear zx16
      refine sx_aload_n dX12_code_81 rfl ?_
      refine sx_getI (k := 8) cl_12 fl_X12_302 dX12_code_82 s_224 (by decide) rfl (by decide) ?_
      have r18 : (0 : Int) ≤ h13 224 8 ∧ h13 224 8 ≤ 5 := Ih13.1 224 8
      refine sx_if_eq (tgt := 95) dX12_code_85 (by decide) (fun c19 => ?_) (fun c19 => ?_)
      ·
        refine sx_aload_n dX12_code_95 rfl ?_
        refine sx_callVz lk_X12_330 cl_12 s_224 (by decide) dX12_code_96 (vs := []) rfl rfl (Nat.le_of_ble_eq_true rfl) (Nat.le_of_ble_eq_true rfl) rfl (c_X12_isGood _ Ih13.1) (fun x21 h20 zx21 ph20 => ?_)
        obtain ⟨rfl, p_x21⟩ := ph20
        refine sx_if_ne (tgt := 104) dX12_code_99 (by decide) (fun c22 => ?_) (fun c22 => ?_)
        ·
          have vx21 : x21 = 1 := by rcases zx21 with q | q; (exact absurd q c22); exact q
          replace p_x21 := p_x21.mp vx21
          clear zx21
          refine sx_aload_n dX12_code_104 rfl ?_
          refine sx_aload_n dX12_code_105 rfl ?_
          refine sx_getI (k := 37) cl_12 fl_X12_340 dX12_code_106 s_224 (by decide) rfl (by decide) ?_
          have r23 : (0 : Int) ≤ h13 224 37 ∧ h13 224 37 ≤ 1 := Ih13.1 224 37
          refine sy_putI (k := 36) cl_12 fl_X12_349 dX12_code_109 s_224 (by decide) rfl (by decide) rfl rfl (fun h24 eh24 => ?_)
          have Ih24 := Ih13.up eh24 (show (0 : Int) ≤ _ ∧ _ ≤ (1 : Int) from ⟨by omega, by omega⟩) rfl
          have th24_224_2 := eh24.2 (224) 2 (by decide)
          have th24_224_3 := eh24.2 (224) 3 (by decide)
          have th24_224_4 := eh24.2 (224) 4 (by decide)
          have th24_224_7 := eh24.2 (224) 7 (by decide)
          have th24_224_8 := eh24.2 (224) 8 (by decide)
          have th24_224_36 := eh24.1
          have th24_224_37 := eh24.2 (224) 37 (by decide)
          have th24_227_1 := eh24.2 (227) 1 (fun q => absurd q.1 (by decide))
          refine sx_aload_n dX12_code_112 rfl ?_
          refine sx_callVv lk_X12_221 cl_12 s_224 (by decide) dX12_code_113 (vs := []) rfl rfl (Nat.le_of_ble_eq_true rfl) (Nat.le_of_ble_eq_true rfl) rfl (c_X12_startAnew _ Ih24.1) (fun h25 ph25 => ?_)
          obtain ⟨Kh25, s_h25⟩ := ph25
          have Ih25 := Ih24.tr Kh25 (prW_sub rfl rfl)
          have th25_224_2 := Kh25.2 224 2 rfl
          have th25_224_3 := Kh25.2 224 3 rfl
          have th25_224_4 := Kh25.2 224 4 rfl
          have th25_224_7 := Kh25.2 224 7 rfl
          have th25_224_8 := Kh25.2 224 8 rfl
          have th25_224_36 := Kh25.2 224 36 rfl
          have th25_224_37 := Kh25.2 224 37 rfl
          have th25_227_1 := Kh25.2 227 1 rfl
          refine sx_aload_n dX12_code_116 rfl ?_
          refine sx_getS (k := 11) (t := 227) cl_12 fl_X12_20 dX12_code_117 s_224 (by decide) rfl (by decide) ?_
          refine sx_aload_n dX12_code_120 rfl ?_
          refine sx_getI (k := 36) cl_12 fl_X12_349 dX12_code_121 s_224 (by decide) rfl (by decide) ?_
          have r27 : (0 : Int) ≤ h25 224 36 ∧ h25 224 36 ≤ 1 := Ih25.1 224 36
          refine sy_iaF (F := fun z => (0 : Int) ≤ z ∧ z ≤ 6) dX12_code_124 s_227 (by decide) (by decide) ⟨by omega, by omega⟩ (Ih25.1 227 _) (fun r28 => ?_)
          refine sx_ireturn dX12_code_125 ?_
          exact ⟨_, rfl, ⟨Ih25, by rw [show (h25 224 36).toNat = 1 by omega]; omega⟩⟩
        ·
          exfalso; omega
      ·
        exfalso; omega
  ·
    exfalso; omega
set_option maxRecDepth 20000 in
set_option maxHeartbeats 4000000 in
theorem f_X0_takePlainly_13 {G : sw_G} (d : Nat) {h0 : sw_H} (hJ : cJ h0)  : sw_E G NH SH (d) mX0_takePlainly 0 [some (sw_r 13), none] [] h0 (sw_Qv (fun h' => cK pr0 h0 h' ∧ h' 13 0 = h0 13 0)) := by
  have hI : cK pr0 h0 h0 := cK.refl hJ
  refine sx_iconst dX0_takePlainly_0 ⟨by decide, by decide⟩ ?_
  refine sx_istore_n dX0_takePlainly_1 (by decide) ?_
  refine sx_loop1 (fun (h : sw_H) (i : Int) => (cK pr0 h0 h) ∧ (0 ≤ i) ∧ (h 13 0 = h0 13 0)) (fun (h : sw_H) (i : Int) => (57 - i).toNat) (fun (h : sw_H) (i : Int) => sw_E G NH SH (d) mX0_takePlainly 2 [some (sw_r 13), some (sw_i i)] [] h (sw_Qv (fun h' => cK pr0 h0 h' ∧ h' 13 0 = h0 13 0))) ?_ _ _ ?_
  · rintro h1 i_2 ⟨Ih1, j3, j4⟩ ihh1
    try dsimp only at ihh1
    refine sx_iload_n dX0_takePlainly_2 rfl ?_
    refine sx_aload_n dX0_takePlainly_3 rfl ?_
    refine sx_getS (k := 15) (t := 24) cl_0 fl_X0_42 dX0_takePlainly_4 s_13 (by decide) rfl (by decide) ?_
    refine sx_alen (t := 0) dX0_takePlainly_7 s_24 (by decide) (by decide) (by decide) ?_
    refine sx_icmp_ge (tgt := 29) dX0_takePlainly_8 (by decide) (fun c5 => ?_) (fun c5 => ?_)
    ·
      refine sx_ret dX0_takePlainly_29 ?_
      exact ⟨rfl, ⟨Ih1, by omega⟩⟩
    ·
      refine sx_aload_n dX0_takePlainly_11 rfl ?_
      refine sx_getS (k := 15) (t := 24) cl_0 fl_X0_42 dX0_takePlainly_12 s_13 (by decide) rfl (by decide) ?_
      refine sx_iload_n dX0_takePlainly_15 rfl ?_
      refine sx_iconst dX0_takePlainly_16 ⟨by decide, by decide⟩ ?_
      refine sx_iload_n dX0_takePlainly_17 rfl ?_
      refine sx_bipush dX0_takePlainly_18 ⟨by decide, by decide, by decide⟩ ?_
      refine sx_idiv dX0_takePlainly_20 (by first | omega | (rw [Int.tmod_eq_emod_of_nonneg (by omega)]; omega) | (rw [Int.tdiv_eq_ediv_of_nonneg (by omega)]; omega)) ?_
      refine sy_topw (by first | omega | (rw [Int.tmod_eq_emod_of_nonneg (by omega)]; omega) | (rw [Int.tdiv_eq_ediv_of_nonneg (by omega)]; omega)) ?_
      refine sx_iadd dX0_takePlainly_21 ?_
      refine sy_topw (by first | omega | (rw [Int.tmod_eq_emod_of_nonneg (by omega)]; omega) | (rw [Int.tdiv_eq_ediv_of_nonneg (by omega)]; omega)) ?_
      refine sy_iastore dX0_takePlainly_22 s_24 (by decide) (by decide) ⟨by first | omega | (rw [Int.tmod_eq_emod_of_nonneg (by omega)]; omega) | (rw [Int.tdiv_eq_ediv_of_nonneg (by omega)]; omega), by first | omega | (rw [Int.tmod_eq_emod_of_nonneg (by omega)]; omega) | (rw [Int.tdiv_eq_ediv_of_nonneg (by omega)]; omega)⟩ (fun h6 eh6 => ?_)
      have Ih6 := Ih1.up eh6 trivial rfl rfl
      have th6_13_0 := eh6.2 (13) 0 (by omega)
      refine sx_iinc dX0_takePlainly_23 (by decide) rfl ?_
      rw [sw_w_id (by first | omega | (rw [Int.tmod_eq_emod_of_nonneg (by omega)]; omega) | (rw [Int.tdiv_eq_ediv_of_nonneg (by omega)]; omega)) (by first | omega | (rw [Int.tmod_eq_emod_of_nonneg (by omega)]; omega) | (rw [Int.tdiv_eq_ediv_of_nonneg (by omega)]; omega))]
      refine sx_goto (tgt := 2) dX0_takePlainly_26 (by decide) ?_
      exact ihh1 _ _ ⟨Ih6, by first | omega | (rw [Int.tmod_eq_emod_of_nonneg (by omega)]; omega) | (rw [Int.tdiv_eq_ediv_of_nonneg (by omega)]; omega), by first | omega | (rw [Int.tmod_eq_emod_of_nonneg (by omega)]; omega) | (rw [Int.tdiv_eq_ediv_of_nonneg (by omega)]; omega)⟩ (by exact sy_dec (by first | omega | (rw [Int.tmod_eq_emod_of_nonneg (by omega)]; omega) | (rw [Int.tdiv_eq_ediv_of_nonneg (by omega)]; omega)) (by first | omega | (rw [Int.tmod_eq_emod_of_nonneg (by omega)]; omega) | (rw [Int.tdiv_eq_ediv_of_nonneg (by omega)]; omega)))
  · exact ⟨hI, by first | omega | (rw [Int.tmod_eq_emod_of_nonneg (by omega)]; omega) | (rw [Int.tdiv_eq_ediv_of_nonneg (by omega)]; omega), by first | omega | (rw [Int.tmod_eq_emod_of_nonneg (by omega)]; omega) | (rw [Int.tdiv_eq_ediv_of_nonneg (by omega)]; omega)⟩
set_option maxRecDepth 20000 in
set_option maxHeartbeats 4000000 in
theorem f_X0_empty_13 {G : sw_G} (d : Nat) {h0 : sw_H} (hJ : cJ h0)  : sw_E G NH SH (d + 1) mX0_empty 0 [some (sw_r 13)] [] h0 (sw_Qv (fun h' => cK pr0 h0 h' ∧ h' 13 0 = 0)) := by
  have hI : cK pr0 h0 h0 := cK.refl hJ
  refine sx_aload_n dX0_empty_0 rfl ?_
  refine sx_iconst dX0_empty_1 ⟨by decide, by decide⟩ ?_
  refine sy_putI (k := 0) cl_0 fl_X0_48 dX0_empty_2 s_13 (by decide) rfl (by decide) rfl rfl (fun h1 eh1 => ?_)
  have Ih1 := hI.up eh1 (show (0 : Int) ≤ _ ∧ _ ≤ (6 : Int) from ⟨by omega, by omega⟩) rfl rfl
  have th1_13_0 := eh1.1
  refine sx_aload_n dX0_empty_5 rfl ?_
  refine sx_iconst dX0_empty_6 ⟨by decide, by decide⟩ ?_
  refine sy_putI (k := 1) cl_0 fl_X0_52 dX0_empty_7 s_13 (by decide) rfl (by decide) rfl rfl (fun h2 eh2 => ?_)
  have Ih2 := Ih1.up eh2 (show (0 : Int) ≤ _ ∧ _ ≤ (60 : Int) from ⟨by omega, by omega⟩) rfl rfl
  have th2_13_0 := eh2.2 (13) 0 (by decide)
  refine sx_aload_n dX0_empty_10 rfl ?_
  refine sx_iconst dX0_empty_11 ⟨by decide, by decide⟩ ?_
  refine sy_putI (k := 2) cl_0 fl_X0_55 dX0_empty_12 s_13 (by decide) rfl (by decide) rfl rfl (fun h3 eh3 => ?_)
  have Ih3 := Ih2.up eh3 trivial rfl rfl
  have th3_13_0 := eh3.2 (13) 0 (by decide)
  refine sx_aload_n dX0_empty_15 rfl ?_
  refine sx_iconst dX0_empty_16 ⟨by decide, by decide⟩ ?_
  refine sy_putI (k := 3) cl_0 fl_X0_58 dX0_empty_17 s_13 (by decide) rfl (by decide) rfl rfl (fun h4 eh4 => ?_)
  have Ih4 := Ih3.up eh4 trivial rfl rfl
  have th4_13_0 := eh4.2 (13) 0 (by decide)
  refine sx_aload_n dX0_empty_20 rfl ?_
  refine sx_iconst dX0_empty_21 ⟨by decide, by decide⟩ ?_
  refine sy_putI (k := 4) cl_0 fl_X0_61 dX0_empty_22 s_13 (by decide) rfl (by decide) rfl rfl (fun h5 eh5 => ?_)
  have Ih5 := Ih4.up eh5 trivial rfl rfl
  have th5_13_0 := eh5.2 (13) 0 (by decide)
  refine sx_aload_n dX0_empty_25 rfl ?_
  refine sx_getS (k := 9) (t := 18) cl_0 fl_X0_24 dX0_empty_26 s_13 (by decide) rfl (by decide) ?_
  refine sx_iconst dX0_empty_29 ⟨by decide, by decide⟩ ?_
  refine sx_iconst dX0_empty_30 ⟨by decide, by decide⟩ ?_
  refine sy_iastore dX0_empty_31 s_18 (by decide) (by decide) ⟨by omega, by omega⟩ (fun h6 eh6 => ?_)
  have Ih6 := Ih5.up eh6 (show (0 : Int) ≤ _ ∧ _ ≤ (60 : Int) from ⟨by omega, by omega⟩) rfl rfl
  have th6_13_0 := eh6.2 (13) 0 (by omega)
  refine sx_aload_n dX0_empty_32 rfl ?_
  refine sx_callVv lk_X0_45 cl_0 s_13 (by decide) dX0_empty_33 (vs := []) rfl rfl (Nat.le_of_ble_eq_true rfl) (Nat.le_of_ble_eq_true rfl) rfl (f_X0_takePlainly_13 _ Ih6.1) (fun h7 ph7 => ?_)
  obtain ⟨Kh7, k_h7⟩ := ph7
  have Ih7 := Ih6.tr Kh7 sb_pr0_pr0
  refine sx_ret dX0_empty_36 ?_
  exact ⟨rfl, ⟨Ih7, by omega⟩⟩
set_option maxRecDepth 20000 in
set_option maxHeartbeats 4000000 in
theorem f_X5_advance {G : sw_G} (d : Nat) {h0 : sw_H} (hJ : cJ h0) (hz : h0 34 1 ≤ h0 34 2) : sw_E G NH SH (d) mX5_advance 0 [some (sw_r 34)] [] h0 (sw_Qv (fun h' => cK prC h0 h' ∧ h' 34 4 = 0 ∧ h' 34 7 = h0 34 7)) := by
  have hI : cK prC h0 h0 := cK.refl hJ
  refine sx_aload_n dX5_advance_0 rfl ?_
  refine sx_getI (k := 2) cl_5 fl_X5_28 dX5_advance_1 s_34 (by decide) rfl (by decide) ?_
  have r1 : (0 : Int) ≤ h0 34 2 ∧ h0 34 2 ≤ 1600 := hI.1.1 34 2
  refine sx_aload_n dX5_advance_4 rfl ?_
  refine sx_getI (k := 1) cl_5 fl_X5_25 dX5_advance_5 s_34 (by decide) rfl (by decide) ?_
  have r2 : (0 : Int) ≤ h0 34 1 ∧ h0 34 1 ≤ 1600 := hI.1.1 34 1
  refine sx_icmp_ge (tgt := 52) dX5_advance_8 (by decide) (fun c3 => ?_) (fun c3 => ?_)
  ·
    refine sx_aload_n dX5_advance_52 rfl ?_
    refine sx_aload_n dX5_advance_53 rfl ?_
    refine sx_getI (k := 2) cl_5 fl_X5_28 dX5_advance_54 s_34 (by decide) rfl (by decide) ?_
    have r4 : (0 : Int) ≤ h0 34 2 ∧ h0 34 2 ≤ 1600 := hI.1.1 34 2
    refine sy_putI (k := 3) cl_5 fl_X5_43 dX5_advance_57 s_34 (by decide) rfl (by decide) rfl rfl (fun h5 eh5 => ?_)
    have Ih5 := hI.up eh5 (show (0 : Int) ≤ _ ∧ _ ≤ (1600 : Int) from ⟨by omega, by omega⟩) rfl rfl
    have th5_34_1 := eh5.2 (34) 1 (by decide)
    have th5_34_2 := eh5.2 (34) 2 (by decide)
    have th5_34_4 := eh5.2 (34) 4 (by decide)
    have th5_34_7 := eh5.2 (34) 7 (by decide)
    refine sx_aload_n dX5_advance_60 rfl ?_
    refine sx_iconst dX5_advance_61 ⟨by decide, by decide⟩ ?_
    refine sy_putI (k := 5) cl_5 fl_X5_40 dX5_advance_62 s_34 (by decide) rfl (by decide) rfl rfl (fun h6 eh6 => ?_)
    have Ih6 := Ih5.up eh6 trivial rfl rfl
    have th6_34_1 := eh6.2 (34) 1 (by decide)
    have th6_34_2 := eh6.2 (34) 2 (by decide)
    have th6_34_4 := eh6.2 (34) 4 (by decide)
    have th6_34_7 := eh6.2 (34) 7 (by decide)
    refine sx_aload_n dX5_advance_65 rfl ?_
    refine sx_getI (k := 2) cl_5 fl_X5_28 dX5_advance_66 s_34 (by decide) rfl (by decide) ?_
    have r7 : (0 : Int) ≤ h6 34 2 ∧ h6 34 2 ≤ 1600 := Ih6.1.1 34 2
    refine sx_aload_n dX5_advance_69 rfl ?_
    refine sx_getI (k := 1) cl_5 fl_X5_25 dX5_advance_70 s_34 (by decide) rfl (by decide) ?_
    have r8 : (0 : Int) ≤ h6 34 1 ∧ h6 34 1 ≤ 1600 := Ih6.1.1 34 1
    refine sx_icmp_lt (tgt := 84) dX5_advance_73 (by decide) (fun c9 => ?_) (fun c9 => ?_)
    ·
      exfalso; omega
    ·
      refine sx_aload_n dX5_advance_76 rfl ?_
      refine sx_iconst dX5_advance_77 ⟨by decide, by decide⟩ ?_
      refine sy_putI (k := 4) cl_5 fl_X5_37 dX5_advance_78 s_34 (by decide) rfl (by decide) rfl rfl (fun h10 eh10 => ?_)
      have Ih10 := Ih6.up eh10 trivial rfl rfl
      have th10_34_1 := eh10.2 (34) 1 (by decide)
      have th10_34_2 := eh10.2 (34) 2 (by decide)
      have th10_34_4 := eh10.1
      have th10_34_7 := eh10.2 (34) 7 (by decide)
      refine sx_goto (tgt := 234) dX5_advance_81 (by decide) ?_
      refine sx_ret dX5_advance_234 ?_
      exact ⟨rfl, ⟨Ih10, by omega, by omega⟩⟩
  ·
    exfalso; omega
set_option maxRecDepth 20000 in
set_option maxHeartbeats 4000000 in
theorem f_X5_begin {G : sw_G} (d : Nat) {h0 : sw_H} (hJ : cJ h0) (n : Int) (hn : n = 0) : sw_E G NH SH (d + 1) mX5_begin 0 [some (sw_r 34), some (sw_i n)] [] h0 (sw_Qv (fun h' => cK prC h0 h' ∧ h' 34 4 = 0 ∧ h' 34 7 = 0)) := by
  have hI : cK prC h0 h0 := cK.refl hJ
  refine sx_aload_n dX5_begin_0 rfl ?_
  refine sx_iload_n dX5_begin_1 rfl ?_
  refine sx_sipush dX5_begin_2 ⟨by decide, by decide, by decide⟩ ?_
  refine sx_min lm_X5_19 lw_min dX5_begin_5 (Nat.le_of_ble_eq_true rfl) ?_
  refine sy_min (fun m1 em1 fm1 gm1 => ?_)
  refine sy_putI (k := 1) cl_5 fl_X5_25 dX5_begin_8 s_34 (by decide) rfl (by decide) rfl rfl (fun h2 eh2 => ?_)
  have Ih2 := hI.up eh2 (show (0 : Int) ≤ _ ∧ _ ≤ (1600 : Int) from ⟨by omega, by omega⟩) rfl rfl
  have th2_34_1 := eh2.1
  have th2_34_2 := eh2.2 (34) 2 (by decide)
  have th2_34_4 := eh2.2 (34) 4 (by decide)
  have th2_34_7 := eh2.2 (34) 7 (by decide)
  refine sx_aload_n dX5_begin_11 rfl ?_
  refine sx_iconst dX5_begin_12 ⟨by decide, by decide⟩ ?_
  refine sy_putI (k := 2) cl_5 fl_X5_28 dX5_begin_13 s_34 (by decide) rfl (by decide) rfl rfl (fun h3 eh3 => ?_)
  have Ih3 := Ih2.up eh3 (show (0 : Int) ≤ _ ∧ _ ≤ (1600 : Int) from ⟨by omega, by omega⟩) rfl rfl
  have th3_34_1 := eh3.2 (34) 1 (by decide)
  have th3_34_2 := eh3.1
  have th3_34_4 := eh3.2 (34) 4 (by decide)
  have th3_34_7 := eh3.2 (34) 7 (by decide)
  refine sx_aload_n dX5_begin_16 rfl ?_
  refine sx_iconst dX5_begin_17 ⟨by decide, by decide⟩ ?_
  refine sy_putI (k := 7) cl_5 fl_X5_31 dX5_begin_18 s_34 (by decide) rfl (by decide) rfl rfl (fun h4 eh4 => ?_)
  have Ih4 := Ih3.up eh4 trivial rfl rfl
  have th4_34_1 := eh4.2 (34) 1 (by decide)
  have th4_34_2 := eh4.2 (34) 2 (by decide)
  have th4_34_4 := eh4.2 (34) 4 (by decide)
  have th4_34_7 := eh4.1
  refine sx_aload_n dX5_begin_21 rfl ?_
  refine sx_iconst dX5_begin_22 ⟨by decide, by decide⟩ ?_
  refine sy_putI (k := 8) cl_5 fl_X5_15 dX5_begin_23 s_34 (by decide) rfl (by decide) rfl rfl (fun h5 eh5 => ?_)
  have Ih5 := Ih4.up eh5 trivial rfl rfl
  have th5_34_1 := eh5.2 (34) 1 (by decide)
  have th5_34_2 := eh5.2 (34) 2 (by decide)
  have th5_34_4 := eh5.2 (34) 4 (by decide)
  have th5_34_7 := eh5.2 (34) 7 (by decide)
  refine sx_aload_n dX5_begin_26 rfl ?_
  refine sx_callVv lk_X5_34 cl_5 s_34 (by decide) dX5_begin_27 (vs := []) rfl rfl (Nat.le_of_ble_eq_true rfl) (Nat.le_of_ble_eq_true rfl) rfl (f_X5_advance _ Ih5.1 (by omega)) (fun h6 ph6 => ?_)
  obtain ⟨Kh6, a_h6, b_h6⟩ := ph6
  have Ih6 := Ih5.tr Kh6 sb_prC_prC
  refine sx_ret dX5_begin_30 ?_
  exact ⟨rfl, ⟨Ih6, by omega, by omega⟩⟩
set_option maxRecDepth 20000 in
set_option maxHeartbeats 4000000 in
theorem f_X5_goesOn {G : sw_G} (d : Nat) {h0 : sw_H} (hJ : cJ h0) (hz : h0 34 4 = 0) : sw_E G NH SH (d) mX5_goesOn 0 [some (sw_r 34)] [] h0 (sw_Qz (fun z h' => h0 = h' ∧ z = 0)) := by
  have hI : cK pr0 h0 h0 := cK.refl hJ
  refine sx_aload_n dX5_goesOn_0 rfl ?_
  refine sx_getI (k := 7) cl_5 fl_X5_31 dX5_goesOn_1 s_34 (by decide) rfl (by decide) ?_
  refine sx_if_ne (tgt := 18) dX5_goesOn_4 (by decide) (fun c1 => ?_) (fun c1 => ?_)
  ·
    refine sx_iconst dX5_goesOn_18 ⟨by decide, by decide⟩ ?_
    refine sx_ireturn dX5_goesOn_19 ?_
    exact ⟨_, rfl, by omega, ⟨rfl, by first | omega | (exfalso; omega)⟩⟩
  ·
    refine sx_aload_n dX5_goesOn_7 rfl ?_
    refine sx_getI (k := 4) cl_5 fl_X5_37 dX5_goesOn_8 s_34 (by decide) rfl (by decide) ?_
    refine sx_if_eq (tgt := 18) dX5_goesOn_11 (by decide) (fun c2 => ?_) (fun c2 => ?_)
    ·
      refine sx_iconst dX5_goesOn_18 ⟨by decide, by decide⟩ ?_
      refine sx_ireturn dX5_goesOn_19 ?_
      exact ⟨_, rfl, by omega, ⟨rfl, by first | omega | (exfalso; omega)⟩⟩
    ·
      refine sx_iconst dX5_goesOn_14 ⟨by decide, by decide⟩ ?_
      refine sx_goto (tgt := 19) dX5_goesOn_15 (by decide) ?_
      refine sx_ireturn dX5_goesOn_19 ?_
      exact ⟨_, rfl, by omega, ⟨rfl, by first | omega | (exfalso; omega)⟩⟩
set_option maxRecDepth 20000 in
set_option maxHeartbeats 4000000 in
theorem f_X3_readAll_13 {G : sw_G} (d : Nat) {h0 : sw_H} (hJ : cJ h0) (n : Int) (hn : n = 0) : sw_E G NH SH (d + 156) mX3_readAll 0 [some (sw_r 33), some (sw_r 13), some (sw_i n), none] [] h0 (sw_Qz (fun z h' => cK pr1 h0 h' ∧ z = 1 ∧ h' 13 0 = 0)) := by
  have hI : cK pr1 h0 h0 := cK.refl hJ
  refine sx_aload_n dX3_readAll_0 rfl ?_
  refine sx_aload_n dX3_readAll_1 rfl ?_
  refine sy_putR (k := 9) cl_3 fl_X3_40 dX3_readAll_2 s_33 (by decide) rfl (by decide) rfl rfl (by decide) (fun h1 eh1 => ?_)
  have Ih1 := hI.up eh1 trivial rfl rfl
  have th1_33_9 := eh1.1
  have th1_13_0 := eh1.2 (13) 0 (by decide)
  have th1_34_1 := eh1.2 (34) 1 (by decide)
  have th1_34_2 := eh1.2 (34) 2 (by decide)
  have th1_34_4 := eh1.2 (34) 4 (by decide)
  have th1_34_7 := eh1.2 (34) 7 (by decide)
  refine sx_aload_n dX3_readAll_5 rfl ?_
  refine sx_getR (k := 9) (t := 13) cl_3 fl_X3_40 dX3_readAll_6 s_33 (by decide) rfl (by decide) (by omega) ?_
  refine sx_callVv lk_X3_44 cl_0 s_13 (by decide) dX3_readAll_9 (vs := []) rfl rfl (Nat.le_of_ble_eq_true rfl) (Nat.le_of_ble_eq_true rfl) rfl (f_X0_empty_13 _ Ih1.1) (fun h2 ph2 => ?_)
  obtain ⟨Kh2, k_h2⟩ := ph2
  have Ih2 := Ih1.tr Kh2 sb_pr1_pr0
  have th2_33_9 := Kh2.2 (33) 9 rfl
  refine sx_aload_n dX3_readAll_12 rfl ?_
  refine sx_iconst dX3_readAll_13 ⟨by decide, by decide⟩ ?_
  refine sy_putI (k := 6) cl_3 fl_X3_49 dX3_readAll_14 s_33 (by decide) rfl (by decide) rfl rfl (fun h4 eh4 => ?_)
  have Ih4 := Ih2.up eh4 trivial rfl rfl
  have th4_33_9 := eh4.2 (33) 9 (by decide)
  have th4_13_0 := eh4.2 (13) 0 (by decide)
  have th4_34_1 := eh4.2 (34) 1 (by decide)
  have th4_34_2 := eh4.2 (34) 2 (by decide)
  have th4_34_4 := eh4.2 (34) 4 (by decide)
  have th4_34_7 := eh4.2 (34) 7 (by decide)
  refine sx_aload_n dX3_readAll_17 rfl ?_
  refine sx_getS (k := 0) (t := 34) cl_3 fl_X3_12 dX3_readAll_18 s_33 (by decide) rfl (by decide) ?_
  refine sx_iload_n dX3_readAll_21 rfl ?_
  refine sx_callVv lk_X3_53 cl_5 s_34 (by decide) dX3_readAll_22 (vs := [_]) rfl rfl (Nat.le_of_ble_eq_true rfl) (Nat.le_of_ble_eq_true rfl) rfl (f_X5_begin _ Ih4.1 _ (by omega)) (fun h5 ph5 => ?_)
  obtain ⟨Kh5, a_h5, b_h5⟩ := ph5
  have Ih5 := Ih4.tr Kh5 sb_pr1_prC
  have th5_33_9 := Kh5.2 (33) 9 rfl
  have th5_13_0 := Kh5.2 (13) 0 rfl
  refine sx_iconst dX3_readAll_25 ⟨by decide, by decide⟩ ?_
  refine sx_istore_n dX3_readAll_26 (by decide) ?_
  refine sx_iload_n dX3_readAll_27 rfl ?_
  refine sx_sipush dX3_readAll_28 ⟨by decide, by decide, by decide⟩ ?_
  refine sx_icmp_gt (tgt := 173) dX3_readAll_31 (by decide) (fun c7 => ?_) (fun c7 => ?_)
  ·
    exact absurd c7 (by decide)
  ·
    refine sx_aload_n dX3_readAll_34 rfl ?_
    refine sx_getS (k := 0) (t := 34) cl_3 fl_X3_12 dX3_readAll_35 s_33 (by decide) rfl (by decide) ?_
    refine sx_callVz lk_X3_57 cl_5 s_34 (by decide) dX3_readAll_38 (vs := []) rfl rfl (Nat.le_of_ble_eq_true rfl) (Nat.le_of_ble_eq_true rfl) rfl (f_X5_goesOn _ Ih5.1 (by omega)) (fun x9 h8 zx9 ph8 => ?_)
    obtain ⟨rfl, k_x9⟩ := ph8
    refine sx_if_eq (tgt := 173) dX3_readAll_41 (by decide) (fun c10 => ?_) (fun c10 => ?_)
    ·
      refine sx_aload_n dX3_readAll_173 rfl ?_
      refine sx_getS (k := 0) (t := 34) cl_3 fl_X3_12 dX3_readAll_174 s_33 (by decide) rfl (by decide) ?_
      refine sx_getI (k := 7) cl_5 fl_X3_84 dX3_readAll_177 s_34 (by decide) rfl (by decide) ?_
      refine sx_if_ne (tgt := 187) dX3_readAll_180 (by decide) (fun c11 => ?_) (fun c11 => ?_)
      ·
        refine sx_iconst dX3_readAll_187 ⟨by decide, by decide⟩ ?_
        refine sx_ireturn dX3_readAll_188 ?_
        exact ⟨_, rfl, by omega, ⟨Ih5, by first | omega | (exfalso; omega), by omega⟩⟩
      ·
        refine sx_iconst dX3_readAll_183 ⟨by decide, by decide⟩ ?_
        refine sx_goto (tgt := 188) dX3_readAll_184 (by decide) ?_
        refine sx_ireturn dX3_readAll_188 ?_
        exact ⟨_, rfl, by omega, ⟨Ih5, by first | omega | (exfalso; omega), by omega⟩⟩
    ·
      exfalso; omega
set_option maxRecDepth 20000 in
set_option maxHeartbeats 4000000 in
theorem f_X11_code {G : sw_G} (d : Nat) {h0 : sw_H} (hJ : cJ h0) (hF : FC h0) : sw_E G NH SH (d + 157) mX11_code 0 [some (sw_r 0), none, none] [] h0 (sw_Qi (fun z h' => cK prZ h0 h' ∧ z = 0)) := by
  have hI : cK prZ h0 h0 := cK.refl hJ
  obtain ⟨hc, f0, f7, f12, f13, f14, w0, i0, u0, l0, d1, d2, d3, b7, s8, zs, tk⟩ := hF
  refine sx_aload_n dX11_code_0 rfl ?_
  refine sx_getS (k := 4) (t := 33) cl_11 fl_X11_29 dX11_code_1 s_0 (by decide) rfl (by decide) ?_
  refine sx_aload_n dX11_code_4 rfl ?_
  refine sx_getR (k := 2) (t := 13) cl_11 fl_X11_16 dX11_code_5 s_0 (by decide) rfl (by decide) (by omega) ?_
  refine sx_aload_n dX11_code_8 rfl ?_
  refine sx_getI (k := 0) cl_11 fl_X11_76 dX11_code_9 s_0 (by decide) rfl (by decide) ?_
  have r1 : (0 : Int) ≤ h0 0 0 ∧ h0 0 0 ≤ 1600 := hI.1.1 0 0
  refine sx_callVz lk_X11_83 cl_3 s_33 (by decide) dX11_code_12 (vs := [_, _]) rfl rfl (Nat.le_of_ble_eq_true rfl) (Nat.le_of_ble_eq_true rfl) rfl (f_X3_readAll_13 _ hI.1 _ (by omega)) (fun x3 h2 zx3 ph2 => ?_)
  obtain ⟨Kh2, k_h2, w_h2⟩ := ph2
  have Ih2 := hI.tr Kh2 sb_prZ_pr1
  have th2_0_1 := Kh2.2 (0) 1 rfl
  have th2_0_2 := Kh2.2 (0) 2 rfl
  refine sx_istore_n dX11_code_15 (by decide) ?_
  refine sx_aload_n dX11_code_16 rfl ?_
  refine sx_aload_n dX11_code_17 rfl ?_
  refine sx_getS (k := 4) (t := 33) cl_11 fl_X11_29 dX11_code_18 s_0 (by decide) rfl (by decide) ?_
  refine sx_getS (k := 0) (t := 34) cl_3 fl_X11_87 dX11_code_21 s_33 (by decide) rfl (by decide) ?_
  refine sx_getI (k := 7) cl_5 fl_X11_91 dX11_code_24 s_34 (by decide) rfl (by decide) ?_
  refine sy_putI (k := 13) cl_11 fl_X11_96 dX11_code_27 s_0 (by decide) rfl (by decide) rfl rfl (fun h4 eh4 => ?_)
  have Ih4 := Ih2.up eh4 trivial rfl rfl
  have th4_0_1 := eh4.2 (0) 1 (by decide)
  have th4_0_2 := eh4.2 (0) 2 (by decide)
  have th4_13_0 := eh4.2 (13) 0 (by decide)
  refine sx_aload_n dX11_code_30 rfl ?_
  refine sx_aload_n dX11_code_31 rfl ?_
  refine sx_getS (k := 4) (t := 33) cl_11 fl_X11_29 dX11_code_32 s_0 (by decide) rfl (by decide) ?_
  refine sx_getS (k := 0) (t := 34) cl_3 fl_X11_87 dX11_code_35 s_33 (by decide) rfl (by decide) ?_
  refine sx_getI (k := 8) cl_5 fl_X11_99 dX11_code_38 s_34 (by decide) rfl (by decide) ?_
  refine sy_putI (k := 14) cl_11 fl_X11_72 dX11_code_41 s_0 (by decide) rfl (by decide) rfl rfl (fun h5 eh5 => ?_)
  have Ih5 := Ih4.up eh5 trivial rfl rfl
  have th5_0_1 := eh5.2 (0) 1 (by decide)
  have th5_0_2 := eh5.2 (0) 2 (by decide)
  have th5_13_0 := eh5.2 (13) 0 (by decide)
  refine sx_iload_n dX11_code_44 rfl ?_
  refine sx_if_ne (tgt := 50) dX11_code_45 (by decide) (fun c6 => ?_) (fun c6 => ?_)
  ·
    refine sx_aload_n dX11_code_50 rfl ?_
    refine sx_getR (k := 1) (t := 1) cl_11 fl_X11_10 dX11_code_51 s_0 (by decide) rfl (by decide) (by omega) ?_
    refine sx_astore_n dX11_code_54 (by decide) ?_
    refine sx_aload_n dX11_code_55 rfl ?_
    refine sx_aload_n dX11_code_56 rfl ?_
    refine sx_getR (k := 2) (t := 13) cl_11 fl_X11_16 dX11_code_57 s_0 (by decide) rfl (by decide) (by omega) ?_
    refine sy_putR (k := 1) cl_11 fl_X11_10 dX11_code_60 s_0 (by decide) rfl (by decide) rfl rfl (by decide) (fun h7 eh7 => ?_)
    have EA := eh7
    have Ih7 := (Ih5.wide 4).up eh7 trivial (Or.inr rfl) rfl
    have th7_0_1 := eh7.1
    have th7_0_2 := eh7.2 (0) 2 (by decide)
    have th7_13_0 := eh7.2 (13) 0 (by decide)
    refine sx_aload_n dX11_code_63 rfl ?_
    refine sx_aload_n dX11_code_64 rfl ?_
    refine sy_putR (k := 2) cl_11 fl_X11_16 dX11_code_65 s_0 (by decide) rfl (by decide) rfl rfl (by decide) (fun h8 eh8 => ?_)
    have Ih8 : cK prZ h0 h8 := (Ih7.up eh8 trivial (Or.inr rfl) rfl).shut (show (h8 0 1 = 1 ∧ h8 0 2 = 13) ∨ (h8 0 1 = 13 ∧ h8 0 2 = 1) by have q1 := eh8.1; have q2 := eh8.2 0 1 (by decide); have q3 := EA.1; omega)
    have th8_0_1 := eh8.2 (0) 1 (by decide)
    have th8_0_2 := eh8.1
    have th8_13_0 := eh8.2 (13) 0 (by decide)
    refine sx_aload_n dX11_code_68 rfl ?_
    refine sx_iconst dX11_code_69 ⟨by decide, by decide⟩ ?_
    refine sy_putI (k := 0) cl_11 fl_X11_76 dX11_code_70 s_0 (by decide) rfl (by decide) rfl rfl (fun h9 eh9 => ?_)
    have Ih9 := Ih8.up eh9 (show (0 : Int) ≤ _ ∧ _ ≤ (1600 : Int) from ⟨by omega, by omega⟩) rfl rfl
    have th9_0_1 := eh9.2 (0) 1 (by decide)
    have th9_0_2 := eh9.2 (0) 2 (by decide)
    have th9_13_0 := eh9.2 (13) 0 (by decide)
    refine sx_aload_n dX11_code_73 rfl ?_
    refine sx_getS (k := 5) (t := 48) cl_11 fl_X11_36 dX11_code_74 s_0 (by decide) rfl (by decide) ?_
    refine sx_callVr lk_X11_102 cl_9 s_48 (by decide) dX11_code_77 (vs := []) rfl rfl (Nat.le_of_ble_eq_true rfl) (Nat.le_of_ble_eq_true rfl) ⟨_, rfl⟩ (c_X9_restart _ Ih9.1) (fun x11 h10 ph10 => ?_)
    obtain ⟨Kh10, m_h10⟩ := ph10
    have Ih10 := Ih9.tr Kh10 sb_prZ_prL
    have th10_0_1 := Kh10.2 (0) 1 rfl
    have th10_0_2 := Kh10.2 (0) 2 rfl
    have th10_13_0 := Kh10.2 (13) 0 rfl
    have hx11m := m_h10
    obtain ⟨Sx110, Sx111, Sx112, bx11⟩ := s_St x11 hx11m
    have Bx110 : x11 < NH := show x11 < 290 by omega
    have Bx111 : x11 + 1 < NH := show x11 + 1 < 290 by omega
    have Bx112 : x11 + 2 < NH := show x11 + 2 < 290 by omega
    refine sx_aload_n dX11_code_80 rfl ?_
    refine sx_getR (k := 1) (t := 13) cl_11 fl_X11_10 dX11_code_81 s_0 (by decide) rfl (by decide) (by omega) ?_
    refine sx_getI (k := 4) cl_0 fl_X11_106 dX11_code_84 s_13 (by decide) rfl (by decide) ?_
    refine sx_callVv lk_X11_109 cl_8 Sx110 Bx110 dX11_code_87 (vs := [_]) rfl rfl (Nat.le_of_ble_eq_true rfl) (Nat.le_of_ble_eq_true rfl) rfl (c_X8_begin _ Ih10.1 (x11) hx11m _) (fun h12 ph12 => ?_)
    have Kh12 := ph12
    have Ih12 := Ih10.tr Kh12 sb_prZ_prS
    have th12_0_1 := Kh12.2 (0) 1 rfl
    have th12_0_2 := Kh12.2 (0) 2 rfl
    have th12_13_0 := Kh12.2 (13) 0 rfl
    refine sx_aload_n dX11_code_90 rfl ?_
    refine sx_iconst dX11_code_91 ⟨by decide, by decide⟩ ?_
    refine sy_putI (k := 7) cl_11 fl_X11_112 dX11_code_92 s_0 (by decide) rfl (by decide) rfl rfl (fun h14 eh14 => ?_)
    have Ih14 := Ih12.up eh14 trivial rfl rfl
    have th14_0_1 := eh14.2 (0) 1 (by decide)
    have th14_0_2 := eh14.2 (0) 2 (by decide)
    have th14_13_0 := eh14.2 (13) 0 (by decide)
    refine sx_aload_n dX11_code_95 rfl ?_
    refine sx_getS (k := 11) (t := 189) cl_11 fl_X11_68 dX11_code_96 s_0 (by decide) rfl (by decide) ?_
    refine sx_callVv lk_X11_115 cl_7 s_189 (by decide) dX11_code_99 (vs := []) rfl rfl (Nat.le_of_ble_eq_true rfl) (Nat.le_of_ble_eq_true rfl) rfl (c_X7_forget _ Ih14.1) (fun h15 ph15 => ?_)
    have Kh15 := ph15
    have Ih15 := Ih14.tr Kh15 sb_prZ_prG
    have th15_0_1 := Kh15.2 (0) 1 rfl
    have th15_0_2 := Kh15.2 (0) 2 rfl
    have th15_13_0 := Kh15.2 (13) 0 rfl
    refine sx_aload_n dX11_code_102 rfl ?_
    refine sx_getS (k := 10) (t := 182) cl_11 fl_X11_61 dX11_code_103 s_0 (by decide) rfl (by decide) ?_
    refine sx_iconst dX11_code_106 ⟨by decide, by decide⟩ ?_
    refine sy_putI (k := 7) cl_6 fl_X11_118 dX11_code_107 s_182 (by decide) rfl (by decide) rfl rfl (fun h17 eh17 => ?_)
    have Ih17 := Ih15.up eh17 (show (0 : Int) ≤ _ ∧ _ ≤ (364 : Int) from ⟨by omega, by omega⟩) rfl rfl
    have th17_0_1 := eh17.2 (0) 1 (by decide)
    have th17_0_2 := eh17.2 (0) 2 (by decide)
    have th17_13_0 := eh17.2 (13) 0 (by decide)
    refine sx_aload_n dX11_code_110 rfl ?_
    refine sx_getR (k := 1) (t := 13) cl_11 fl_X11_10 dX11_code_111 s_0 (by decide) rfl (by decide) (by omega) ?_
    refine sx_getI (k := 0) cl_0 fl_X11_121 dX11_code_114 s_13 (by decide) rfl (by decide) ?_
    have r18 : (0 : Int) ≤ h17 13 0 ∧ h17 13 0 ≤ 6 := Ih17.1.1 13 0
    refine sx_ireturn dX11_code_117 ?_
    exact ⟨_, rfl, ⟨Ih17, by omega⟩⟩
  ·
    exfalso; omega

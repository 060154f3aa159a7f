set_option maxRecDepth 20000 in
set_option maxHeartbeats 4000000 in
theorem c_X12_take {G : sw_G} (d : Nat) {h0 : sw_H} (hJ : mI h0) (y1 : Int) (hb : -200 ≤ h0 224 53 ∧ h0 224 53 ≤ 200 ∧ -200 ≤ y1 ∧ y1 ≤ 200)  : sw_E G NH SH (d) mX12_take 0 [some (sw_r 224), some (sw_i y1)] [] h0 (sw_Qv (fun h' => mK (prW [53, 56] []) h0 h' ∧ (h' 224 53 = h0 224 53 - y1 ∧ h0 224 56 ≤ h' 224 56 ∧ -(h' 224 53) ≤ h' 224 56 ∧ (h' 224 56 = h0 224 56 ∨ h' 224 56 = -(h' 224 53))))) := by
  have hI : mK (prW [53, 56] []) h0 h0 := mK.refl hJ
  refine sx_aload_n dX12_take_0 rfl ?_
  refine sx_dupr dX12_take_1 ?_
  refine sx_getI (k := 53) cl_12 fl_X12_406 dX12_take_2 s_224 (by decide) rfl (by decide) ?_
  refine sx_iload_n dX12_take_5 rfl ?_
  refine sx_isub dX12_take_6 ?_
  refine sy_topw (by omega) ?_
  refine sy_putI (k := 53) cl_12 fl_X12_406 dX12_take_7 s_224 (by decide) rfl (by decide) rfl rfl (fun h1 eh1 => ?_)
  have Ih1 := hI.up eh1 trivial rfl
  have th1_224_53 := eh1.1
  have th1_224_56 := eh1.2 (224) 56 (by decide)
  refine sx_aload_n dX12_take_10 rfl ?_
  refine sx_getI (k := 53) cl_12 fl_X12_406 dX12_take_11 s_224 (by decide) rfl (by decide) ?_
  refine sx_ineg dX12_take_14 ?_
  refine sy_topw (by omega) ?_
  refine sx_aload_n dX12_take_15 rfl ?_
  refine sx_getI (k := 56) cl_12 fl_X12_403 dX12_take_16 s_224 (by decide) rfl (by decide) ?_
  refine sx_icmp_le (tgt := 31) dX12_take_19 (by decide) (fun c2 => ?_) (fun c2 => ?_)
  ·
    refine sx_ret dX12_take_31 ?_
    exact ⟨rfl, ⟨Ih1, by omega⟩⟩
  ·
    refine sx_aload_n dX12_take_22 rfl ?_
    refine sx_aload_n dX12_take_23 rfl ?_
    refine sx_getI (k := 53) cl_12 fl_X12_406 dX12_take_24 s_224 (by decide) rfl (by decide) ?_
    refine sx_ineg dX12_take_27 ?_
    refine sy_topw (by omega) ?_
    refine sy_putI (k := 56) cl_12 fl_X12_403 dX12_take_28 s_224 (by decide) rfl (by decide) rfl rfl (fun h3 eh3 => ?_)
    have Ih3 := Ih1.up eh3 trivial rfl
    have th3_224_53 := eh3.2 (224) 53 (by decide)
    have th3_224_56 := eh3.1
    refine sx_ret dX12_take_31 ?_
    exact ⟨rfl, ⟨Ih3, by omega⟩⟩
set_option maxRecDepth 20000 in
set_option maxHeartbeats 4000000 in
theorem c_X12_rise {G : sw_G} (d : Nat) {h0 : sw_H} (hJ : mI h0) (y1 : Int) (hb : -200 ≤ h0 224 53 ∧ h0 224 53 ≤ 200 ∧ -200 ≤ y1 ∧ y1 ≤ 200)  : sw_E G NH SH (d) mX12_rise 0 [some (sw_r 224), some (sw_i y1)] [] h0 (sw_Qv (fun h' => mK (prW [53, 57] []) h0 h' ∧ (h' 224 53 = h0 224 53 + y1 ∧ h0 224 57 ≤ h' 224 57 ∧ h' 224 53 ≤ h' 224 57 ∧ (h' 224 57 = h0 224 57 ∨ h' 224 57 = h' 224 53)))) := by
  have hI : mK (prW [53, 57] []) h0 h0 := mK.refl hJ
  refine sx_aload_n dX12_rise_0 rfl ?_
  refine sx_dupr dX12_rise_1 ?_
  refine sx_getI (k := 53) cl_12 fl_X12_406 dX12_rise_2 s_224 (by decide) rfl (by decide) ?_
  refine sx_iload_n dX12_rise_5 rfl ?_
  refine sx_iadd dX12_rise_6 ?_
  refine sy_topw (by omega) ?_
  refine sy_putI (k := 53) cl_12 fl_X12_406 dX12_rise_7 s_224 (by decide) rfl (by decide) rfl rfl (fun h1 eh1 => ?_)
  have Ih1 := hI.up eh1 trivial rfl
  have th1_224_53 := eh1.1
  have th1_224_57 := eh1.2 (224) 57 (by decide)
  refine sx_aload_n dX12_rise_10 rfl ?_
  refine sx_getI (k := 53) cl_12 fl_X12_406 dX12_rise_11 s_224 (by decide) rfl (by decide) ?_
  refine sx_aload_n dX12_rise_14 rfl ?_
  refine sx_getI (k := 57) cl_12 fl_X12_409 dX12_rise_15 s_224 (by decide) rfl (by decide) ?_
  refine sx_icmp_le (tgt := 29) dX12_rise_18 (by decide) (fun c2 => ?_) (fun c2 => ?_)
  ·
    refine sx_ret dX12_rise_29 ?_
    exact ⟨rfl, ⟨Ih1, by omega⟩⟩
  ·
    refine sx_aload_n dX12_rise_21 rfl ?_
    refine sx_aload_n dX12_rise_22 rfl ?_
    refine sx_getI (k := 53) cl_12 fl_X12_406 dX12_rise_23 s_224 (by decide) rfl (by decide) ?_
    refine sy_putI (k := 57) cl_12 fl_X12_409 dX12_rise_26 s_224 (by decide) rfl (by decide) rfl rfl (fun h3 eh3 => ?_)
    have Ih3 := Ih1.up eh3 trivial rfl
    have th3_224_53 := eh3.2 (224) 53 (by decide)
    have th3_224_57 := eh3.1
    refine sx_ret dX12_rise_29 ?_
    exact ⟨rfl, ⟨Ih3, by omega⟩⟩
set_option maxRecDepth 20000 in
set_option maxHeartbeats 4000000 in
theorem c_X12_tooFar {G : sw_G} (d : Nat) {h0 : sw_H} (hJ : mI h0)  : sw_E G NH SH (d) mX12_tooFar 0 [some (sw_r 224)] [] h0 (sw_Qi (fun z h' => h0 = h' ∧ ((z = 0 ∨ z = 7) ∧ (z = 0 → h0 224 56 ≤ 6 ∧ h0 224 57 ≤ 12 ∧ h0 224 54 ≤ 6)))) := by
  have hI : mK (prW [] []) h0 h0 := mK.refl hJ
  refine sx_aload_n dX12_tooFar_0 rfl ?_
  refine sx_getI (k := 56) cl_12 fl_X12_403 dX12_tooFar_1 s_224 (by decide) rfl (by decide) ?_
  refine sx_bipush dX12_tooFar_4 ⟨by decide, by decide, by decide⟩ ?_
  refine sx_icmp_gt (tgt := 27) dX12_tooFar_6 (by decide) (fun c1 => ?_) (fun c1 => ?_)
  ·
    refine sx_bipush dX12_tooFar_27 ⟨by decide, by decide, by decide⟩ ?_
    refine sx_goto (tgt := 33) dX12_tooFar_29 (by decide) ?_
    refine sx_ireturn dX12_tooFar_33 ?_
    exact ⟨_, rfl, ⟨rfl, by omega⟩⟩
  ·
    refine sx_aload_n dX12_tooFar_9 rfl ?_
    refine sx_getI (k := 57) cl_12 fl_X12_409 dX12_tooFar_10 s_224 (by decide) rfl (by decide) ?_
    refine sx_bipush dX12_tooFar_13 ⟨by decide, by decide, by decide⟩ ?_
    refine sx_icmp_gt (tgt := 27) dX12_tooFar_15 (by decide) (fun c2 => ?_) (fun c2 => ?_)
    ·
      refine sx_bipush dX12_tooFar_27 ⟨by decide, by decide, by decide⟩ ?_
      refine sx_goto (tgt := 33) dX12_tooFar_29 (by decide) ?_
      refine sx_ireturn dX12_tooFar_33 ?_
      exact ⟨_, rfl, ⟨rfl, by omega⟩⟩
    ·
      refine sx_aload_n dX12_tooFar_18 rfl ?_
      refine sx_getI (k := 54) cl_12 fl_X12_400 dX12_tooFar_19 s_224 (by decide) rfl (by decide) ?_
      refine sx_bipush dX12_tooFar_22 ⟨by decide, by decide, by decide⟩ ?_
      refine sx_icmp_le (tgt := 32) dX12_tooFar_24 (by decide) (fun c3 => ?_) (fun c3 => ?_)
      ·
        refine sx_iconst dX12_tooFar_32 ⟨by decide, by decide⟩ ?_
        refine sx_ireturn dX12_tooFar_33 ?_
        exact ⟨_, rfl, ⟨rfl, by omega⟩⟩
      ·
        refine sx_bipush dX12_tooFar_27 ⟨by decide, by decide, by decide⟩ ?_
        refine sx_goto (tgt := 33) dX12_tooFar_29 (by decide) ?_
        refine sx_ireturn dX12_tooFar_33 ?_
        exact ⟨_, rfl, ⟨rfl, by omega⟩⟩
set_option maxRecDepth 20000 in
set_option maxHeartbeats 4000000 in
theorem c_X12_beginLook {G : sw_G} (d : Nat) {h0 : sw_H} (hJ : mI h0) (y1 : Int) (hb : 0 ≤ y1 ∧ y1 ≤ 1)  : sw_E G NH SH (d) mX12_beginLook 0 [some (sw_r 224), some (sw_i y1)] [] h0 (sw_Qv (fun h' => mK (prW [52, 53, 54, 55, 56, 57, 58] [259]) h0 h' ∧ (h' 224 52 = y1 ∧ h' 224 53 = 0 ∧ h' 224 54 = 0 ∧ h' 224 55 = 0 ∧ h' 224 56 = 0 ∧ h' 224 57 = 0))) := by
  have hI : mK (prW [52, 53, 54, 55, 56, 57, 58] [259]) h0 h0 := mK.refl hJ
  refine sx_aload_n dX12_beginLook_0 rfl ?_
  refine sx_iload_n dX12_beginLook_1 rfl ?_
  refine sy_putI (k := 52) cl_12 fl_X12_421 dX12_beginLook_2 s_224 (by decide) rfl (by decide) rfl rfl (fun h1 eh1 => ?_)
  have Ih1 := hI.up eh1 (show (0 : Int) ≤ _ ∧ _ ≤ (1 : Int) from ⟨by first | omega | (rw [Int.tmod_eq_emod_of_nonneg (by omega)]; omega) | (rw [Int.tdiv_eq_ediv_of_nonneg (by omega)]; omega), by first | omega | (rw [Int.tmod_eq_emod_of_nonneg (by omega)]; omega) | (rw [Int.tdiv_eq_ediv_of_nonneg (by omega)]; omega)⟩) rfl
  have th1_224_52 := eh1.1
  have th1_224_53 := eh1.2 (224) 53 (by decide)
  have th1_224_54 := eh1.2 (224) 54 (by decide)
  have th1_224_55 := eh1.2 (224) 55 (by decide)
  have th1_224_56 := eh1.2 (224) 56 (by decide)
  have th1_224_57 := eh1.2 (224) 57 (by decide)
  have th1_224_58 := eh1.2 (224) 58 (by decide)
  refine sx_aload_n dX12_beginLook_5 rfl ?_
  refine sx_iconst dX12_beginLook_6 ⟨by decide, by decide⟩ ?_
  refine sy_putI (k := 53) cl_12 fl_X12_406 dX12_beginLook_7 s_224 (by decide) rfl (by decide) rfl rfl (fun h2 eh2 => ?_)
  have Ih2 := Ih1.up eh2 trivial rfl
  have th2_224_52 := eh2.2 (224) 52 (by decide)
  have th2_224_53 := eh2.1
  have th2_224_54 := eh2.2 (224) 54 (by decide)
  have th2_224_55 := eh2.2 (224) 55 (by decide)
  have th2_224_56 := eh2.2 (224) 56 (by decide)
  have th2_224_57 := eh2.2 (224) 57 (by decide)
  have th2_224_58 := eh2.2 (224) 58 (by decide)
  refine sx_aload_n dX12_beginLook_10 rfl ?_
  refine sx_iconst dX12_beginLook_11 ⟨by decide, by decide⟩ ?_
  refine sy_putI (k := 54) cl_12 fl_X12_400 dX12_beginLook_12 s_224 (by decide) rfl (by decide) rfl rfl (fun h3 eh3 => ?_)
  have Ih3 := Ih2.up eh3 trivial rfl
  have th3_224_52 := eh3.2 (224) 52 (by decide)
  have th3_224_53 := eh3.2 (224) 53 (by decide)
  have th3_224_54 := eh3.1
  have th3_224_55 := eh3.2 (224) 55 (by decide)
  have th3_224_56 := eh3.2 (224) 56 (by decide)
  have th3_224_57 := eh3.2 (224) 57 (by decide)
  have th3_224_58 := eh3.2 (224) 58 (by decide)
  refine sx_aload_n dX12_beginLook_15 rfl ?_
  refine sx_iconst dX12_beginLook_16 ⟨by decide, by decide⟩ ?_
  refine sy_putI (k := 55) cl_12 fl_X12_397 dX12_beginLook_17 s_224 (by decide) rfl (by decide) rfl rfl (fun h4 eh4 => ?_)
  have Ih4 := Ih3.up eh4 trivial rfl
  have th4_224_52 := eh4.2 (224) 52 (by decide)
  have th4_224_53 := eh4.2 (224) 53 (by decide)
  have th4_224_54 := eh4.2 (224) 54 (by decide)
  have th4_224_55 := eh4.1
  have th4_224_56 := eh4.2 (224) 56 (by decide)
  have th4_224_57 := eh4.2 (224) 57 (by decide)
  have th4_224_58 := eh4.2 (224) 58 (by decide)
  refine sx_aload_n dX12_beginLook_20 rfl ?_
  refine sx_iconst dX12_beginLook_21 ⟨by decide, by decide⟩ ?_
  refine sy_putI (k := 56) cl_12 fl_X12_403 dX12_beginLook_22 s_224 (by decide) rfl (by decide) rfl rfl (fun h5 eh5 => ?_)
  have Ih5 := Ih4.up eh5 trivial rfl
  have th5_224_52 := eh5.2 (224) 52 (by decide)
  have th5_224_53 := eh5.2 (224) 53 (by decide)
  have th5_224_54 := eh5.2 (224) 54 (by decide)
  have th5_224_55 := eh5.2 (224) 55 (by decide)
  have th5_224_56 := eh5.1
  have th5_224_57 := eh5.2 (224) 57 (by decide)
  have th5_224_58 := eh5.2 (224) 58 (by decide)
  refine sx_aload_n dX12_beginLook_25 rfl ?_
  refine sx_iconst dX12_beginLook_26 ⟨by decide, by decide⟩ ?_
  refine sy_putI (k := 57) cl_12 fl_X12_409 dX12_beginLook_27 s_224 (by decide) rfl (by decide) rfl rfl (fun h6 eh6 => ?_)
  have Ih6 := Ih5.up eh6 trivial rfl
  have th6_224_52 := eh6.2 (224) 52 (by decide)
  have th6_224_53 := eh6.2 (224) 53 (by decide)
  have th6_224_54 := eh6.2 (224) 54 (by decide)
  have th6_224_55 := eh6.2 (224) 55 (by decide)
  have th6_224_56 := eh6.2 (224) 56 (by decide)
  have th6_224_57 := eh6.1
  have th6_224_58 := eh6.2 (224) 58 (by decide)
  refine sx_aload_n dX12_beginLook_30 rfl ?_
  refine sx_iconst dX12_beginLook_31 ⟨by decide, by decide⟩ ?_
  refine sy_putI (k := 58) cl_12 fl_X12_412 dX12_beginLook_32 s_224 (by decide) rfl (by decide) rfl rfl (fun h7 eh7 => ?_)
  have Ih7 := Ih6.up eh7 trivial rfl
  have th7_224_52 := eh7.2 (224) 52 (by decide)
  have th7_224_53 := eh7.2 (224) 53 (by decide)
  have th7_224_54 := eh7.2 (224) 54 (by decide)
  have th7_224_55 := eh7.2 (224) 55 (by decide)
  have th7_224_56 := eh7.2 (224) 56 (by decide)
  have th7_224_57 := eh7.2 (224) 57 (by decide)
  have th7_224_58 := eh7.1
  refine sx_aload_n dX12_beginLook_35 rfl ?_
  refine sx_getS (k := 49) (t := 259) cl_12 fl_X12_118 dX12_beginLook_36 s_224 (by decide) rfl (by decide) ?_
  refine sx_iconst dX12_beginLook_39 ⟨by decide, by decide⟩ ?_
  refine sx_iconst dX12_beginLook_40 ⟨by decide, by decide⟩ ?_
  refine sy_iastore dX12_beginLook_41 s_259 (by decide) (by decide) ⟨by first | omega | (rw [Int.tmod_eq_emod_of_nonneg (by omega)]; omega) | (rw [Int.tdiv_eq_ediv_of_nonneg (by omega)]; omega), by first | omega | (rw [Int.tmod_eq_emod_of_nonneg (by omega)]; omega) | (rw [Int.tdiv_eq_ediv_of_nonneg (by omega)]; omega)⟩ (fun h8 eh8 => ?_)
  have Ih8 := Ih7.up eh8 trivial rfl
  have th8_224_52 := eh8.2 (224) 52 (by omega)
  have th8_224_53 := eh8.2 (224) 53 (by omega)
  have th8_224_54 := eh8.2 (224) 54 (by omega)
  have th8_224_55 := eh8.2 (224) 55 (by omega)
  have th8_224_56 := eh8.2 (224) 56 (by omega)
  have th8_224_57 := eh8.2 (224) 57 (by omega)
  have th8_224_58 := eh8.2 (224) 58 (by omega)
  refine sx_ret dX12_beginLook_42 ?_
  exact ⟨rfl, ⟨Ih8, by omega⟩⟩
set_option maxRecDepth 20000 in
set_option maxHeartbeats 4000000 in
theorem c_X12_openNew {G : sw_G} (d : Nat) {h0 : sw_H} (hJ : mI h0) (y1 y2 : Int) (hb : 0 ≤ h0 224 55 ∧ h0 224 55 ≤ 3 ∧ 0 ≤ y2 ∧ y2 ≤ 119)  : sw_E G NH SH (d) mX12_openNew 0 [some (sw_r 224), some (sw_i y1), some (sw_i y2)] [] h0 (sw_Qv (fun h' => mK (prW [55] [252, 253, 254, 255, 259]) h0 h' ∧ (h' 224 55 = h0 224 55 + 1) ∧ (∀ k : Nat, h' 252 k = if (k : Int) = h0 224 55 + 1 then y1 else h0 252 k) ∧ (∀ k : Nat, h' 253 k = if (k : Int) = h0 224 55 + 1 then y2 else h0 253 k) ∧ (∀ k : Nat, h' 254 k = if (k : Int) = h0 224 55 + 1 then h0 224 53 else h0 254 k) ∧ (∀ k : Nat, h' 255 k = if (k : Int) = h0 224 55 + 1 then h0 224 54 else h0 255 k))) := by
  have hI : mK (prW [55] [252, 253, 254, 255, 259]) h0 h0 := mK.refl hJ
  refine sx_aload_n dX12_openNew_0 rfl ?_
  refine sx_dupr dX12_openNew_1 ?_
  refine sx_getI (k := 55) cl_12 fl_X12_397 dX12_openNew_2 s_224 (by decide) rfl (by decide) ?_
  refine sx_iconst dX12_openNew_5 ⟨by decide, by decide⟩ ?_
  refine sx_iadd dX12_openNew_6 ?_
  refine sy_topw (by omega) ?_
  refine sy_putI (k := 55) cl_12 fl_X12_397 dX12_openNew_7 s_224 (by decide) rfl (by decide) rfl rfl (fun h1 eh1 => ?_)
  have Ih1 := hI.up eh1 trivial rfl
  have th1_224_51 := eh1.2 (224) 51 (by decide)
  have th1_224_52 := eh1.2 (224) 52 (by decide)
  have th1_224_53 := eh1.2 (224) 53 (by decide)
  have th1_224_54 := eh1.2 (224) 54 (by decide)
  have th1_224_55 := eh1.1
  have th1_224_56 := eh1.2 (224) 56 (by decide)
  have th1_224_57 := eh1.2 (224) 57 (by decide)
  refine sx_aload_n dX12_openNew_10 rfl ?_
  refine sx_getS (k := 42) (t := 252) cl_12 fl_X12_97 dX12_openNew_11 s_224 (by decide) rfl (by decide) ?_
  refine sx_aload_n dX12_openNew_14 rfl ?_
  refine sx_getI (k := 55) cl_12 fl_X12_397 dX12_openNew_15 s_224 (by decide) rfl (by decide) ?_
  refine sx_iload_n dX12_openNew_18 rfl ?_
  refine sy_iastore dX12_openNew_19 s_252 (by decide) (by decide) ⟨by omega, by omega⟩ (fun h2 eh2 => ?_)
  have Ih2 := Ih1.up eh2 trivial rfl
  have th2_224_51 := eh2.2 (224) 51 (by omega)
  have th2_224_52 := eh2.2 (224) 52 (by omega)
  have th2_224_53 := eh2.2 (224) 53 (by omega)
  have th2_224_54 := eh2.2 (224) 54 (by omega)
  have th2_224_55 := eh2.2 (224) 55 (by omega)
  have th2_224_56 := eh2.2 (224) 56 (by omega)
  have th2_224_57 := eh2.2 (224) 57 (by omega)
  refine sx_aload_n dX12_openNew_20 rfl ?_
  refine sx_getS (k := 43) (t := 253) cl_12 fl_X12_100 dX12_openNew_21 s_224 (by decide) rfl (by decide) ?_
  refine sx_aload_n dX12_openNew_24 rfl ?_
  refine sx_getI (k := 55) cl_12 fl_X12_397 dX12_openNew_25 s_224 (by decide) rfl (by decide) ?_
  refine sx_iload_n dX12_openNew_28 rfl ?_
  refine sy_iastore dX12_openNew_29 s_253 (by decide) (by decide) ⟨by omega, by omega⟩ (fun h3 eh3 => ?_)
  have Ih3 := Ih2.up eh3 (show (0 : Int) ≤ _ ∧ _ ≤ (119 : Int) from ⟨by omega, by omega⟩) rfl
  have th3_224_51 := eh3.2 (224) 51 (by omega)
  have th3_224_52 := eh3.2 (224) 52 (by omega)
  have th3_224_53 := eh3.2 (224) 53 (by omega)
  have th3_224_54 := eh3.2 (224) 54 (by omega)
  have th3_224_55 := eh3.2 (224) 55 (by omega)
  have th3_224_56 := eh3.2 (224) 56 (by omega)
  have th3_224_57 := eh3.2 (224) 57 (by omega)
  refine sx_aload_n dX12_openNew_30 rfl ?_
  refine sx_getS (k := 44) (t := 254) cl_12 fl_X12_103 dX12_openNew_31 s_224 (by decide) rfl (by decide) ?_
  refine sx_aload_n dX12_openNew_34 rfl ?_
  refine sx_getI (k := 55) cl_12 fl_X12_397 dX12_openNew_35 s_224 (by decide) rfl (by decide) ?_
  refine sx_aload_n dX12_openNew_38 rfl ?_
  refine sx_getI (k := 53) cl_12 fl_X12_406 dX12_openNew_39 s_224 (by decide) rfl (by decide) ?_
  refine sy_iastore dX12_openNew_42 s_254 (by decide) (by decide) ⟨by omega, by omega⟩ (fun h4 eh4 => ?_)
  have Ih4 := Ih3.up eh4 trivial rfl
  have th4_224_51 := eh4.2 (224) 51 (by omega)
  have th4_224_52 := eh4.2 (224) 52 (by omega)
  have th4_224_53 := eh4.2 (224) 53 (by omega)
  have th4_224_54 := eh4.2 (224) 54 (by omega)
  have th4_224_55 := eh4.2 (224) 55 (by omega)
  have th4_224_56 := eh4.2 (224) 56 (by omega)
  have th4_224_57 := eh4.2 (224) 57 (by omega)
  refine sx_aload_n dX12_openNew_43 rfl ?_
  refine sx_getS (k := 45) (t := 255) cl_12 fl_X12_106 dX12_openNew_44 s_224 (by decide) rfl (by decide) ?_
  refine sx_aload_n dX12_openNew_47 rfl ?_
  refine sx_getI (k := 55) cl_12 fl_X12_397 dX12_openNew_48 s_224 (by decide) rfl (by decide) ?_
  refine sx_aload_n dX12_openNew_51 rfl ?_
  refine sx_getI (k := 54) cl_12 fl_X12_400 dX12_openNew_52 s_224 (by decide) rfl (by decide) ?_
  refine sy_iastore dX12_openNew_55 s_255 (by decide) (by decide) ⟨by omega, by omega⟩ (fun h5 eh5 => ?_)
  have Ih5 := Ih4.up eh5 trivial rfl
  have th5_224_51 := eh5.2 (224) 51 (by omega)
  have th5_224_52 := eh5.2 (224) 52 (by omega)
  have th5_224_53 := eh5.2 (224) 53 (by omega)
  have th5_224_54 := eh5.2 (224) 54 (by omega)
  have th5_224_55 := eh5.2 (224) 55 (by omega)
  have th5_224_56 := eh5.2 (224) 56 (by omega)
  have th5_224_57 := eh5.2 (224) 57 (by omega)
  refine sx_aload_n dX12_openNew_56 rfl ?_
  refine sx_getS (k := 49) (t := 259) cl_12 fl_X12_118 dX12_openNew_57 s_224 (by decide) rfl (by decide) ?_
  refine sx_aload_n dX12_openNew_60 rfl ?_
  refine sx_getI (k := 55) cl_12 fl_X12_397 dX12_openNew_61 s_224 (by decide) rfl (by decide) ?_
  refine sx_iconst dX12_openNew_64 ⟨by decide, by decide⟩ ?_
  refine sy_iastore dX12_openNew_65 s_259 (by decide) (by decide) ⟨by omega, by omega⟩ (fun h6 eh6 => ?_)
  have Ih6 := Ih5.up eh6 trivial rfl
  have th6_224_51 := eh6.2 (224) 51 (by omega)
  have th6_224_52 := eh6.2 (224) 52 (by omega)
  have th6_224_53 := eh6.2 (224) 53 (by omega)
  have th6_224_54 := eh6.2 (224) 54 (by omega)
  have th6_224_55 := eh6.2 (224) 55 (by omega)
  have th6_224_56 := eh6.2 (224) 56 (by omega)
  have th6_224_57 := eh6.2 (224) 57 (by omega)
  refine sx_ret dX12_openNew_66 ?_
  exact ⟨rfl, ⟨Ih6, by omega, fun k => by rw [eh6.at 252 k, eh5.at 252 k, eh4.at 252 k, eh3.at 252 k, eh2.at 252 k, eh1.at 252 k]; simp only [Nat.reduceEqDiff, false_and, if_false, true_and]; by_cases q : (k : Int) = h0 224 55 + 1; (rw [if_pos (by omega), if_pos q]); (rw [if_neg (by omega), if_neg q]), fun k => by rw [eh6.at 253 k, eh5.at 253 k, eh4.at 253 k, eh3.at 253 k, eh2.at 253 k, eh1.at 253 k]; simp only [Nat.reduceEqDiff, false_and, if_false, true_and]; by_cases q : (k : Int) = h0 224 55 + 1; (rw [if_pos (by omega), if_pos q]); (rw [if_neg (by omega), if_neg q]), fun k => by rw [eh6.at 254 k, eh5.at 254 k, eh4.at 254 k, eh3.at 254 k, eh2.at 254 k, eh1.at 254 k]; simp only [Nat.reduceEqDiff, false_and, if_false, true_and]; by_cases q : (k : Int) = h0 224 55 + 1; (rw [if_pos (by omega), if_pos q]; omega); (rw [if_neg (by omega), if_neg q]), fun k => by rw [eh6.at 255 k, eh5.at 255 k, eh4.at 255 k, eh3.at 255 k, eh2.at 255 k, eh1.at 255 k]; simp only [Nat.reduceEqDiff, false_and, if_false, true_and]; by_cases q : (k : Int) = h0 224 55 + 1; (rw [if_pos (by omega), if_pos q]; omega); (rw [if_neg (by omega), if_neg q])⟩⟩
set_option maxRecDepth 20000 in
set_option maxHeartbeats 4000000 in
theorem c_X12_lookPlain_0 {G : sw_G} (d : Nat) {h0 : sw_H} (hJ : mI h0) (y2 : Int) (hb : -6 ≤ h0 224 53 ∧ h0 224 53 ≤ 12 ∧ 0 ≤ h0 224 54 ∧ h0 224 54 ≤ 6 ∧ 0 ≤ h0 224 55 ∧ h0 224 55 ≤ 4 ∧ 0 ≤ h0 224 56 ∧ h0 224 56 ≤ 6 ∧ 0 ≤ h0 224 57 ∧ h0 224 57 ≤ 12) (hy : 0 ≤ y2 ∧ y2 ≤ 14)  : sw_E G NH SH (d + 1) mX12_lookPlain 0 [some (sw_r 224), some (sw_i 0), some (sw_i y2), none] [] h0 (sw_Qi (fun z h' => mK (prW [53, 54, 56, 57, 58] [259]) h0 h' ∧ ((z = 0 ∨ z = 7) ∧ h0 224 56 ≤ h' 224 56 ∧ h0 224 57 ≤ h' 224 57 ∧ (z = 0 → h' 224 56 ≤ 6 ∧ h' 224 57 ≤ 12 ∧ 0 ≤ h' 224 54 ∧ h' 224 54 ≤ 6)) ∧ (z = 0 → h' 224 53 = h0 224 53 - tk y2 + ld y2 ∧ h' 224 54 = h0 224 54 + pu y2 ∧ tk y2 - h0 224 53 ≤ h' 224 56 ∧ h' 224 53 ≤ h' 224 57 ∧ (y2 = 8 → 1 ≤ h0 224 54)))) := by
  have hI : mK (prW [53, 54, 56, 57, 58] [259]) h0 h0 := mK.refl hJ
  have rl : (0 : Int) ≤ h0 224 52 ∧ h0 224 52 ≤ 1 := hI.1 224 52
  have tkb : 0 ≤ tk y2 ∧ tk y2 ≤ 3 := by unfold tk; omega
  have ldb : 0 ≤ ld y2 ∧ ld y2 ≤ 3 := by unfold ld; omega
  have pub : pu y2 = if y2 = 7 then 1 else if y2 = 8 then -1 else 0 := rfl
  refine sx_iload_n dX12_lookPlain_0 rfl ?_
  refine sx_if_ne (tgt := 20) dX12_lookPlain_1 (by decide) (fun c1 => ?_) (fun c1 => ?_)
  ·
    exact absurd c1 (by decide)
  ·
    refine sx_iload_n dX12_lookPlain_4 rfl ?_
    refine sx_bipush dX12_lookPlain_5 ⟨by decide, by decide, by decide⟩ ?_
    refine sx_icmp_ne (tgt := 20) dX12_lookPlain_7 (by decide) (fun c2 => ?_) (fun c2 => ?_)
    ·
      refine sx_aload_n dX12_lookPlain_20 rfl ?_
      refine sx_getS (k := 49) (t := 259) cl_12 fl_X12_118 dX12_lookPlain_21 s_224 (by decide) rfl (by decide) ?_
      refine sx_aload_n dX12_lookPlain_24 rfl ?_
      refine sx_getI (k := 55) cl_12 fl_X12_397 dX12_lookPlain_25 s_224 (by decide) rfl (by decide) ?_
      refine sx_dup2 dX12_lookPlain_28 ?_
      refine sx_iaload dX12_lookPlain_29 s_259 (by decide) (by decide) ⟨by omega, by omega⟩ ?_
      refine sx_iconst dX12_lookPlain_30 ⟨by decide, by decide⟩ ?_
      refine sx_iadd dX12_lookPlain_31 ?_
      refine sy_iastore dX12_lookPlain_32 s_259 (by decide) (by decide) ⟨by omega, by omega⟩ (fun h3 eh3 => ?_)
      have Ih3 := hI.up eh3 trivial rfl
      have th3_224_51 := eh3.2 (224) 51 (by omega)
      have th3_224_52 := eh3.2 (224) 52 (by omega)
      have th3_224_53 := eh3.2 (224) 53 (by omega)
      have th3_224_54 := eh3.2 (224) 54 (by omega)
      have th3_224_55 := eh3.2 (224) 55 (by omega)
      have th3_224_56 := eh3.2 (224) 56 (by omega)
      have th3_224_57 := eh3.2 (224) 57 (by omega)
      refine sx_iload_n dX12_lookPlain_33 rfl ?_
      refine sx_if_ne (tgt := 105) dX12_lookPlain_34 (by decide) (fun c4 => ?_) (fun c4 => ?_)
      ·
        exact absurd c4 (by decide)
      ·
        refine sx_aload_n dX12_lookPlain_37 rfl ?_
        refine sx_iload_n dX12_lookPlain_38 rfl ?_
        refine sx_callSi lk_X12_443 dX12_lookPlain_39 (vs := [_]) rfl rfl (Nat.le_of_ble_eq_true rfl) (Nat.le_of_ble_eq_true rfl) rfl (c_X12_taken _ Ih3.1 _) (fun x6 h5 ph5 => ?_)
        obtain ⟨rfl, p_x6⟩ := ph5
        refine sx_callVv lk_X12_431 cl_12 s_224 (by decide) dX12_lookPlain_42 (vs := [_]) rfl rfl (Nat.le_of_ble_eq_true rfl) (Nat.le_of_ble_eq_true rfl) rfl (c_X12_take _ Ih3.1 _ (by omega)) (fun h7 ph7 => ?_)
        obtain ⟨Kh7, t_h7⟩ := ph7
        have Ih7 := Ih3.tr Kh7 (prW_sub rfl rfl)
        have th7_224_51 := Kh7.2 224 51 rfl
        have th7_224_52 := Kh7.2 224 52 rfl
        have th7_224_54 := Kh7.2 224 54 rfl
        have th7_224_55 := Kh7.2 224 55 rfl
        have th7_224_57 := Kh7.2 224 57 rfl
        refine sx_aload_n dX12_lookPlain_45 rfl ?_
        refine sx_iload_n dX12_lookPlain_46 rfl ?_
        refine sx_callSi lk_X12_446 dX12_lookPlain_47 (vs := [_]) rfl rfl (Nat.le_of_ble_eq_true rfl) (Nat.le_of_ble_eq_true rfl) rfl (c_X12_laidBy _ Ih7.1 _) (fun x10 h9 ph9 => ?_)
        obtain ⟨rfl, p_x10⟩ := ph9
        refine sx_callVv lk_X12_449 cl_12 s_224 (by decide) dX12_lookPlain_50 (vs := [_]) rfl rfl (Nat.le_of_ble_eq_true rfl) (Nat.le_of_ble_eq_true rfl) rfl (c_X12_rise _ Ih7.1 _ (by omega)) (fun h11 ph11 => ?_)
        obtain ⟨Kh11, t_h11⟩ := ph11
        have Ih11 := Ih7.tr Kh11 (prW_sub rfl rfl)
        have th11_224_51 := Kh11.2 224 51 rfl
        have th11_224_52 := Kh11.2 224 52 rfl
        have th11_224_54 := Kh11.2 224 54 rfl
        have th11_224_55 := Kh11.2 224 55 rfl
        have th11_224_56 := Kh11.2 224 56 rfl
        refine sx_aload_n dX12_lookPlain_53 rfl ?_
        refine sx_dupr dX12_lookPlain_54 ?_
        refine sx_getI (k := 54) cl_12 fl_X12_400 dX12_lookPlain_55 s_224 (by decide) rfl (by decide) ?_
        refine sx_iload_n dX12_lookPlain_58 rfl ?_
        refine sx_bipush dX12_lookPlain_59 ⟨by decide, by decide, by decide⟩ ?_
        refine sx_icmp_ne (tgt := 68) dX12_lookPlain_61 (by decide) (fun c13 => ?_) (fun c13 => ?_)
        ·
          refine sx_iload_n dX12_lookPlain_68 rfl ?_
          refine sx_bipush dX12_lookPlain_69 ⟨by decide, by decide, by decide⟩ ?_
          refine sx_icmp_ne (tgt := 78) dX12_lookPlain_71 (by decide) (fun c14 => ?_) (fun c14 => ?_)
          ·
            refine sx_iconst dX12_lookPlain_78 ⟨by decide, by decide⟩ ?_
            refine sx_iadd dX12_lookPlain_79 ?_
            refine sy_topw (by omega) ?_
            refine sy_putI (k := 54) cl_12 fl_X12_400 dX12_lookPlain_80 s_224 (by decide) rfl (by decide) rfl rfl (fun h15 eh15 => ?_)
            have Ih15 := Ih11.up eh15 trivial rfl
            have th15_224_51 := eh15.2 (224) 51 (by decide)
            have th15_224_52 := eh15.2 (224) 52 (by decide)
            have th15_224_53 := eh15.2 (224) 53 (by decide)
            have th15_224_54 := eh15.1
            have th15_224_55 := eh15.2 (224) 55 (by decide)
            have th15_224_56 := eh15.2 (224) 56 (by decide)
            have th15_224_57 := eh15.2 (224) 57 (by decide)
            refine sx_aload_n dX12_lookPlain_83 rfl ?_
            refine sx_getI (k := 54) cl_12 fl_X12_400 dX12_lookPlain_84 s_224 (by decide) rfl (by decide) ?_
            refine sx_aload_n dX12_lookPlain_87 rfl ?_
            refine sx_getI (k := 58) cl_12 fl_X12_412 dX12_lookPlain_88 s_224 (by decide) rfl (by decide) ?_
            refine sx_icmp_le (tgt := 206) dX12_lookPlain_91 (by decide) (fun c16 => ?_) (fun c16 => ?_)
            ·
              refine sx_aload_n dX12_lookPlain_206 rfl ?_
              refine sx_callVi lk_X12_440 cl_12 s_224 (by decide) dX12_lookPlain_207 (vs := []) rfl rfl (Nat.le_of_ble_eq_true rfl) (Nat.le_of_ble_eq_true rfl) rfl (c_X12_tooFar _ Ih15.1) (fun x18 h17 ph17 => ?_)
              obtain ⟨rfl, p_x18⟩ := ph17
              refine sx_ireturn dX12_lookPlain_210 ?_
              exact ⟨_, rfl, ⟨Ih15, by omega, by omega⟩⟩
            ·
              refine sx_aload_n dX12_lookPlain_94 rfl ?_
              refine sx_aload_n dX12_lookPlain_95 rfl ?_
              refine sx_getI (k := 54) cl_12 fl_X12_400 dX12_lookPlain_96 s_224 (by decide) rfl (by decide) ?_
              refine sy_putI (k := 58) cl_12 fl_X12_412 dX12_lookPlain_99 s_224 (by decide) rfl (by decide) rfl rfl (fun h19 eh19 => ?_)
              have Ih19 := Ih15.up eh19 trivial rfl
              have th19_224_51 := eh19.2 (224) 51 (by decide)
              have th19_224_52 := eh19.2 (224) 52 (by decide)
              have th19_224_53 := eh19.2 (224) 53 (by decide)
              have th19_224_54 := eh19.2 (224) 54 (by decide)
              have th19_224_55 := eh19.2 (224) 55 (by decide)
              have th19_224_56 := eh19.2 (224) 56 (by decide)
              have th19_224_57 := eh19.2 (224) 57 (by decide)
              refine sx_goto (tgt := 206) dX12_lookPlain_102 (by decide) ?_
              refine sx_aload_n dX12_lookPlain_206 rfl ?_
              refine sx_callVi lk_X12_440 cl_12 s_224 (by decide) dX12_lookPlain_207 (vs := []) rfl rfl (Nat.le_of_ble_eq_true rfl) (Nat.le_of_ble_eq_true rfl) rfl (c_X12_tooFar _ Ih19.1) (fun x21 h20 ph20 => ?_)
              obtain ⟨rfl, p_x21⟩ := ph20
              refine sx_ireturn dX12_lookPlain_210 ?_
              exact ⟨_, rfl, ⟨Ih19, by omega, by omega⟩⟩
          ·
            refine sx_iconst dX12_lookPlain_74 ⟨by decide, by decide⟩ ?_
            refine sx_goto (tgt := 79) dX12_lookPlain_75 (by decide) ?_
            refine sx_iadd dX12_lookPlain_79 ?_
            refine sy_topw (by omega) ?_
            refine sy_putI (k := 54) cl_12 fl_X12_400 dX12_lookPlain_80 s_224 (by decide) rfl (by decide) rfl rfl (fun h22 eh22 => ?_)
            have Ih22 := Ih11.up eh22 trivial rfl
            have th22_224_51 := eh22.2 (224) 51 (by decide)
            have th22_224_52 := eh22.2 (224) 52 (by decide)
            have th22_224_53 := eh22.2 (224) 53 (by decide)
            have th22_224_54 := eh22.1
            have th22_224_55 := eh22.2 (224) 55 (by decide)
            have th22_224_56 := eh22.2 (224) 56 (by decide)
            have th22_224_57 := eh22.2 (224) 57 (by decide)
            refine sx_aload_n dX12_lookPlain_83 rfl ?_
            refine sx_getI (k := 54) cl_12 fl_X12_400 dX12_lookPlain_84 s_224 (by decide) rfl (by decide) ?_
            refine sx_aload_n dX12_lookPlain_87 rfl ?_
            refine sx_getI (k := 58) cl_12 fl_X12_412 dX12_lookPlain_88 s_224 (by decide) rfl (by decide) ?_
            refine sx_icmp_le (tgt := 206) dX12_lookPlain_91 (by decide) (fun c23 => ?_) (fun c23 => ?_)
            ·
              refine sx_aload_n dX12_lookPlain_206 rfl ?_
              refine sx_callVi lk_X12_440 cl_12 s_224 (by decide) dX12_lookPlain_207 (vs := []) rfl rfl (Nat.le_of_ble_eq_true rfl) (Nat.le_of_ble_eq_true rfl) rfl (c_X12_tooFar _ Ih22.1) (fun x25 h24 ph24 => ?_)
              obtain ⟨rfl, p_x25⟩ := ph24
              refine sx_ireturn dX12_lookPlain_210 ?_
              exact ⟨_, rfl, ⟨Ih22, by omega, by omega⟩⟩
            ·
              refine sx_aload_n dX12_lookPlain_94 rfl ?_
              refine sx_aload_n dX12_lookPlain_95 rfl ?_
              refine sx_getI (k := 54) cl_12 fl_X12_400 dX12_lookPlain_96 s_224 (by decide) rfl (by decide) ?_
              refine sy_putI (k := 58) cl_12 fl_X12_412 dX12_lookPlain_99 s_224 (by decide) rfl (by decide) rfl rfl (fun h26 eh26 => ?_)
              have Ih26 := Ih22.up eh26 trivial rfl
              have th26_224_51 := eh26.2 (224) 51 (by decide)
              have th26_224_52 := eh26.2 (224) 52 (by decide)
              have th26_224_53 := eh26.2 (224) 53 (by decide)
              have th26_224_54 := eh26.2 (224) 54 (by decide)
              have th26_224_55 := eh26.2 (224) 55 (by decide)
              have th26_224_56 := eh26.2 (224) 56 (by decide)
              have th26_224_57 := eh26.2 (224) 57 (by decide)
              refine sx_goto (tgt := 206) dX12_lookPlain_102 (by decide) ?_
              refine sx_aload_n dX12_lookPlain_206 rfl ?_
              refine sx_callVi lk_X12_440 cl_12 s_224 (by decide) dX12_lookPlain_207 (vs := []) rfl rfl (Nat.le_of_ble_eq_true rfl) (Nat.le_of_ble_eq_true rfl) rfl (c_X12_tooFar _ Ih26.1) (fun x28 h27 ph27 => ?_)
              obtain ⟨rfl, p_x28⟩ := ph27
              refine sx_ireturn dX12_lookPlain_210 ?_
              exact ⟨_, rfl, ⟨Ih26, by omega, by omega⟩⟩
        ·
          refine sx_iconst dX12_lookPlain_64 ⟨by decide, by decide⟩ ?_
          refine sx_goto (tgt := 79) dX12_lookPlain_65 (by decide) ?_
          refine sx_iadd dX12_lookPlain_79 ?_
          refine sy_topw (by omega) ?_
          refine sy_putI (k := 54) cl_12 fl_X12_400 dX12_lookPlain_80 s_224 (by decide) rfl (by decide) rfl rfl (fun h29 eh29 => ?_)
          have Ih29 := Ih11.up eh29 trivial rfl
          have th29_224_51 := eh29.2 (224) 51 (by decide)
          have th29_224_52 := eh29.2 (224) 52 (by decide)
          have th29_224_53 := eh29.2 (224) 53 (by decide)
          have th29_224_54 := eh29.1
          have th29_224_55 := eh29.2 (224) 55 (by decide)
          have th29_224_56 := eh29.2 (224) 56 (by decide)
          have th29_224_57 := eh29.2 (224) 57 (by decide)
          refine sx_aload_n dX12_lookPlain_83 rfl ?_
          refine sx_getI (k := 54) cl_12 fl_X12_400 dX12_lookPlain_84 s_224 (by decide) rfl (by decide) ?_
          refine sx_aload_n dX12_lookPlain_87 rfl ?_
          refine sx_getI (k := 58) cl_12 fl_X12_412 dX12_lookPlain_88 s_224 (by decide) rfl (by decide) ?_
          refine sx_icmp_le (tgt := 206) dX12_lookPlain_91 (by decide) (fun c30 => ?_) (fun c30 => ?_)
          ·
            refine sx_aload_n dX12_lookPlain_206 rfl ?_
            refine sx_callVi lk_X12_440 cl_12 s_224 (by decide) dX12_lookPlain_207 (vs := []) rfl rfl (Nat.le_of_ble_eq_true rfl) (Nat.le_of_ble_eq_true rfl) rfl (c_X12_tooFar _ Ih29.1) (fun x32 h31 ph31 => ?_)
            obtain ⟨rfl, p_x32⟩ := ph31
            refine sx_ireturn dX12_lookPlain_210 ?_
            exact ⟨_, rfl, ⟨Ih29, by omega, by omega⟩⟩
          ·
            refine sx_aload_n dX12_lookPlain_94 rfl ?_
            refine sx_aload_n dX12_lookPlain_95 rfl ?_
            refine sx_getI (k := 54) cl_12 fl_X12_400 dX12_lookPlain_96 s_224 (by decide) rfl (by decide) ?_
            refine sy_putI (k := 58) cl_12 fl_X12_412 dX12_lookPlain_99 s_224 (by decide) rfl (by decide) rfl rfl (fun h33 eh33 => ?_)
            have Ih33 := Ih29.up eh33 trivial rfl
            have th33_224_51 := eh33.2 (224) 51 (by decide)
            have th33_224_52 := eh33.2 (224) 52 (by decide)
            have th33_224_53 := eh33.2 (224) 53 (by decide)
            have th33_224_54 := eh33.2 (224) 54 (by decide)
            have th33_224_55 := eh33.2 (224) 55 (by decide)
            have th33_224_56 := eh33.2 (224) 56 (by decide)
            have th33_224_57 := eh33.2 (224) 57 (by decide)
            refine sx_goto (tgt := 206) dX12_lookPlain_102 (by decide) ?_
            refine sx_aload_n dX12_lookPlain_206 rfl ?_
            refine sx_callVi lk_X12_440 cl_12 s_224 (by decide) dX12_lookPlain_207 (vs := []) rfl rfl (Nat.le_of_ble_eq_true rfl) (Nat.le_of_ble_eq_true rfl) rfl (c_X12_tooFar _ Ih33.1) (fun x35 h34 ph34 => ?_)
            obtain ⟨rfl, p_x35⟩ := ph34
            refine sx_ireturn dX12_lookPlain_210 ?_
            exact ⟨_, rfl, ⟨Ih33, by omega, by omega⟩⟩
    ·
      refine sx_aload_n dX12_lookPlain_10 rfl ?_
      refine sx_getI (k := 54) cl_12 fl_X12_400 dX12_lookPlain_11 s_224 (by decide) rfl (by decide) ?_
      refine sx_if_ne (tgt := 20) dX12_lookPlain_14 (by decide) (fun c36 => ?_) (fun c36 => ?_)
      ·
        refine sx_aload_n dX12_lookPlain_20 rfl ?_
        refine sx_getS (k := 49) (t := 259) cl_12 fl_X12_118 dX12_lookPlain_21 s_224 (by decide) rfl (by decide) ?_
        refine sx_aload_n dX12_lookPlain_24 rfl ?_
        refine sx_getI (k := 55) cl_12 fl_X12_397 dX12_lookPlain_25 s_224 (by decide) rfl (by decide) ?_
        refine sx_dup2 dX12_lookPlain_28 ?_
        refine sx_iaload dX12_lookPlain_29 s_259 (by decide) (by decide) ⟨by omega, by omega⟩ ?_
        refine sx_iconst dX12_lookPlain_30 ⟨by decide, by decide⟩ ?_
        refine sx_iadd dX12_lookPlain_31 ?_
        refine sy_iastore dX12_lookPlain_32 s_259 (by decide) (by decide) ⟨by omega, by omega⟩ (fun h37 eh37 => ?_)
        have Ih37 := hI.up eh37 trivial rfl
        have th37_224_51 := eh37.2 (224) 51 (by omega)
        have th37_224_52 := eh37.2 (224) 52 (by omega)
        have th37_224_53 := eh37.2 (224) 53 (by omega)
        have th37_224_54 := eh37.2 (224) 54 (by omega)
        have th37_224_55 := eh37.2 (224) 55 (by omega)
        have th37_224_56 := eh37.2 (224) 56 (by omega)
        have th37_224_57 := eh37.2 (224) 57 (by omega)
        refine sx_iload_n dX12_lookPlain_33 rfl ?_
        refine sx_if_ne (tgt := 105) dX12_lookPlain_34 (by decide) (fun c38 => ?_) (fun c38 => ?_)
        ·
          exact absurd c38 (by decide)
        ·
          refine sx_aload_n dX12_lookPlain_37 rfl ?_
          refine sx_iload_n dX12_lookPlain_38 rfl ?_
          refine sx_callSi lk_X12_443 dX12_lookPlain_39 (vs := [_]) rfl rfl (Nat.le_of_ble_eq_true rfl) (Nat.le_of_ble_eq_true rfl) rfl (c_X12_taken _ Ih37.1 _) (fun x40 h39 ph39 => ?_)
          obtain ⟨rfl, p_x40⟩ := ph39
          refine sx_callVv lk_X12_431 cl_12 s_224 (by decide) dX12_lookPlain_42 (vs := [_]) rfl rfl (Nat.le_of_ble_eq_true rfl) (Nat.le_of_ble_eq_true rfl) rfl (c_X12_take _ Ih37.1 _ (by omega)) (fun h41 ph41 => ?_)
          obtain ⟨Kh41, t_h41⟩ := ph41
          have Ih41 := Ih37.tr Kh41 (prW_sub rfl rfl)
          have th41_224_51 := Kh41.2 224 51 rfl
          have th41_224_52 := Kh41.2 224 52 rfl
          have th41_224_54 := Kh41.2 224 54 rfl
          have th41_224_55 := Kh41.2 224 55 rfl
          have th41_224_57 := Kh41.2 224 57 rfl
          refine sx_aload_n dX12_lookPlain_45 rfl ?_
          refine sx_iload_n dX12_lookPlain_46 rfl ?_
          refine sx_callSi lk_X12_446 dX12_lookPlain_47 (vs := [_]) rfl rfl (Nat.le_of_ble_eq_true rfl) (Nat.le_of_ble_eq_true rfl) rfl (c_X12_laidBy _ Ih41.1 _) (fun x44 h43 ph43 => ?_)
          obtain ⟨rfl, p_x44⟩ := ph43
          refine sx_callVv lk_X12_449 cl_12 s_224 (by decide) dX12_lookPlain_50 (vs := [_]) rfl rfl (Nat.le_of_ble_eq_true rfl) (Nat.le_of_ble_eq_true rfl) rfl (c_X12_rise _ Ih41.1 _ (by omega)) (fun h45 ph45 => ?_)
          obtain ⟨Kh45, t_h45⟩ := ph45
          have Ih45 := Ih41.tr Kh45 (prW_sub rfl rfl)
          have th45_224_51 := Kh45.2 224 51 rfl
          have th45_224_52 := Kh45.2 224 52 rfl
          have th45_224_54 := Kh45.2 224 54 rfl
          have th45_224_55 := Kh45.2 224 55 rfl
          have th45_224_56 := Kh45.2 224 56 rfl
          refine sx_aload_n dX12_lookPlain_53 rfl ?_
          refine sx_dupr dX12_lookPlain_54 ?_
          refine sx_getI (k := 54) cl_12 fl_X12_400 dX12_lookPlain_55 s_224 (by decide) rfl (by decide) ?_
          refine sx_iload_n dX12_lookPlain_58 rfl ?_
          refine sx_bipush dX12_lookPlain_59 ⟨by decide, by decide, by decide⟩ ?_
          refine sx_icmp_ne (tgt := 68) dX12_lookPlain_61 (by decide) (fun c47 => ?_) (fun c47 => ?_)
          ·
            refine sx_iload_n dX12_lookPlain_68 rfl ?_
            refine sx_bipush dX12_lookPlain_69 ⟨by decide, by decide, by decide⟩ ?_
            refine sx_icmp_ne (tgt := 78) dX12_lookPlain_71 (by decide) (fun c48 => ?_) (fun c48 => ?_)
            ·
              refine sx_iconst dX12_lookPlain_78 ⟨by decide, by decide⟩ ?_
              refine sx_iadd dX12_lookPlain_79 ?_
              refine sy_topw (by omega) ?_
              refine sy_putI (k := 54) cl_12 fl_X12_400 dX12_lookPlain_80 s_224 (by decide) rfl (by decide) rfl rfl (fun h49 eh49 => ?_)
              have Ih49 := Ih45.up eh49 trivial rfl
              have th49_224_51 := eh49.2 (224) 51 (by decide)
              have th49_224_52 := eh49.2 (224) 52 (by decide)
              have th49_224_53 := eh49.2 (224) 53 (by decide)
              have th49_224_54 := eh49.1
              have th49_224_55 := eh49.2 (224) 55 (by decide)
              have th49_224_56 := eh49.2 (224) 56 (by decide)
              have th49_224_57 := eh49.2 (224) 57 (by decide)
              refine sx_aload_n dX12_lookPlain_83 rfl ?_
              refine sx_getI (k := 54) cl_12 fl_X12_400 dX12_lookPlain_84 s_224 (by decide) rfl (by decide) ?_
              refine sx_aload_n dX12_lookPlain_87 rfl ?_
              refine sx_getI (k := 58) cl_12 fl_X12_412 dX12_lookPlain_88 s_224 (by decide) rfl (by decide) ?_
              refine sx_icmp_le (tgt := 206) dX12_lookPlain_91 (by decide) (fun c50 => ?_) (fun c50 => ?_)
              ·
                refine sx_aload_n dX12_lookPlain_206 rfl ?_
                refine sx_callVi lk_X12_440 cl_12 s_224 (by decide) dX12_lookPlain_207 (vs := []) rfl rfl (Nat.le_of_ble_eq_true rfl) (Nat.le_of_ble_eq_true rfl) rfl (c_X12_tooFar _ Ih49.1) (fun x52 h51 ph51 => ?_)
                obtain ⟨rfl, p_x52⟩ := ph51
                refine sx_ireturn dX12_lookPlain_210 ?_
                exact ⟨_, rfl, ⟨Ih49, by omega, by omega⟩⟩
              ·
                refine sx_aload_n dX12_lookPlain_94 rfl ?_
                refine sx_aload_n dX12_lookPlain_95 rfl ?_
                refine sx_getI (k := 54) cl_12 fl_X12_400 dX12_lookPlain_96 s_224 (by decide) rfl (by decide) ?_
                refine sy_putI (k := 58) cl_12 fl_X12_412 dX12_lookPlain_99 s_224 (by decide) rfl (by decide) rfl rfl (fun h53 eh53 => ?_)
                have Ih53 := Ih49.up eh53 trivial rfl
                have th53_224_51 := eh53.2 (224) 51 (by decide)
                have th53_224_52 := eh53.2 (224) 52 (by decide)
                have th53_224_53 := eh53.2 (224) 53 (by decide)
                have th53_224_54 := eh53.2 (224) 54 (by decide)
                have th53_224_55 := eh53.2 (224) 55 (by decide)
                have th53_224_56 := eh53.2 (224) 56 (by decide)
                have th53_224_57 := eh53.2 (224) 57 (by decide)
                refine sx_goto (tgt := 206) dX12_lookPlain_102 (by decide) ?_
                refine sx_aload_n dX12_lookPlain_206 rfl ?_
                refine sx_callVi lk_X12_440 cl_12 s_224 (by decide) dX12_lookPlain_207 (vs := []) rfl rfl (Nat.le_of_ble_eq_true rfl) (Nat.le_of_ble_eq_true rfl) rfl (c_X12_tooFar _ Ih53.1) (fun x55 h54 ph54 => ?_)
                obtain ⟨rfl, p_x55⟩ := ph54
                refine sx_ireturn dX12_lookPlain_210 ?_
                exact ⟨_, rfl, ⟨Ih53, by omega, by omega⟩⟩
            ·
              refine sx_iconst dX12_lookPlain_74 ⟨by decide, by decide⟩ ?_
              refine sx_goto (tgt := 79) dX12_lookPlain_75 (by decide) ?_
              refine sx_iadd dX12_lookPlain_79 ?_
              refine sy_topw (by omega) ?_
              refine sy_putI (k := 54) cl_12 fl_X12_400 dX12_lookPlain_80 s_224 (by decide) rfl (by decide) rfl rfl (fun h56 eh56 => ?_)
              have Ih56 := Ih45.up eh56 trivial rfl
              have th56_224_51 := eh56.2 (224) 51 (by decide)
              have th56_224_52 := eh56.2 (224) 52 (by decide)
              have th56_224_53 := eh56.2 (224) 53 (by decide)
              have th56_224_54 := eh56.1
              have th56_224_55 := eh56.2 (224) 55 (by decide)
              have th56_224_56 := eh56.2 (224) 56 (by decide)
              have th56_224_57 := eh56.2 (224) 57 (by decide)
              refine sx_aload_n dX12_lookPlain_83 rfl ?_
              refine sx_getI (k := 54) cl_12 fl_X12_400 dX12_lookPlain_84 s_224 (by decide) rfl (by decide) ?_
              refine sx_aload_n dX12_lookPlain_87 rfl ?_
              refine sx_getI (k := 58) cl_12 fl_X12_412 dX12_lookPlain_88 s_224 (by decide) rfl (by decide) ?_
              refine sx_icmp_le (tgt := 206) dX12_lookPlain_91 (by decide) (fun c57 => ?_) (fun c57 => ?_)
              ·
                refine sx_aload_n dX12_lookPlain_206 rfl ?_
                refine sx_callVi lk_X12_440 cl_12 s_224 (by decide) dX12_lookPlain_207 (vs := []) rfl rfl (Nat.le_of_ble_eq_true rfl) (Nat.le_of_ble_eq_true rfl) rfl (c_X12_tooFar _ Ih56.1) (fun x59 h58 ph58 => ?_)
                obtain ⟨rfl, p_x59⟩ := ph58
                refine sx_ireturn dX12_lookPlain_210 ?_
                exact ⟨_, rfl, ⟨Ih56, by omega, by omega⟩⟩
              ·
                refine sx_aload_n dX12_lookPlain_94 rfl ?_
                refine sx_aload_n dX12_lookPlain_95 rfl ?_
                refine sx_getI (k := 54) cl_12 fl_X12_400 dX12_lookPlain_96 s_224 (by decide) rfl (by decide) ?_
                refine sy_putI (k := 58) cl_12 fl_X12_412 dX12_lookPlain_99 s_224 (by decide) rfl (by decide) rfl rfl (fun h60 eh60 => ?_)
                have Ih60 := Ih56.up eh60 trivial rfl
                have th60_224_51 := eh60.2 (224) 51 (by decide)
                have th60_224_52 := eh60.2 (224) 52 (by decide)
                have th60_224_53 := eh60.2 (224) 53 (by decide)
                have th60_224_54 := eh60.2 (224) 54 (by decide)
                have th60_224_55 := eh60.2 (224) 55 (by decide)
                have th60_224_56 := eh60.2 (224) 56 (by decide)
                have th60_224_57 := eh60.2 (224) 57 (by decide)
                refine sx_goto (tgt := 206) dX12_lookPlain_102 (by decide) ?_
                refine sx_aload_n dX12_lookPlain_206 rfl ?_
                refine sx_callVi lk_X12_440 cl_12 s_224 (by decide) dX12_lookPlain_207 (vs := []) rfl rfl (Nat.le_of_ble_eq_true rfl) (Nat.le_of_ble_eq_true rfl) rfl (c_X12_tooFar _ Ih60.1) (fun x62 h61 ph61 => ?_)
                obtain ⟨rfl, p_x62⟩ := ph61
                refine sx_ireturn dX12_lookPlain_210 ?_
                exact ⟨_, rfl, ⟨Ih60, by omega, by omega⟩⟩
          ·
            refine sx_iconst dX12_lookPlain_64 ⟨by decide, by decide⟩ ?_
            refine sx_goto (tgt := 79) dX12_lookPlain_65 (by decide) ?_
            refine sx_iadd dX12_lookPlain_79 ?_
            refine sy_topw (by omega) ?_
            refine sy_putI (k := 54) cl_12 fl_X12_400 dX12_lookPlain_80 s_224 (by decide) rfl (by decide) rfl rfl (fun h63 eh63 => ?_)
            have Ih63 := Ih45.up eh63 trivial rfl
            have th63_224_51 := eh63.2 (224) 51 (by decide)
            have th63_224_52 := eh63.2 (224) 52 (by decide)
            have th63_224_53 := eh63.2 (224) 53 (by decide)
            have th63_224_54 := eh63.1
            have th63_224_55 := eh63.2 (224) 55 (by decide)
            have th63_224_56 := eh63.2 (224) 56 (by decide)
            have th63_224_57 := eh63.2 (224) 57 (by decide)
            refine sx_aload_n dX12_lookPlain_83 rfl ?_
            refine sx_getI (k := 54) cl_12 fl_X12_400 dX12_lookPlain_84 s_224 (by decide) rfl (by decide) ?_
            refine sx_aload_n dX12_lookPlain_87 rfl ?_
            refine sx_getI (k := 58) cl_12 fl_X12_412 dX12_lookPlain_88 s_224 (by decide) rfl (by decide) ?_
            refine sx_icmp_le (tgt := 206) dX12_lookPlain_91 (by decide) (fun c64 => ?_) (fun c64 => ?_)
            ·
              refine sx_aload_n dX12_lookPlain_206 rfl ?_
              refine sx_callVi lk_X12_440 cl_12 s_224 (by decide) dX12_lookPlain_207 (vs := []) rfl rfl (Nat.le_of_ble_eq_true rfl) (Nat.le_of_ble_eq_true rfl) rfl (c_X12_tooFar _ Ih63.1) (fun x66 h65 ph65 => ?_)
              obtain ⟨rfl, p_x66⟩ := ph65
              refine sx_ireturn dX12_lookPlain_210 ?_
              exact ⟨_, rfl, ⟨Ih63, by omega, by omega⟩⟩
            ·
              refine sx_aload_n dX12_lookPlain_94 rfl ?_
              refine sx_aload_n dX12_lookPlain_95 rfl ?_
              refine sx_getI (k := 54) cl_12 fl_X12_400 dX12_lookPlain_96 s_224 (by decide) rfl (by decide) ?_
              refine sy_putI (k := 58) cl_12 fl_X12_412 dX12_lookPlain_99 s_224 (by decide) rfl (by decide) rfl rfl (fun h67 eh67 => ?_)
              have Ih67 := Ih63.up eh67 trivial rfl
              have th67_224_51 := eh67.2 (224) 51 (by decide)
              have th67_224_52 := eh67.2 (224) 52 (by decide)
              have th67_224_53 := eh67.2 (224) 53 (by decide)
              have th67_224_54 := eh67.2 (224) 54 (by decide)
              have th67_224_55 := eh67.2 (224) 55 (by decide)
              have th67_224_56 := eh67.2 (224) 56 (by decide)
              have th67_224_57 := eh67.2 (224) 57 (by decide)
              refine sx_goto (tgt := 206) dX12_lookPlain_102 (by decide) ?_
              refine sx_aload_n dX12_lookPlain_206 rfl ?_
              refine sx_callVi lk_X12_440 cl_12 s_224 (by decide) dX12_lookPlain_207 (vs := []) rfl rfl (Nat.le_of_ble_eq_true rfl) (Nat.le_of_ble_eq_true rfl) rfl (c_X12_tooFar _ Ih67.1) (fun x69 h68 ph68 => ?_)
              obtain ⟨rfl, p_x69⟩ := ph68
              refine sx_ireturn dX12_lookPlain_210 ?_
              exact ⟨_, rfl, ⟨Ih67, by omega, by omega⟩⟩
      ·
        refine sx_bipush dX12_lookPlain_17 ⟨by decide, by decide, by decide⟩ ?_
        refine sx_ireturn dX12_lookPlain_19 ?_
        exact ⟨_, rfl, ⟨hI, by omega, by omega⟩⟩
set_option maxRecDepth 20000 in
set_option maxHeartbeats 4000000 in
theorem c_X12_lookPlain_1 {G : sw_G} (d : Nat) {h0 : sw_H} (hJ : mI h0) (y2 : Int) (hb : -6 ≤ h0 224 53 ∧ h0 224 53 ≤ 12 ∧ 0 ≤ h0 224 54 ∧ h0 224 54 ≤ 6 ∧ 0 ≤ h0 224 55 ∧ h0 224 55 ≤ 4 ∧ 0 ≤ h0 224 56 ∧ h0 224 56 ≤ 6 ∧ 0 ≤ h0 224 57 ∧ h0 224 57 ≤ 12) (hy : 0 ≤ y2)  : sw_E G NH SH (d + 1) mX12_lookPlain 0 [some (sw_r 224), some (sw_i 1), some (sw_i y2), none] [] h0 (sw_Qi (fun z h' => mK (prW [53, 54, 56, 57, 58] [259]) h0 h' ∧ ((z = 0 ∨ z = 7) ∧ h0 224 56 ≤ h' 224 56 ∧ h0 224 57 ≤ h' 224 57 ∧ (z = 0 → h' 224 56 ≤ 6 ∧ h' 224 57 ≤ 12 ∧ 0 ≤ h' 224 54 ∧ h' 224 54 ≤ 6)) ∧ (z = 0 → h' 224 53 = h0 224 53 + 1 ∧ h' 224 54 = h0 224 54 ∧ h' 224 53 ≤ h' 224 57))) := by
  have hI : mK (prW [53, 54, 56, 57, 58] [259]) h0 h0 := mK.refl hJ
  have rl : (0 : Int) ≤ h0 224 52 ∧ h0 224 52 ≤ 1 := hI.1 224 52
  refine sx_iload_n dX12_lookPlain_0 rfl ?_
  refine sx_if_ne (tgt := 20) dX12_lookPlain_1 (by decide) (fun c1 => ?_) (fun c1 => ?_)
  ·
    refine sx_aload_n dX12_lookPlain_20 rfl ?_
    refine sx_getS (k := 49) (t := 259) cl_12 fl_X12_118 dX12_lookPlain_21 s_224 (by decide) rfl (by decide) ?_
    refine sx_aload_n dX12_lookPlain_24 rfl ?_
    refine sx_getI (k := 55) cl_12 fl_X12_397 dX12_lookPlain_25 s_224 (by decide) rfl (by decide) ?_
    refine sx_dup2 dX12_lookPlain_28 ?_
    refine sx_iaload dX12_lookPlain_29 s_259 (by decide) (by decide) ⟨by omega, by omega⟩ ?_
    refine sx_iconst dX12_lookPlain_30 ⟨by decide, by decide⟩ ?_
    refine sx_iadd dX12_lookPlain_31 ?_
    refine sy_iastore dX12_lookPlain_32 s_259 (by decide) (by decide) ⟨by omega, by omega⟩ (fun h2 eh2 => ?_)
    have Ih2 := hI.up eh2 trivial rfl
    have th2_224_51 := eh2.2 (224) 51 (by omega)
    have th2_224_52 := eh2.2 (224) 52 (by omega)
    have th2_224_53 := eh2.2 (224) 53 (by omega)
    have th2_224_54 := eh2.2 (224) 54 (by omega)
    have th2_224_55 := eh2.2 (224) 55 (by omega)
    have th2_224_56 := eh2.2 (224) 56 (by omega)
    have th2_224_57 := eh2.2 (224) 57 (by omega)
    refine sx_iload_n dX12_lookPlain_33 rfl ?_
    refine sx_if_ne (tgt := 105) dX12_lookPlain_34 (by decide) (fun c3 => ?_) (fun c3 => ?_)
    ·
      refine sx_iload_n dX12_lookPlain_105 rfl ?_
      refine sx_iconst dX12_lookPlain_106 ⟨by decide, by decide⟩ ?_
      refine sx_icmp_ne (tgt := 118) dX12_lookPlain_107 (by decide) (fun c4 => ?_) (fun c4 => ?_)
      ·
        exact absurd c4 (by decide)
      ·
        refine sx_aload_n dX12_lookPlain_110 rfl ?_
        refine sx_iconst dX12_lookPlain_111 ⟨by decide, by decide⟩ ?_
        refine sx_callVv lk_X12_449 cl_12 s_224 (by decide) dX12_lookPlain_112 (vs := [_]) rfl rfl (Nat.le_of_ble_eq_true rfl) (Nat.le_of_ble_eq_true rfl) rfl (c_X12_rise _ Ih2.1 _ (by omega)) (fun h5 ph5 => ?_)
        obtain ⟨Kh5, t_h5⟩ := ph5
        have Ih5 := Ih2.tr Kh5 (prW_sub rfl rfl)
        have th5_224_51 := Kh5.2 224 51 rfl
        have th5_224_52 := Kh5.2 224 52 rfl
        have th5_224_54 := Kh5.2 224 54 rfl
        have th5_224_55 := Kh5.2 224 55 rfl
        have th5_224_56 := Kh5.2 224 56 rfl
        refine sx_goto (tgt := 206) dX12_lookPlain_115 (by decide) ?_
        refine sx_aload_n dX12_lookPlain_206 rfl ?_
        refine sx_callVi lk_X12_440 cl_12 s_224 (by decide) dX12_lookPlain_207 (vs := []) rfl rfl (Nat.le_of_ble_eq_true rfl) (Nat.le_of_ble_eq_true rfl) rfl (c_X12_tooFar _ Ih5.1) (fun x8 h7 ph7 => ?_)
        obtain ⟨rfl, p_x8⟩ := ph7
        refine sx_ireturn dX12_lookPlain_210 ?_
        exact ⟨_, rfl, ⟨Ih5, by omega, by omega⟩⟩
    ·
      exact absurd c3 (by decide)
  ·
    exact absurd c1 (by decide)
set_option maxRecDepth 20000 in
set_option maxHeartbeats 4000000 in
theorem c_X12_lookPlain_2 {G : sw_G} (d : Nat) {h0 : sw_H} (hJ : mI h0) (y2 : Int) (hb : -6 ≤ h0 224 53 ∧ h0 224 53 ≤ 12 ∧ 0 ≤ h0 224 54 ∧ h0 224 54 ≤ 6 ∧ 0 ≤ h0 224 55 ∧ h0 224 55 ≤ 4 ∧ 0 ≤ h0 224 56 ∧ h0 224 56 ≤ 6 ∧ 0 ≤ h0 224 57 ∧ h0 224 57 ≤ 12) (hy : 0 ≤ y2 ∧ y2 < 6 ∧ 0 ≤ h0 235 (6 * h0 224 52 + y2).toNat ∧ h0 235 (6 * h0 224 52 + y2).toNat ≤ 6 ∧ -12 ≤ h0 236 (6 * h0 224 52 + y2).toNat ∧ h0 236 (6 * h0 224 52 + y2).toNat ≤ 12 ∧ 0 ≤ h0 237 (6 * h0 224 52 + y2).toNat ∧ h0 237 (6 * h0 224 52 + y2).toNat ≤ 12 ∧ 0 ≤ h0 235 (6 * h0 224 52 + y2).toNat + h0 236 (6 * h0 224 52 + y2).toNat)  : sw_E G NH SH (d + 1) mX12_lookPlain 0 [some (sw_r 224), some (sw_i 2), some (sw_i y2), none] [] h0 (sw_Qi (fun z h' => mK (prW [53, 54, 56, 57, 58] [259]) h0 h' ∧ ((z = 0 ∨ z = 7) ∧ h0 224 56 ≤ h' 224 56 ∧ h0 224 57 ≤ h' 224 57 ∧ (z = 0 → h' 224 56 ≤ 6 ∧ h' 224 57 ≤ 12 ∧ 0 ≤ h' 224 54 ∧ h' 224 54 ≤ 6)) ∧ (z = 0 → h' 224 53 = h0 224 53 + h0 236 (6 * h0 224 52 + y2).toNat ∧ h' 224 54 = h0 224 54 ∧ h0 235 (6 * h0 224 52 + y2).toNat - h0 224 53 ≤ h' 224 56 ∧ h0 224 53 + h0 237 (6 * h0 224 52 + y2).toNat ≤ h' 224 57 ∧ h' 224 53 ≤ h' 224 57))) := by
  have hI : mK (prW [53, 54, 56, 57, 58] [259]) h0 h0 := mK.refl hJ
  have rl : (0 : Int) ≤ h0 224 52 ∧ h0 224 52 ≤ 1 := hI.1 224 52
  refine sx_iload_n dX12_lookPlain_0 rfl ?_
  refine sx_if_ne (tgt := 20) dX12_lookPlain_1 (by decide) (fun c1 => ?_) (fun c1 => ?_)
  ·
    refine sx_aload_n dX12_lookPlain_20 rfl ?_
    refine sx_getS (k := 49) (t := 259) cl_12 fl_X12_118 dX12_lookPlain_21 s_224 (by decide) rfl (by decide) ?_
    refine sx_aload_n dX12_lookPlain_24 rfl ?_
    refine sx_getI (k := 55) cl_12 fl_X12_397 dX12_lookPlain_25 s_224 (by decide) rfl (by decide) ?_
    refine sx_dup2 dX12_lookPlain_28 ?_
    refine sx_iaload dX12_lookPlain_29 s_259 (by decide) (by decide) ⟨by first | omega | (rw [ev4]; omega), by first | omega | (rw [ev4]; omega)⟩ ?_
    refine sx_iconst dX12_lookPlain_30 ⟨by decide, by decide⟩ ?_
    refine sx_iadd dX12_lookPlain_31 ?_
    refine sy_iastore dX12_lookPlain_32 s_259 (by decide) (by decide) ⟨by first | omega | (rw [ev4]; omega), by first | omega | (rw [ev4]; omega)⟩ (fun h2 eh2 => ?_)
    have Ih2 := hI.up eh2 trivial rfl
    have th2_224_51 := eh2.2 (224) 51 (by omega)
    have th2_224_52 := eh2.2 (224) 52 (by omega)
    have th2_224_53 := eh2.2 (224) 53 (by omega)
    have th2_224_54 := eh2.2 (224) 54 (by omega)
    have th2_224_55 := eh2.2 (224) 55 (by omega)
    have th2_224_56 := eh2.2 (224) 56 (by omega)
    have th2_224_57 := eh2.2 (224) 57 (by omega)
    refine sx_iload_n dX12_lookPlain_33 rfl ?_
    refine sx_if_ne (tgt := 105) dX12_lookPlain_34 (by decide) (fun c3 => ?_) (fun c3 => ?_)
    ·
      refine sx_iload_n dX12_lookPlain_105 rfl ?_
      refine sx_iconst dX12_lookPlain_106 ⟨by decide, by decide⟩ ?_
      refine sx_icmp_ne (tgt := 118) dX12_lookPlain_107 (by decide) (fun c4 => ?_) (fun c4 => ?_)
      ·
        refine sx_bipush dX12_lookPlain_118 ⟨by decide, by decide, by decide⟩ ?_
        refine sx_aload_n dX12_lookPlain_120 rfl ?_
        refine sx_getI (k := 52) cl_12 fl_X12_421 dX12_lookPlain_121 s_224 (by decide) rfl (by decide) ?_
        have r5 : (0 : Int) ≤ h2 224 52 ∧ h2 224 52 ≤ 1 := Ih2.1 224 52
        refine sx_imul dX12_lookPlain_124 ?_
        refine sy_topw (by first | omega | (rw [ev4]; omega)) ?_
        refine sx_iload_n dX12_lookPlain_125 rfl ?_
        refine sx_iadd dX12_lookPlain_126 ?_
        refine sy_topw (by first | omega | (rw [ev4]; omega)) ?_
        refine sy_top (fun v6 ev6 => ?_)
        refine sx_istore_n dX12_lookPlain_127 (by decide) ?_
        have ev3 : v6 = 6 * h0 224 52 + y2 := by omega
        have ev4 : (v6).toNat = (6 * h0 224 52 + y2).toNat := by omega
        have e5 : h2 235 (v6).toNat = h0 235 (6 * h0 224 52 + y2).toNat := by rw [ev4]; exact Ih2.2 235 _ rfl
        have e6 : h2 236 (v6).toNat = h0 236 (6 * h0 224 52 + y2).toNat := by rw [ev4]; exact Ih2.2 236 _ rfl
        have e7 : h2 237 (v6).toNat = h0 237 (6 * h0 224 52 + y2).toNat := by rw [ev4]; exact Ih2.2 237 _ rfl
        refine sx_aload_n dX12_lookPlain_128 rfl ?_
        refine sx_getI (k := 53) cl_12 fl_X12_406 dX12_lookPlain_129 s_224 (by decide) rfl (by decide) ?_
        refine sx_aload_n dX12_lookPlain_132 rfl ?_
        refine sx_getS (k := 21) (t := 237) cl_12 fl_X12_51 dX12_lookPlain_133 s_224 (by decide) rfl (by decide) ?_
        refine sx_iload_n dX12_lookPlain_136 rfl ?_
        refine sx_iaload dX12_lookPlain_137 s_237 (by decide) (by decide) ⟨by first | omega | (rw [ev4]; omega), by first | omega | (rw [ev4]; omega)⟩ ?_
        refine sx_iadd dX12_lookPlain_138 ?_
        refine sy_topw (by first | omega | (rw [ev4]; omega)) ?_
        refine sx_aload_n dX12_lookPlain_139 rfl ?_
        refine sx_getI (k := 57) cl_12 fl_X12_409 dX12_lookPlain_140 s_224 (by decide) rfl (by decide) ?_
        refine sx_icmp_le (tgt := 161) dX12_lookPlain_143 (by decide) (fun c7 => ?_) (fun c7 => ?_)
        ·
          refine sx_aload_n dX12_lookPlain_161 rfl ?_
          refine sx_getS (k := 49) (t := 259) cl_12 fl_X12_118 dX12_lookPlain_162 s_224 (by decide) rfl (by decide) ?_
          refine sx_aload_n dX12_lookPlain_165 rfl ?_
          refine sx_getI (k := 55) cl_12 fl_X12_397 dX12_lookPlain_166 s_224 (by decide) rfl (by decide) ?_
          refine sx_dup2 dX12_lookPlain_169 ?_
          refine sx_iaload dX12_lookPlain_170 s_259 (by decide) (by decide) ⟨by first | omega | (rw [ev4]; omega), by first | omega | (rw [ev4]; omega)⟩ ?_
          refine sx_aload_n dX12_lookPlain_171 rfl ?_
          refine sx_getS (k := 23) (t := 239) cl_12 fl_X12_57 dX12_lookPlain_172 s_224 (by decide) rfl (by decide) ?_
          refine sx_iload_n dX12_lookPlain_175 rfl ?_
          refine sx_iaload dX12_lookPlain_176 s_239 (by decide) (by decide) ⟨by first | omega | (rw [ev4]; omega), by first | omega | (rw [ev4]; omega)⟩ ?_
          refine sx_iadd dX12_lookPlain_177 ?_
          refine sy_iastore dX12_lookPlain_178 s_259 (by decide) (by decide) ⟨by first | omega | (rw [ev4]; omega), by first | omega | (rw [ev4]; omega)⟩ (fun h8 eh8 => ?_)
          have Ih8 := Ih2.up eh8 trivial rfl
          have th8_224_51 := eh8.2 (224) 51 (by omega)
          have th8_224_52 := eh8.2 (224) 52 (by omega)
          have th8_224_53 := eh8.2 (224) 53 (by omega)
          have th8_224_54 := eh8.2 (224) 54 (by omega)
          have th8_224_55 := eh8.2 (224) 55 (by omega)
          have th8_224_56 := eh8.2 (224) 56 (by omega)
          have th8_224_57 := eh8.2 (224) 57 (by omega)
          have e5 : h8 235 (v6).toNat = h0 235 (6 * h0 224 52 + y2).toNat := by rw [ev4]; exact Ih8.2 235 _ rfl
          have e6 : h8 236 (v6).toNat = h0 236 (6 * h0 224 52 + y2).toNat := by rw [ev4]; exact Ih8.2 236 _ rfl
          have e7 : h8 237 (v6).toNat = h0 237 (6 * h0 224 52 + y2).toNat := by rw [ev4]; exact Ih8.2 237 _ rfl
          refine sx_aload_n dX12_lookPlain_179 rfl ?_
          refine sx_aload_n dX12_lookPlain_180 rfl ?_
          refine sx_getS (k := 19) (t := 235) cl_12 fl_X12_45 dX12_lookPlain_181 s_224 (by decide) rfl (by decide) ?_
          refine sx_iload_n dX12_lookPlain_184 rfl ?_
          refine sx_iaload dX12_lookPlain_185 s_235 (by decide) (by decide) ⟨by first | omega | (rw [ev4]; omega), by first | omega | (rw [ev4]; omega)⟩ ?_
          refine sx_callVv lk_X12_431 cl_12 s_224 (by decide) dX12_lookPlain_186 (vs := [_]) rfl rfl (Nat.le_of_ble_eq_true rfl) (Nat.le_of_ble_eq_true rfl) rfl (c_X12_take _ Ih8.1 _ (by omega)) (fun h9 ph9 => ?_)
          obtain ⟨Kh9, t_h9⟩ := ph9
          have Ih9 := Ih8.tr Kh9 (prW_sub rfl rfl)
          have th9_224_51 := Kh9.2 224 51 rfl
          have th9_224_52 := Kh9.2 224 52 rfl
          have th9_224_54 := Kh9.2 224 54 rfl
          have th9_224_55 := Kh9.2 224 55 rfl
          have th9_224_57 := Kh9.2 224 57 rfl
          have e5 : h9 235 (v6).toNat = h0 235 (6 * h0 224 52 + y2).toNat := by rw [ev4]; exact Ih9.2 235 _ rfl
          have e6 : h9 236 (v6).toNat = h0 236 (6 * h0 224 52 + y2).toNat := by rw [ev4]; exact Ih9.2 236 _ rfl
          have e7 : h9 237 (v6).toNat = h0 237 (6 * h0 224 52 + y2).toNat := by rw [ev4]; exact Ih9.2 237 _ rfl
          refine sx_aload_n dX12_lookPlain_189 rfl ?_
          refine sx_aload_n dX12_lookPlain_190 rfl ?_
          refine sx_getS (k := 19) (t := 235) cl_12 fl_X12_45 dX12_lookPlain_191 s_224 (by decide) rfl (by decide) ?_
          refine sx_iload_n dX12_lookPlain_194 rfl ?_
          refine sx_iaload dX12_lookPlain_195 s_235 (by decide) (by decide) ⟨by first | omega | (rw [ev4]; omega), by first | omega | (rw [ev4]; omega)⟩ ?_
          refine sx_aload_n dX12_lookPlain_196 rfl ?_
          refine sx_getS (k := 20) (t := 236) cl_12 fl_X12_48 dX12_lookPlain_197 s_224 (by decide) rfl (by decide) ?_
          refine sx_iload_n dX12_lookPlain_200 rfl ?_
          refine sx_iaload dX12_lookPlain_201 s_236 (by decide) (by decide) ⟨by first | omega | (rw [ev4]; omega), by first | omega | (rw [ev4]; omega)⟩ ?_
          refine sx_iadd dX12_lookPlain_202 ?_
          refine sy_topw (by first | omega | (rw [ev4]; omega)) ?_
          refine sx_callVv lk_X12_449 cl_12 s_224 (by decide) dX12_lookPlain_203 (vs := [_]) rfl rfl (Nat.le_of_ble_eq_true rfl) (Nat.le_of_ble_eq_true rfl) rfl (c_X12_rise _ Ih9.1 _ (by omega)) (fun h11 ph11 => ?_)
          obtain ⟨Kh11, t_h11⟩ := ph11
          have Ih11 := Ih9.tr Kh11 (prW_sub rfl rfl)
          have th11_224_51 := Kh11.2 224 51 rfl
          have th11_224_52 := Kh11.2 224 52 rfl
          have th11_224_54 := Kh11.2 224 54 rfl
          have th11_224_55 := Kh11.2 224 55 rfl
          have th11_224_56 := Kh11.2 224 56 rfl
          refine sx_aload_n dX12_lookPlain_206 rfl ?_
          refine sx_callVi lk_X12_440 cl_12 s_224 (by decide) dX12_lookPlain_207 (vs := []) rfl rfl (Nat.le_of_ble_eq_true rfl) (Nat.le_of_ble_eq_true rfl) rfl (c_X12_tooFar _ Ih11.1) (fun x14 h13 ph13 => ?_)
          obtain ⟨rfl, p_x14⟩ := ph13
          refine sx_ireturn dX12_lookPlain_210 ?_
          exact ⟨_, rfl, ⟨Ih11, by omega, by omega⟩⟩
        ·
          refine sx_aload_n dX12_lookPlain_146 rfl ?_
          refine sx_aload_n dX12_lookPlain_147 rfl ?_
          refine sx_getI (k := 53) cl_12 fl_X12_406 dX12_lookPlain_148 s_224 (by decide) rfl (by decide) ?_
          refine sx_aload_n dX12_lookPlain_151 rfl ?_
          refine sx_getS (k := 21) (t := 237) cl_12 fl_X12_51 dX12_lookPlain_152 s_224 (by decide) rfl (by decide) ?_
          refine sx_iload_n dX12_lookPlain_155 rfl ?_
          refine sx_iaload dX12_lookPlain_156 s_237 (by decide) (by decide) ⟨by first | omega | (rw [ev4]; omega), by first | omega | (rw [ev4]; omega)⟩ ?_
          refine sx_iadd dX12_lookPlain_157 ?_
          refine sy_topw (by first | omega | (rw [ev4]; omega)) ?_
          refine sy_putI (k := 57) cl_12 fl_X12_409 dX12_lookPlain_158 s_224 (by decide) rfl (by decide) rfl rfl (fun h15 eh15 => ?_)
          have Ih15 := Ih2.up eh15 trivial rfl
          have th15_224_51 := eh15.2 (224) 51 (by decide)
          have th15_224_52 := eh15.2 (224) 52 (by decide)
          have th15_224_53 := eh15.2 (224) 53 (by decide)
          have th15_224_54 := eh15.2 (224) 54 (by decide)
          have th15_224_55 := eh15.2 (224) 55 (by decide)
          have th15_224_56 := eh15.2 (224) 56 (by decide)
          have th15_224_57 := eh15.1
          refine sx_aload_n dX12_lookPlain_161 rfl ?_
          refine sx_getS (k := 49) (t := 259) cl_12 fl_X12_118 dX12_lookPlain_162 s_224 (by decide) rfl (by decide) ?_
          refine sx_aload_n dX12_lookPlain_165 rfl ?_
          refine sx_getI (k := 55) cl_12 fl_X12_397 dX12_lookPlain_166 s_224 (by decide) rfl (by decide) ?_
          refine sx_dup2 dX12_lookPlain_169 ?_
          refine sx_iaload dX12_lookPlain_170 s_259 (by decide) (by decide) ⟨by first | omega | (rw [ev4]; omega), by first | omega | (rw [ev4]; omega)⟩ ?_
          refine sx_aload_n dX12_lookPlain_171 rfl ?_
          refine sx_getS (k := 23) (t := 239) cl_12 fl_X12_57 dX12_lookPlain_172 s_224 (by decide) rfl (by decide) ?_
          refine sx_iload_n dX12_lookPlain_175 rfl ?_
          refine sx_iaload dX12_lookPlain_176 s_239 (by decide) (by decide) ⟨by first | omega | (rw [ev4]; omega), by first | omega | (rw [ev4]; omega)⟩ ?_
          refine sx_iadd dX12_lookPlain_177 ?_
          refine sy_iastore dX12_lookPlain_178 s_259 (by decide) (by decide) ⟨by first | omega | (rw [ev4]; omega), by first | omega | (rw [ev4]; omega)⟩ (fun h16 eh16 => ?_)
          have Ih16 := Ih15.up eh16 trivial rfl
          have th16_224_51 := eh16.2 (224) 51 (by omega)
          have th16_224_52 := eh16.2 (224) 52 (by omega)
          have th16_224_53 := eh16.2 (224) 53 (by omega)
          have th16_224_54 := eh16.2 (224) 54 (by omega)
          have th16_224_55 := eh16.2 (224) 55 (by omega)
          have th16_224_56 := eh16.2 (224) 56 (by omega)
          have th16_224_57 := eh16.2 (224) 57 (by omega)
          have e5 : h16 235 (v6).toNat = h0 235 (6 * h0 224 52 + y2).toNat := by rw [ev4]; exact Ih16.2 235 _ rfl
          have e6 : h16 236 (v6).toNat = h0 236 (6 * h0 224 52 + y2).toNat := by rw [ev4]; exact Ih16.2 236 _ rfl
          have e7 : h16 237 (v6).toNat = h0 237 (6 * h0 224 52 + y2).toNat := by rw [ev4]; exact Ih16.2 237 _ rfl
          refine sx_aload_n dX12_lookPlain_179 rfl ?_
          refine sx_aload_n dX12_lookPlain_180 rfl ?_
          refine sx_getS (k := 19) (t := 235) cl_12 fl_X12_45 dX12_lookPlain_181 s_224 (by decide) rfl (by decide) ?_
          refine sx_iload_n dX12_lookPlain_184 rfl ?_
          refine sx_iaload dX12_lookPlain_185 s_235 (by decide) (by decide) ⟨by first | omega | (rw [ev4]; omega), by first | omega | (rw [ev4]; omega)⟩ ?_
          refine sx_callVv lk_X12_431 cl_12 s_224 (by decide) dX12_lookPlain_186 (vs := [_]) rfl rfl (Nat.le_of_ble_eq_true rfl) (Nat.le_of_ble_eq_true rfl) rfl (c_X12_take _ Ih16.1 _ (by omega)) (fun h17 ph17 => ?_)
          obtain ⟨Kh17, t_h17⟩ := ph17
          have Ih17 := Ih16.tr Kh17 (prW_sub rfl rfl)
          have th17_224_51 := Kh17.2 224 51 rfl
          have th17_224_52 := Kh17.2 224 52 rfl
          have th17_224_54 := Kh17.2 224 54 rfl
          have th17_224_55 := Kh17.2 224 55 rfl
          have th17_224_57 := Kh17.2 224 57 rfl
          have e5 : h17 235 (v6).toNat = h0 235 (6 * h0 224 52 + y2).toNat := by rw [ev4]; exact Ih17.2 235 _ rfl
          have e6 : h17 236 (v6).toNat = h0 236 (6 * h0 224 52 + y2).toNat := by rw [ev4]; exact Ih17.2 236 _ rfl
          have e7 : h17 237 (v6).toNat = h0 237 (6 * h0 224 52 + y2).toNat := by rw [ev4]; exact Ih17.2 237 _ rfl
          refine sx_aload_n dX12_lookPlain_189 rfl ?_
          refine sx_aload_n dX12_lookPlain_190 rfl ?_
          refine sx_getS (k := 19) (t := 235) cl_12 fl_X12_45 dX12_lookPlain_191 s_224 (by decide) rfl (by decide) ?_
          refine sx_iload_n dX12_lookPlain_194 rfl ?_
          refine sx_iaload dX12_lookPlain_195 s_235 (by decide) (by decide) ⟨by first | omega | (rw [ev4]; omega), by first | omega | (rw [ev4]; omega)⟩ ?_
          refine sx_aload_n dX12_lookPlain_196 rfl ?_
          refine sx_getS (k := 20) (t := 236) cl_12 fl_X12_48 dX12_lookPlain_197 s_224 (by decide) rfl (by decide) ?_
          refine sx_iload_n dX12_lookPlain_200 rfl ?_
          refine sx_iaload dX12_lookPlain_201 s_236 (by decide) (by decide) ⟨by first | omega | (rw [ev4]; omega), by first | omega | (rw [ev4]; omega)⟩ ?_
          refine sx_iadd dX12_lookPlain_202 ?_
          refine sy_topw (by first | omega | (rw [ev4]; omega)) ?_
          refine sx_callVv lk_X12_449 cl_12 s_224 (by decide) dX12_lookPlain_203 (vs := [_]) rfl rfl (Nat.le_of_ble_eq_true rfl) (Nat.le_of_ble_eq_true rfl) rfl (c_X12_rise _ Ih17.1 _ (by omega)) (fun h19 ph19 => ?_)
          obtain ⟨Kh19, t_h19⟩ := ph19
          have Ih19 := Ih17.tr Kh19 (prW_sub rfl rfl)
          have th19_224_51 := Kh19.2 224 51 rfl
          have th19_224_52 := Kh19.2 224 52 rfl
          have th19_224_54 := Kh19.2 224 54 rfl
          have th19_224_55 := Kh19.2 224 55 rfl
          have th19_224_56 := Kh19.2 224 56 rfl
          refine sx_aload_n dX12_lookPlain_206 rfl ?_
          refine sx_callVi lk_X12_440 cl_12 s_224 (by decide) dX12_lookPlain_207 (vs := []) rfl rfl (Nat.le_of_ble_eq_true rfl) (Nat.le_of_ble_eq_true rfl) rfl (c_X12_tooFar _ Ih19.1) (fun x22 h21 ph21 => ?_)
          obtain ⟨rfl, p_x22⟩ := ph21
          refine sx_ireturn dX12_lookPlain_210 ?_
          exact ⟨_, rfl, ⟨Ih19, by omega, by omega⟩⟩
      ·
        exact absurd c4 (by decide)
    ·
      exact absurd c3 (by decide)
  ·
    exact absurd c1 (by decide)
set_option maxRecDepth 20000 in
set_option maxHeartbeats 4000000 in
theorem c_X12_close_5 {G : sw_G} (d : Nat) {h0 : sw_H} (hJ : mI h0) (b : Nat) (y2 : Int) (hb : 1 ≤ h0 224 55 ∧ -6 ≤ h0 224 53 ∧ h0 224 53 ≤ 12 ∧ 0 ≤ h0 224 54 ∧ h0 224 54 ≤ 6 ∧ 0 ≤ h0 224 55 ∧ h0 224 55 ≤ 4 ∧ 0 ≤ h0 224 56 ∧ h0 224 56 ≤ 6 ∧ 0 ≤ h0 224 57 ∧ h0 224 57 ≤ 12) (hy : b ≤ 1 ∧ 60 * (1 - (b : Int)) ≤ y2 ∧ y2 < 60 * (1 - (b : Int)) + 60) (ho : 60 * (1 - (b : Int)) ≤ h0 253 (h0 224 55).toNat ∧ h0 253 (h0 224 55).toNat < 60 * (1 - (b : Int)) + 60 ∧ h0 253 (h0 224 55).toNat ≠ y2)  : sw_E G NH SH (d + 1) mX12_close 0 [some (sw_r 224), some (sw_i 5), some (sw_i y2), none, none, none, none, none, none, none] [] h0 (sw_Qi (fun z h' => mK (prB b [55] [243, 259]) h0 h' ∧ ((z = 0 ∨ z = 6 ∨ z = 7) ∧ h' 224 55 = h0 224 55 - 1 ∧ (z = 0 → h0 224 56 ≤ 6 ∧ h0 224 57 ≤ 12 ∧ h0 224 54 ≤ 6)) ∧ (z = 0 → (h0 252 (h0 224 55).toNat = 4 → h0 224 53 = h0 256 (h0 224 55).toNat ∧ h0 224 54 = h0 257 (h0 224 55).toNat) ∧ (h0 252 (h0 224 55).toNat ≠ 4 → h0 224 53 = h0 254 (h0 224 55).toNat ∧ h0 224 54 = h0 255 (h0 224 55).toNat)) ∧ (∀ k : Nat, h' 243 k = if (k : Int) = y2 then h0 253 (h0 224 55).toNat else if (k : Int) = h0 253 (h0 224 55).toNat then y2 else h0 243 k))) := by
  have hI : mK (prB b [55] [243, 259]) h0 h0 := mK.refl hJ
  have bb : (b : Int) ≤ 1 ∧ 0 ≤ (b : Int) := by omega
  refine sx_aload_n dX12_close_0 rfl ?_
  refine sx_getS (k := 42) (t := 252) cl_12 fl_X12_97 dX12_close_1 s_224 (by decide) rfl (by decide) ?_
  refine sx_aload_n dX12_close_4 rfl ?_
  refine sx_getI (k := 55) cl_12 fl_X12_397 dX12_close_5 s_224 (by decide) rfl (by decide) ?_
  refine sx_iaload dX12_close_8 s_252 (by decide) (by decide) ⟨by omega, by omega⟩ ?_
  refine sx_iconst dX12_close_9 ⟨by decide, by decide⟩ ?_
  refine sx_icmp_ne (tgt := 17) dX12_close_10 (by decide) (fun c1 => ?_) (fun c1 => ?_)
  ·
    refine sx_iconst dX12_close_17 ⟨by decide, by decide⟩ ?_
    refine sx_istore_n dX12_close_18 (by decide) ?_
    refine sx_iload_n dX12_close_19 rfl ?_
    refine sx_if_eq (tgt := 35) dX12_close_20 (by decide) (fun c2 => ?_) (fun c2 => ?_)
    ·
      refine sx_aload_n dX12_close_35 rfl ?_
      refine sx_getS (k := 44) (t := 254) cl_12 fl_X12_103 dX12_close_36 s_224 (by decide) rfl (by decide) ?_
      refine sx_aload_n dX12_close_39 rfl ?_
      refine sx_getI (k := 55) cl_12 fl_X12_397 dX12_close_40 s_224 (by decide) rfl (by decide) ?_
      refine sx_iaload dX12_close_43 s_254 (by decide) (by decide) ⟨by omega, by omega⟩ ?_
      refine sy_top (fun v3 ev3 => ?_)
      refine sx_istore dX12_close_44 (by decide) ?_
      refine sx_iload_n dX12_close_46 rfl ?_
      refine sx_if_eq (tgt := 62) dX12_close_47 (by decide) (fun c4 => ?_) (fun c4 => ?_)
      ·
        refine sx_aload_n dX12_close_62 rfl ?_
        refine sx_getS (k := 45) (t := 255) cl_12 fl_X12_106 dX12_close_63 s_224 (by decide) rfl (by decide) ?_
        refine sx_aload_n dX12_close_66 rfl ?_
        refine sx_getI (k := 55) cl_12 fl_X12_397 dX12_close_67 s_224 (by decide) rfl (by decide) ?_
        refine sx_iaload dX12_close_70 s_255 (by decide) (by decide) ⟨by omega, by omega⟩ ?_
        refine sy_top (fun v5 ev5 => ?_)
        refine sx_istore dX12_close_71 (by decide) ?_
        refine sx_iload_n dX12_close_73 rfl ?_
        refine sx_if_eq (tgt := 89) dX12_close_74 (by decide) (fun c6 => ?_) (fun c6 => ?_)
        ·
          refine sx_iconst dX12_close_89 ⟨by decide, by decide⟩ ?_
          refine sx_istore dX12_close_90 (by decide) ?_
          refine sx_aload_n dX12_close_92 rfl ?_
          refine sx_getS (k := 49) (t := 259) cl_12 fl_X12_118 dX12_close_93 s_224 (by decide) rfl (by decide) ?_
          refine sx_aload_n dX12_close_96 rfl ?_
          refine sx_getI (k := 55) cl_12 fl_X12_397 dX12_close_97 s_224 (by decide) rfl (by decide) ?_
          refine sx_iaload dX12_close_100 s_259 (by decide) (by decide) ⟨by omega, by omega⟩ ?_
          refine sy_top (fun v7 ev7 => ?_)
          refine sx_istore dX12_close_101 (by decide) ?_
          refine sx_aload_n dX12_close_103 rfl ?_
          refine sx_getS (k := 27) (t := 243) cl_12 fl_X12_69 dX12_close_104 s_224 (by decide) rfl (by decide) ?_
          refine sx_aload_n dX12_close_107 rfl ?_
          refine sx_getS (k := 43) (t := 253) cl_12 fl_X12_100 dX12_close_108 s_224 (by decide) rfl (by decide) ?_
          refine sx_aload_n dX12_close_111 rfl ?_
          refine sx_getI (k := 55) cl_12 fl_X12_397 dX12_close_112 s_224 (by decide) rfl (by decide) ?_
          refine sy_iaF (F := fun z => (0 : Int) ≤ z ∧ z ≤ 119) dX12_close_115 s_253 (by decide) (by decide) ⟨by omega, by omega⟩ (hI.1 253 _) (fun r8 => ?_)
          refine sx_iload_n dX12_close_116 rfl ?_
          refine sy_iastore dX12_close_117 s_243 (by decide) (by decide) ⟨by omega, by omega⟩ (fun h9 eh9 => ?_)
          have Ih9 := hI.up eh9 (show (-1 : Int) ≤ _ ∧ _ ≤ (119 : Int) from ⟨by omega, by omega⟩) (decide_eq_false (show ¬ (60 * b ≤ _ ∧ _ < 60 * b + 60) by omega))
          have th9_224_51 := eh9.2 (224) 51 (by omega)
          have th9_224_52 := eh9.2 (224) 52 (by omega)
          have th9_224_53 := eh9.2 (224) 53 (by omega)
          have th9_224_54 := eh9.2 (224) 54 (by omega)
          have th9_224_55 := eh9.2 (224) 55 (by omega)
          have th9_224_56 := eh9.2 (224) 56 (by omega)
          have th9_224_57 := eh9.2 (224) 57 (by omega)
          refine sx_aload_n dX12_close_118 rfl ?_
          refine sx_getS (k := 27) (t := 243) cl_12 fl_X12_69 dX12_close_119 s_224 (by decide) rfl (by decide) ?_
          refine sx_iload_n dX12_close_122 rfl ?_
          refine sx_aload_n dX12_close_123 rfl ?_
          refine sx_getS (k := 43) (t := 253) cl_12 fl_X12_100 dX12_close_124 s_224 (by decide) rfl (by decide) ?_
          refine sx_aload_n dX12_close_127 rfl ?_
          refine sx_getI (k := 55) cl_12 fl_X12_397 dX12_close_128 s_224 (by decide) rfl (by decide) ?_
          refine sy_iaF (F := fun z => (0 : Int) ≤ z ∧ z ≤ 119) dX12_close_131 s_253 (by decide) (by decide) ⟨by omega, by omega⟩ (Ih9.1 253 _) (fun r10 => ?_)
          have eo : h9 253 (h9 224 55).toNat = h0 253 (h0 224 55).toNat := by rw [show (h9 224 55).toNat = (h0 224 55).toNat by omega]; all_goals rw [eh9.2 253 _ (by omega)]
          refine sy_iastore dX12_close_132 s_243 (by decide) (by decide) ⟨by omega, by omega⟩ (fun h11 eh11 => ?_)
          have Ih11 := Ih9.up eh11 (show (-1 : Int) ≤ _ ∧ _ ≤ (119 : Int) from ⟨by omega, by omega⟩) (decide_eq_false (show ¬ (60 * b ≤ _ ∧ _ < 60 * b + 60) by omega))
          have th11_224_51 := eh11.2 (224) 51 (by omega)
          have th11_224_52 := eh11.2 (224) 52 (by omega)
          have th11_224_53 := eh11.2 (224) 53 (by omega)
          have th11_224_54 := eh11.2 (224) 54 (by omega)
          have th11_224_55 := eh11.2 (224) 55 (by omega)
          have th11_224_56 := eh11.2 (224) 56 (by omega)
          have th11_224_57 := eh11.2 (224) 57 (by omega)
          refine sx_aload_n dX12_close_133 rfl ?_
          refine sx_getI (k := 53) cl_12 fl_X12_406 dX12_close_134 s_224 (by decide) rfl (by decide) ?_
          refine sx_iload dX12_close_137 rfl ?_
          refine sx_icmp_ne (tgt := 155) dX12_close_139 (by decide) (fun c12 => ?_) (fun c12 => ?_)
          ·
            refine sx_iconst dX12_close_155 ⟨by decide, by decide⟩ ?_
            refine sx_istore dX12_close_156 (by decide) ?_
            refine sx_iload_n dX12_close_158 rfl ?_
            refine sx_bipush dX12_close_159 ⟨by decide, by decide, by decide⟩ ?_
            refine sx_icmp_ne (tgt := 181) dX12_close_161 (by decide) (fun c13 => ?_) (fun c13 => ?_)
            ·
              refine sx_iload dX12_close_181 rfl ?_
              refine sx_iload dX12_close_183 rfl ?_
              refine sx_icmp_le (tgt := 193) dX12_close_185 (by decide) (fun c14 => ?_) (fun c14 => ?_)
              ·
                refine sx_iload dX12_close_193 rfl ?_
                refine sx_istore dX12_close_195 (by decide) ?_
                refine sx_aload_n dX12_close_197 rfl ?_
                refine sx_dupr dX12_close_198 ?_
                refine sx_getI (k := 55) cl_12 fl_X12_397 dX12_close_199 s_224 (by decide) rfl (by decide) ?_
                refine sx_iconst dX12_close_202 ⟨by decide, by decide⟩ ?_
                refine sx_isub dX12_close_203 ?_
                refine sy_topw (by omega) ?_
                refine sy_putI (k := 55) cl_12 fl_X12_397 dX12_close_204 s_224 (by decide) rfl (by decide) rfl rfl (fun h15 eh15 => ?_)
                have Ih15 := Ih11.up eh15 trivial rfl
                have th15_224_51 := eh15.2 (224) 51 (by decide)
                have th15_224_52 := eh15.2 (224) 52 (by decide)
                have th15_224_53 := eh15.2 (224) 53 (by decide)
                have th15_224_54 := eh15.2 (224) 54 (by decide)
                have th15_224_55 := eh15.1
                have th15_224_56 := eh15.2 (224) 56 (by decide)
                have th15_224_57 := eh15.2 (224) 57 (by decide)
                refine sx_aload_n dX12_close_207 rfl ?_
                refine sx_getS (k := 49) (t := 259) cl_12 fl_X12_118 dX12_close_208 s_224 (by decide) rfl (by decide) ?_
                refine sx_aload_n dX12_close_211 rfl ?_
                refine sx_getI (k := 55) cl_12 fl_X12_397 dX12_close_212 s_224 (by decide) rfl (by decide) ?_
                refine sx_dup2 dX12_close_215 ?_
                refine sx_iaload dX12_close_216 s_259 (by decide) (by decide) ⟨by omega, by omega⟩ ?_
                refine sx_iload dX12_close_217 rfl ?_
                refine sx_iadd dX12_close_219 ?_
                refine sy_iastore dX12_close_220 s_259 (by decide) (by decide) ⟨by omega, by omega⟩ (fun h16 eh16 => ?_)
                have Ih16 := Ih15.up eh16 trivial rfl
                have th16_224_51 := eh16.2 (224) 51 (by omega)
                have th16_224_52 := eh16.2 (224) 52 (by omega)
                have th16_224_53 := eh16.2 (224) 53 (by omega)
                have th16_224_54 := eh16.2 (224) 54 (by omega)
                have th16_224_55 := eh16.2 (224) 55 (by omega)
                have th16_224_56 := eh16.2 (224) 56 (by omega)
                have th16_224_57 := eh16.2 (224) 57 (by omega)
                refine sx_iload dX12_close_221 rfl ?_
                refine sx_if_eq (tgt := 233) dX12_close_223 (by decide) (fun c17 => ?_) (fun c17 => ?_)
                ·
                  refine sx_bipush dX12_close_233 ⟨by decide, by decide, by decide⟩ ?_
                  refine sx_ireturn dX12_close_235 ?_
                  exact ⟨_, rfl, ⟨Ih16, by omega, by omega, fun k => by rw [eh16.2 243 k (by omega), eh15.2 243 k (by omega), eh11.at 243 k, eh9.at 243 k]; simp only [Nat.reduceEqDiff, false_and, if_false, true_and]; rw [eo]; by_cases q1 : (k : Int) = y2; (rw [if_pos (by omega), if_pos q1]); (rw [if_neg (by omega), if_neg q1]; by_cases q2 : (k : Int) = h0 253 (h0 224 55).toNat; (rw [if_pos (by omega), if_pos q2]); (rw [if_neg (by omega), if_neg q2]))⟩⟩
                ·
                  exact absurd c17 (by decide)
              ·
                refine sx_iload dX12_close_188 rfl ?_
                refine sx_goto (tgt := 195) dX12_close_190 (by decide) ?_
                refine sx_istore dX12_close_195 (by decide) ?_
                refine sx_aload_n dX12_close_197 rfl ?_
                refine sx_dupr dX12_close_198 ?_
                refine sx_getI (k := 55) cl_12 fl_X12_397 dX12_close_199 s_224 (by decide) rfl (by decide) ?_
                refine sx_iconst dX12_close_202 ⟨by decide, by decide⟩ ?_
                refine sx_isub dX12_close_203 ?_
                refine sy_topw (by omega) ?_
                refine sy_putI (k := 55) cl_12 fl_X12_397 dX12_close_204 s_224 (by decide) rfl (by decide) rfl rfl (fun h18 eh18 => ?_)
                have Ih18 := Ih11.up eh18 trivial rfl
                have th18_224_51 := eh18.2 (224) 51 (by decide)
                have th18_224_52 := eh18.2 (224) 52 (by decide)
                have th18_224_53 := eh18.2 (224) 53 (by decide)
                have th18_224_54 := eh18.2 (224) 54 (by decide)
                have th18_224_55 := eh18.1
                have th18_224_56 := eh18.2 (224) 56 (by decide)
                have th18_224_57 := eh18.2 (224) 57 (by decide)
                refine sx_aload_n dX12_close_207 rfl ?_
                refine sx_getS (k := 49) (t := 259) cl_12 fl_X12_118 dX12_close_208 s_224 (by decide) rfl (by decide) ?_
                refine sx_aload_n dX12_close_211 rfl ?_
                refine sx_getI (k := 55) cl_12 fl_X12_397 dX12_close_212 s_224 (by decide) rfl (by decide) ?_
                refine sx_dup2 dX12_close_215 ?_
                refine sx_iaload dX12_close_216 s_259 (by decide) (by decide) ⟨by omega, by omega⟩ ?_
                refine sx_iload dX12_close_217 rfl ?_
                refine sx_iadd dX12_close_219 ?_
                refine sy_iastore dX12_close_220 s_259 (by decide) (by decide) ⟨by omega, by omega⟩ (fun h19 eh19 => ?_)
                have Ih19 := Ih18.up eh19 trivial rfl
                have th19_224_51 := eh19.2 (224) 51 (by omega)
                have th19_224_52 := eh19.2 (224) 52 (by omega)
                have th19_224_53 := eh19.2 (224) 53 (by omega)
                have th19_224_54 := eh19.2 (224) 54 (by omega)
                have th19_224_55 := eh19.2 (224) 55 (by omega)
                have th19_224_56 := eh19.2 (224) 56 (by omega)
                have th19_224_57 := eh19.2 (224) 57 (by omega)
                refine sx_iload dX12_close_221 rfl ?_
                refine sx_if_eq (tgt := 233) dX12_close_223 (by decide) (fun c20 => ?_) (fun c20 => ?_)
                ·
                  refine sx_bipush dX12_close_233 ⟨by decide, by decide, by decide⟩ ?_
                  refine sx_ireturn dX12_close_235 ?_
                  exact ⟨_, rfl, ⟨Ih19, by omega, by omega, fun k => by rw [eh19.2 243 k (by omega), eh18.2 243 k (by omega), eh11.at 243 k, eh9.at 243 k]; simp only [Nat.reduceEqDiff, false_and, if_false, true_and]; rw [eo]; by_cases q1 : (k : Int) = y2; (rw [if_pos (by omega), if_pos q1]); (rw [if_neg (by omega), if_neg q1]; by_cases q2 : (k : Int) = h0 253 (h0 224 55).toNat; (rw [if_pos (by omega), if_pos q2]); (rw [if_neg (by omega), if_neg q2]))⟩⟩
                ·
                  exact absurd c20 (by decide)
            ·
              exact absurd c13 (by decide)
          ·
            refine sx_aload_n dX12_close_142 rfl ?_
            refine sx_getI (k := 54) cl_12 fl_X12_400 dX12_close_143 s_224 (by decide) rfl (by decide) ?_
            refine sx_iload dX12_close_146 rfl ?_
            refine sx_icmp_ne (tgt := 155) dX12_close_148 (by decide) (fun c21 => ?_) (fun c21 => ?_)
            ·
              refine sx_iconst dX12_close_155 ⟨by decide, by decide⟩ ?_
              refine sx_istore dX12_close_156 (by decide) ?_
              refine sx_iload_n dX12_close_158 rfl ?_
              refine sx_bipush dX12_close_159 ⟨by decide, by decide, by decide⟩ ?_
              refine sx_icmp_ne (tgt := 181) dX12_close_161 (by decide) (fun c22 => ?_) (fun c22 => ?_)
              ·
                refine sx_iload dX12_close_181 rfl ?_
                refine sx_iload dX12_close_183 rfl ?_
                refine sx_icmp_le (tgt := 193) dX12_close_185 (by decide) (fun c23 => ?_) (fun c23 => ?_)
                ·
                  refine sx_iload dX12_close_193 rfl ?_
                  refine sx_istore dX12_close_195 (by decide) ?_
                  refine sx_aload_n dX12_close_197 rfl ?_
                  refine sx_dupr dX12_close_198 ?_
                  refine sx_getI (k := 55) cl_12 fl_X12_397 dX12_close_199 s_224 (by decide) rfl (by decide) ?_
                  refine sx_iconst dX12_close_202 ⟨by decide, by decide⟩ ?_
                  refine sx_isub dX12_close_203 ?_
                  refine sy_topw (by omega) ?_
                  refine sy_putI (k := 55) cl_12 fl_X12_397 dX12_close_204 s_224 (by decide) rfl (by decide) rfl rfl (fun h24 eh24 => ?_)
                  have Ih24 := Ih11.up eh24 trivial rfl
                  have th24_224_51 := eh24.2 (224) 51 (by decide)
                  have th24_224_52 := eh24.2 (224) 52 (by decide)
                  have th24_224_53 := eh24.2 (224) 53 (by decide)
                  have th24_224_54 := eh24.2 (224) 54 (by decide)
                  have th24_224_55 := eh24.1
                  have th24_224_56 := eh24.2 (224) 56 (by decide)
                  have th24_224_57 := eh24.2 (224) 57 (by decide)
                  refine sx_aload_n dX12_close_207 rfl ?_
                  refine sx_getS (k := 49) (t := 259) cl_12 fl_X12_118 dX12_close_208 s_224 (by decide) rfl (by decide) ?_
                  refine sx_aload_n dX12_close_211 rfl ?_
                  refine sx_getI (k := 55) cl_12 fl_X12_397 dX12_close_212 s_224 (by decide) rfl (by decide) ?_
                  refine sx_dup2 dX12_close_215 ?_
                  refine sx_iaload dX12_close_216 s_259 (by decide) (by decide) ⟨by omega, by omega⟩ ?_
                  refine sx_iload dX12_close_217 rfl ?_
                  refine sx_iadd dX12_close_219 ?_
                  refine sy_iastore dX12_close_220 s_259 (by decide) (by decide) ⟨by omega, by omega⟩ (fun h25 eh25 => ?_)
                  have Ih25 := Ih24.up eh25 trivial rfl
                  have th25_224_51 := eh25.2 (224) 51 (by omega)
                  have th25_224_52 := eh25.2 (224) 52 (by omega)
                  have th25_224_53 := eh25.2 (224) 53 (by omega)
                  have th25_224_54 := eh25.2 (224) 54 (by omega)
                  have th25_224_55 := eh25.2 (224) 55 (by omega)
                  have th25_224_56 := eh25.2 (224) 56 (by omega)
                  have th25_224_57 := eh25.2 (224) 57 (by omega)
                  refine sx_iload dX12_close_221 rfl ?_
                  refine sx_if_eq (tgt := 233) dX12_close_223 (by decide) (fun c26 => ?_) (fun c26 => ?_)
                  ·
                    refine sx_bipush dX12_close_233 ⟨by decide, by decide, by decide⟩ ?_
                    refine sx_ireturn dX12_close_235 ?_
                    exact ⟨_, rfl, ⟨Ih25, by omega, by omega, fun k => by rw [eh25.2 243 k (by omega), eh24.2 243 k (by omega), eh11.at 243 k, eh9.at 243 k]; simp only [Nat.reduceEqDiff, false_and, if_false, true_and]; rw [eo]; by_cases q1 : (k : Int) = y2; (rw [if_pos (by omega), if_pos q1]); (rw [if_neg (by omega), if_neg q1]; by_cases q2 : (k : Int) = h0 253 (h0 224 55).toNat; (rw [if_pos (by omega), if_pos q2]); (rw [if_neg (by omega), if_neg q2]))⟩⟩
                  ·
                    exact absurd c26 (by decide)
                ·
                  refine sx_iload dX12_close_188 rfl ?_
                  refine sx_goto (tgt := 195) dX12_close_190 (by decide) ?_
                  refine sx_istore dX12_close_195 (by decide) ?_
                  refine sx_aload_n dX12_close_197 rfl ?_
                  refine sx_dupr dX12_close_198 ?_
                  refine sx_getI (k := 55) cl_12 fl_X12_397 dX12_close_199 s_224 (by decide) rfl (by decide) ?_
                  refine sx_iconst dX12_close_202 ⟨by decide, by decide⟩ ?_
                  refine sx_isub dX12_close_203 ?_
                  refine sy_topw (by omega) ?_
                  refine sy_putI (k := 55) cl_12 fl_X12_397 dX12_close_204 s_224 (by decide) rfl (by decide) rfl rfl (fun h27 eh27 => ?_)
                  have Ih27 := Ih11.up eh27 trivial rfl
                  have th27_224_51 := eh27.2 (224) 51 (by decide)
                  have th27_224_52 := eh27.2 (224) 52 (by decide)
                  have th27_224_53 := eh27.2 (224) 53 (by decide)
                  have th27_224_54 := eh27.2 (224) 54 (by decide)
                  have th27_224_55 := eh27.1
                  have th27_224_56 := eh27.2 (224) 56 (by decide)
                  have th27_224_57 := eh27.2 (224) 57 (by decide)
                  refine sx_aload_n dX12_close_207 rfl ?_
                  refine sx_getS (k := 49) (t := 259) cl_12 fl_X12_118 dX12_close_208 s_224 (by decide) rfl (by decide) ?_
                  refine sx_aload_n dX12_close_211 rfl ?_
                  refine sx_getI (k := 55) cl_12 fl_X12_397 dX12_close_212 s_224 (by decide) rfl (by decide) ?_
                  refine sx_dup2 dX12_close_215 ?_
                  refine sx_iaload dX12_close_216 s_259 (by decide) (by decide) ⟨by omega, by omega⟩ ?_
                  refine sx_iload dX12_close_217 rfl ?_
                  refine sx_iadd dX12_close_219 ?_
                  refine sy_iastore dX12_close_220 s_259 (by decide) (by decide) ⟨by omega, by omega⟩ (fun h28 eh28 => ?_)
                  have Ih28 := Ih27.up eh28 trivial rfl
                  have th28_224_51 := eh28.2 (224) 51 (by omega)
                  have th28_224_52 := eh28.2 (224) 52 (by omega)
                  have th28_224_53 := eh28.2 (224) 53 (by omega)
                  have th28_224_54 := eh28.2 (224) 54 (by omega)
                  have th28_224_55 := eh28.2 (224) 55 (by omega)
                  have th28_224_56 := eh28.2 (224) 56 (by omega)
                  have th28_224_57 := eh28.2 (224) 57 (by omega)
                  refine sx_iload dX12_close_221 rfl ?_
                  refine sx_if_eq (tgt := 233) dX12_close_223 (by decide) (fun c29 => ?_) (fun c29 => ?_)
                  ·
                    refine sx_bipush dX12_close_233 ⟨by decide, by decide, by decide⟩ ?_
                    refine sx_ireturn dX12_close_235 ?_
                    exact ⟨_, rfl, ⟨Ih28, by omega, by omega, fun k => by rw [eh28.2 243 k (by omega), eh27.2 243 k (by omega), eh11.at 243 k, eh9.at 243 k]; simp only [Nat.reduceEqDiff, false_and, if_false, true_and]; rw [eo]; by_cases q1 : (k : Int) = y2; (rw [if_pos (by omega), if_pos q1]); (rw [if_neg (by omega), if_neg q1]; by_cases q2 : (k : Int) = h0 253 (h0 224 55).toNat; (rw [if_pos (by omega), if_pos q2]); (rw [if_neg (by omega), if_neg q2]))⟩⟩
                  ·
                    exact absurd c29 (by decide)
              ·
                exact absurd c22 (by decide)
            ·
              refine sx_iconst dX12_close_151 ⟨by decide, by decide⟩ ?_
              refine sx_goto (tgt := 156) dX12_close_152 (by decide) ?_
              refine sx_istore dX12_close_156 (by decide) ?_
              refine sx_iload_n dX12_close_158 rfl ?_
              refine sx_bipush dX12_close_159 ⟨by decide, by decide, by decide⟩ ?_
              refine sx_icmp_ne (tgt := 181) dX12_close_161 (by decide) (fun c30 => ?_) (fun c30 => ?_)
              ·
                refine sx_iload dX12_close_181 rfl ?_
                refine sx_iload dX12_close_183 rfl ?_
                refine sx_icmp_le (tgt := 193) dX12_close_185 (by decide) (fun c31 => ?_) (fun c31 => ?_)
                ·
                  refine sx_iload dX12_close_193 rfl ?_
                  refine sx_istore dX12_close_195 (by decide) ?_
                  refine sx_aload_n dX12_close_197 rfl ?_
                  refine sx_dupr dX12_close_198 ?_
                  refine sx_getI (k := 55) cl_12 fl_X12_397 dX12_close_199 s_224 (by decide) rfl (by decide) ?_
                  refine sx_iconst dX12_close_202 ⟨by decide, by decide⟩ ?_
                  refine sx_isub dX12_close_203 ?_
                  refine sy_topw (by omega) ?_
                  refine sy_putI (k := 55) cl_12 fl_X12_397 dX12_close_204 s_224 (by decide) rfl (by decide) rfl rfl (fun h32 eh32 => ?_)
                  have Ih32 := Ih11.up eh32 trivial rfl
                  have th32_224_51 := eh32.2 (224) 51 (by decide)
                  have th32_224_52 := eh32.2 (224) 52 (by decide)
                  have th32_224_53 := eh32.2 (224) 53 (by decide)
                  have th32_224_54 := eh32.2 (224) 54 (by decide)
                  have th32_224_55 := eh32.1
                  have th32_224_56 := eh32.2 (224) 56 (by decide)
                  have th32_224_57 := eh32.2 (224) 57 (by decide)
                  refine sx_aload_n dX12_close_207 rfl ?_
                  refine sx_getS (k := 49) (t := 259) cl_12 fl_X12_118 dX12_close_208 s_224 (by decide) rfl (by decide) ?_
                  refine sx_aload_n dX12_close_211 rfl ?_
                  refine sx_getI (k := 55) cl_12 fl_X12_397 dX12_close_212 s_224 (by decide) rfl (by decide) ?_
                  refine sx_dup2 dX12_close_215 ?_
                  refine sx_iaload dX12_close_216 s_259 (by decide) (by decide) ⟨by omega, by omega⟩ ?_
                  refine sx_iload dX12_close_217 rfl ?_
                  refine sx_iadd dX12_close_219 ?_
                  refine sy_iastore dX12_close_220 s_259 (by decide) (by decide) ⟨by omega, by omega⟩ (fun h33 eh33 => ?_)
                  have Ih33 := Ih32.up eh33 trivial rfl
                  have th33_224_51 := eh33.2 (224) 51 (by omega)
                  have th33_224_52 := eh33.2 (224) 52 (by omega)
                  have th33_224_53 := eh33.2 (224) 53 (by omega)
                  have th33_224_54 := eh33.2 (224) 54 (by omega)
                  have th33_224_55 := eh33.2 (224) 55 (by omega)
                  have th33_224_56 := eh33.2 (224) 56 (by omega)
                  have th33_224_57 := eh33.2 (224) 57 (by omega)
                  refine sx_iload dX12_close_221 rfl ?_
                  refine sx_if_eq (tgt := 233) dX12_close_223 (by decide) (fun c34 => ?_) (fun c34 => ?_)
                  ·
                    exact absurd c34 (by decide)
                  ·
                    refine sx_aload_n dX12_close_226 rfl ?_
                    refine sx_callVi lk_X12_440 cl_12 s_224 (by decide) dX12_close_227 (vs := []) rfl rfl (Nat.le_of_ble_eq_true rfl) (Nat.le_of_ble_eq_true rfl) rfl (c_X12_tooFar _ Ih33.1) (fun x36 h35 ph35 => ?_)
                    obtain ⟨rfl, p_x36⟩ := ph35
                    refine sx_goto (tgt := 235) dX12_close_230 (by decide) ?_
                    refine sx_ireturn dX12_close_235 ?_
                    exact ⟨_, rfl, ⟨Ih33, by omega, by omega, fun k => by rw [eh33.2 243 k (by omega), eh32.2 243 k (by omega), eh11.at 243 k, eh9.at 243 k]; simp only [Nat.reduceEqDiff, false_and, if_false, true_and]; rw [eo]; by_cases q1 : (k : Int) = y2; (rw [if_pos (by omega), if_pos q1]); (rw [if_neg (by omega), if_neg q1]; by_cases q2 : (k : Int) = h0 253 (h0 224 55).toNat; (rw [if_pos (by omega), if_pos q2]); (rw [if_neg (by omega), if_neg q2]))⟩⟩
                ·
                  refine sx_iload dX12_close_188 rfl ?_
                  refine sx_goto (tgt := 195) dX12_close_190 (by decide) ?_
                  refine sx_istore dX12_close_195 (by decide) ?_
                  refine sx_aload_n dX12_close_197 rfl ?_
                  refine sx_dupr dX12_close_198 ?_
                  refine sx_getI (k := 55) cl_12 fl_X12_397 dX12_close_199 s_224 (by decide) rfl (by decide) ?_
                  refine sx_iconst dX12_close_202 ⟨by decide, by decide⟩ ?_
                  refine sx_isub dX12_close_203 ?_
                  refine sy_topw (by omega) ?_
                  refine sy_putI (k := 55) cl_12 fl_X12_397 dX12_close_204 s_224 (by decide) rfl (by decide) rfl rfl (fun h37 eh37 => ?_)
                  have Ih37 := Ih11.up eh37 trivial rfl
                  have th37_224_51 := eh37.2 (224) 51 (by decide)
                  have th37_224_52 := eh37.2 (224) 52 (by decide)
                  have th37_224_53 := eh37.2 (224) 53 (by decide)
                  have th37_224_54 := eh37.2 (224) 54 (by decide)
                  have th37_224_55 := eh37.1
                  have th37_224_56 := eh37.2 (224) 56 (by decide)
                  have th37_224_57 := eh37.2 (224) 57 (by decide)
                  refine sx_aload_n dX12_close_207 rfl ?_
                  refine sx_getS (k := 49) (t := 259) cl_12 fl_X12_118 dX12_close_208 s_224 (by decide) rfl (by decide) ?_
                  refine sx_aload_n dX12_close_211 rfl ?_
                  refine sx_getI (k := 55) cl_12 fl_X12_397 dX12_close_212 s_224 (by decide) rfl (by decide) ?_
                  refine sx_dup2 dX12_close_215 ?_
                  refine sx_iaload dX12_close_216 s_259 (by decide) (by decide) ⟨by omega, by omega⟩ ?_
                  refine sx_iload dX12_close_217 rfl ?_
                  refine sx_iadd dX12_close_219 ?_
                  refine sy_iastore dX12_close_220 s_259 (by decide) (by decide) ⟨by omega, by omega⟩ (fun h38 eh38 => ?_)
                  have Ih38 := Ih37.up eh38 trivial rfl
                  have th38_224_51 := eh38.2 (224) 51 (by omega)
                  have th38_224_52 := eh38.2 (224) 52 (by omega)
                  have th38_224_53 := eh38.2 (224) 53 (by omega)
                  have th38_224_54 := eh38.2 (224) 54 (by omega)
                  have th38_224_55 := eh38.2 (224) 55 (by omega)
                  have th38_224_56 := eh38.2 (224) 56 (by omega)
                  have th38_224_57 := eh38.2 (224) 57 (by omega)
                  refine sx_iload dX12_close_221 rfl ?_
                  refine sx_if_eq (tgt := 233) dX12_close_223 (by decide) (fun c39 => ?_) (fun c39 => ?_)
                  ·
                    exact absurd c39 (by decide)
                  ·
                    refine sx_aload_n dX12_close_226 rfl ?_
                    refine sx_callVi lk_X12_440 cl_12 s_224 (by decide) dX12_close_227 (vs := []) rfl rfl (Nat.le_of_ble_eq_true rfl) (Nat.le_of_ble_eq_true rfl) rfl (c_X12_tooFar _ Ih38.1) (fun x41 h40 ph40 => ?_)
                    obtain ⟨rfl, p_x41⟩ := ph40
                    refine sx_goto (tgt := 235) dX12_close_230 (by decide) ?_
                    refine sx_ireturn dX12_close_235 ?_
                    exact ⟨_, rfl, ⟨Ih38, by omega, by omega, fun k => by rw [eh38.2 243 k (by omega), eh37.2 243 k (by omega), eh11.at 243 k, eh9.at 243 k]; simp only [Nat.reduceEqDiff, false_and, if_false, true_and]; rw [eo]; by_cases q1 : (k : Int) = y2; (rw [if_pos (by omega), if_pos q1]); (rw [if_neg (by omega), if_neg q1]; by_cases q2 : (k : Int) = h0 253 (h0 224 55).toNat; (rw [if_pos (by omega), if_pos q2]); (rw [if_neg (by omega), if_neg q2]))⟩⟩
              ·
                exact absurd c30 (by decide)
        ·
          exact absurd c6 (by decide)
      ·
        exact absurd c4 (by decide)
    ·
      exact absurd c2 (by decide)
  ·
    refine sx_iconst dX12_close_13 ⟨by decide, by decide⟩ ?_
    refine sx_goto (tgt := 18) dX12_close_14 (by decide) ?_
    refine sx_istore_n dX12_close_18 (by decide) ?_
    refine sx_iload_n dX12_close_19 rfl ?_
    refine sx_if_eq (tgt := 35) dX12_close_20 (by decide) (fun c42 => ?_) (fun c42 => ?_)
    ·
      exact absurd c42 (by decide)
    ·
      refine sx_aload_n dX12_close_23 rfl ?_
      refine sx_getS (k := 46) (t := 256) cl_12 fl_X12_109 dX12_close_24 s_224 (by decide) rfl (by decide) ?_
      refine sx_aload_n dX12_close_27 rfl ?_
      refine sx_getI (k := 55) cl_12 fl_X12_397 dX12_close_28 s_224 (by decide) rfl (by decide) ?_
      refine sx_iaload dX12_close_31 s_256 (by decide) (by decide) ⟨by omega, by omega⟩ ?_
      refine sx_goto (tgt := 44) dX12_close_32 (by decide) ?_
      refine sy_top (fun v43 ev43 => ?_)
      refine sx_istore dX12_close_44 (by decide) ?_
      refine sx_iload_n dX12_close_46 rfl ?_
      refine sx_if_eq (tgt := 62) dX12_close_47 (by decide) (fun c44 => ?_) (fun c44 => ?_)
      ·
        exact absurd c44 (by decide)
      ·
        refine sx_aload_n dX12_close_50 rfl ?_
        refine sx_getS (k := 47) (t := 257) cl_12 fl_X12_112 dX12_close_51 s_224 (by decide) rfl (by decide) ?_
        refine sx_aload_n dX12_close_54 rfl ?_
        refine sx_getI (k := 55) cl_12 fl_X12_397 dX12_close_55 s_224 (by decide) rfl (by decide) ?_
        refine sx_iaload dX12_close_58 s_257 (by decide) (by decide) ⟨by omega, by omega⟩ ?_
        refine sx_goto (tgt := 71) dX12_close_59 (by decide) ?_
        refine sy_top (fun v45 ev45 => ?_)
        refine sx_istore dX12_close_71 (by decide) ?_
        refine sx_iload_n dX12_close_73 rfl ?_
        refine sx_if_eq (tgt := 89) dX12_close_74 (by decide) (fun c46 => ?_) (fun c46 => ?_)
        ·
          exact absurd c46 (by decide)
        ·
          refine sx_aload_n dX12_close_77 rfl ?_
          refine sx_getS (k := 48) (t := 258) cl_12 fl_X12_115 dX12_close_78 s_224 (by decide) rfl (by decide) ?_
          refine sx_aload_n dX12_close_81 rfl ?_
          refine sx_getI (k := 55) cl_12 fl_X12_397 dX12_close_82 s_224 (by decide) rfl (by decide) ?_
          refine sx_iaload dX12_close_85 s_258 (by decide) (by decide) ⟨by omega, by omega⟩ ?_
          refine sx_goto (tgt := 90) dX12_close_86 (by decide) ?_
          refine sy_top (fun v47 ev47 => ?_)
          refine sx_istore dX12_close_90 (by decide) ?_
          refine sx_aload_n dX12_close_92 rfl ?_
          refine sx_getS (k := 49) (t := 259) cl_12 fl_X12_118 dX12_close_93 s_224 (by decide) rfl (by decide) ?_
          refine sx_aload_n dX12_close_96 rfl ?_
          refine sx_getI (k := 55) cl_12 fl_X12_397 dX12_close_97 s_224 (by decide) rfl (by decide) ?_
          refine sx_iaload dX12_close_100 s_259 (by decide) (by decide) ⟨by omega, by omega⟩ ?_
          refine sy_top (fun v48 ev48 => ?_)
          refine sx_istore dX12_close_101 (by decide) ?_
          refine sx_aload_n dX12_close_103 rfl ?_
          refine sx_getS (k := 27) (t := 243) cl_12 fl_X12_69 dX12_close_104 s_224 (by decide) rfl (by decide) ?_
          refine sx_aload_n dX12_close_107 rfl ?_
          refine sx_getS (k := 43) (t := 253) cl_12 fl_X12_100 dX12_close_108 s_224 (by decide) rfl (by decide) ?_
          refine sx_aload_n dX12_close_111 rfl ?_
          refine sx_getI (k := 55) cl_12 fl_X12_397 dX12_close_112 s_224 (by decide) rfl (by decide) ?_
          refine sy_iaF (F := fun z => (0 : Int) ≤ z ∧ z ≤ 119) dX12_close_115 s_253 (by decide) (by decide) ⟨by omega, by omega⟩ (hI.1 253 _) (fun r49 => ?_)
          refine sx_iload_n dX12_close_116 rfl ?_
          refine sy_iastore dX12_close_117 s_243 (by decide) (by decide) ⟨by omega, by omega⟩ (fun h50 eh50 => ?_)
          have Ih50 := hI.up eh50 (show (-1 : Int) ≤ _ ∧ _ ≤ (119 : Int) from ⟨by omega, by omega⟩) (decide_eq_false (show ¬ (60 * b ≤ _ ∧ _ < 60 * b + 60) by omega))
          have th50_224_51 := eh50.2 (224) 51 (by omega)
          have th50_224_52 := eh50.2 (224) 52 (by omega)
          have th50_224_53 := eh50.2 (224) 53 (by omega)
          have th50_224_54 := eh50.2 (224) 54 (by omega)
          have th50_224_55 := eh50.2 (224) 55 (by omega)
          have th50_224_56 := eh50.2 (224) 56 (by omega)
          have th50_224_57 := eh50.2 (224) 57 (by omega)
          refine sx_aload_n dX12_close_118 rfl ?_
          refine sx_getS (k := 27) (t := 243) cl_12 fl_X12_69 dX12_close_119 s_224 (by decide) rfl (by decide) ?_
          refine sx_iload_n dX12_close_122 rfl ?_
          refine sx_aload_n dX12_close_123 rfl ?_
          refine sx_getS (k := 43) (t := 253) cl_12 fl_X12_100 dX12_close_124 s_224 (by decide) rfl (by decide) ?_
          refine sx_aload_n dX12_close_127 rfl ?_
          refine sx_getI (k := 55) cl_12 fl_X12_397 dX12_close_128 s_224 (by decide) rfl (by decide) ?_
          refine sy_iaF (F := fun z => (0 : Int) ≤ z ∧ z ≤ 119) dX12_close_131 s_253 (by decide) (by decide) ⟨by omega, by omega⟩ (Ih50.1 253 _) (fun r51 => ?_)
          have eo : h50 253 (h50 224 55).toNat = h0 253 (h0 224 55).toNat := by rw [show (h50 224 55).toNat = (h0 224 55).toNat by omega]; all_goals rw [eh50.2 253 _ (by omega)]
          refine sy_iastore dX12_close_132 s_243 (by decide) (by decide) ⟨by omega, by omega⟩ (fun h52 eh52 => ?_)
          have Ih52 := Ih50.up eh52 (show (-1 : Int) ≤ _ ∧ _ ≤ (119 : Int) from ⟨by omega, by omega⟩) (decide_eq_false (show ¬ (60 * b ≤ _ ∧ _ < 60 * b + 60) by omega))
          have th52_224_51 := eh52.2 (224) 51 (by omega)
          have th52_224_52 := eh52.2 (224) 52 (by omega)
          have th52_224_53 := eh52.2 (224) 53 (by omega)
          have th52_224_54 := eh52.2 (224) 54 (by omega)
          have th52_224_55 := eh52.2 (224) 55 (by omega)
          have th52_224_56 := eh52.2 (224) 56 (by omega)
          have th52_224_57 := eh52.2 (224) 57 (by omega)
          refine sx_aload_n dX12_close_133 rfl ?_
          refine sx_getI (k := 53) cl_12 fl_X12_406 dX12_close_134 s_224 (by decide) rfl (by decide) ?_
          refine sx_iload dX12_close_137 rfl ?_
          refine sx_icmp_ne (tgt := 155) dX12_close_139 (by decide) (fun c53 => ?_) (fun c53 => ?_)
          ·
            refine sx_iconst dX12_close_155 ⟨by decide, by decide⟩ ?_
            refine sx_istore dX12_close_156 (by decide) ?_
            refine sx_iload_n dX12_close_158 rfl ?_
            refine sx_bipush dX12_close_159 ⟨by decide, by decide, by decide⟩ ?_
            refine sx_icmp_ne (tgt := 181) dX12_close_161 (by decide) (fun c54 => ?_) (fun c54 => ?_)
            ·
              refine sx_iload dX12_close_181 rfl ?_
              refine sx_iload dX12_close_183 rfl ?_
              refine sx_icmp_le (tgt := 193) dX12_close_185 (by decide) (fun c55 => ?_) (fun c55 => ?_)
              ·
                refine sx_iload dX12_close_193 rfl ?_
                refine sx_istore dX12_close_195 (by decide) ?_
                refine sx_aload_n dX12_close_197 rfl ?_
                refine sx_dupr dX12_close_198 ?_
                refine sx_getI (k := 55) cl_12 fl_X12_397 dX12_close_199 s_224 (by decide) rfl (by decide) ?_
                refine sx_iconst dX12_close_202 ⟨by decide, by decide⟩ ?_
                refine sx_isub dX12_close_203 ?_
                refine sy_topw (by omega) ?_
                refine sy_putI (k := 55) cl_12 fl_X12_397 dX12_close_204 s_224 (by decide) rfl (by decide) rfl rfl (fun h56 eh56 => ?_)
                have Ih56 := Ih52.up eh56 trivial rfl
                have th56_224_51 := eh56.2 (224) 51 (by decide)
                have th56_224_52 := eh56.2 (224) 52 (by decide)
                have th56_224_53 := eh56.2 (224) 53 (by decide)
                have th56_224_54 := eh56.2 (224) 54 (by decide)
                have th56_224_55 := eh56.1
                have th56_224_56 := eh56.2 (224) 56 (by decide)
                have th56_224_57 := eh56.2 (224) 57 (by decide)
                refine sx_aload_n dX12_close_207 rfl ?_
                refine sx_getS (k := 49) (t := 259) cl_12 fl_X12_118 dX12_close_208 s_224 (by decide) rfl (by decide) ?_
                refine sx_aload_n dX12_close_211 rfl ?_
                refine sx_getI (k := 55) cl_12 fl_X12_397 dX12_close_212 s_224 (by decide) rfl (by decide) ?_
                refine sx_dup2 dX12_close_215 ?_
                refine sx_iaload dX12_close_216 s_259 (by decide) (by decide) ⟨by omega, by omega⟩ ?_
                refine sx_iload dX12_close_217 rfl ?_
                refine sx_iadd dX12_close_219 ?_
                refine sy_iastore dX12_close_220 s_259 (by decide) (by decide) ⟨by omega, by omega⟩ (fun h57 eh57 => ?_)
                have Ih57 := Ih56.up eh57 trivial rfl
                have th57_224_51 := eh57.2 (224) 51 (by omega)
                have th57_224_52 := eh57.2 (224) 52 (by omega)
                have th57_224_53 := eh57.2 (224) 53 (by omega)
                have th57_224_54 := eh57.2 (224) 54 (by omega)
                have th57_224_55 := eh57.2 (224) 55 (by omega)
                have th57_224_56 := eh57.2 (224) 56 (by omega)
                have th57_224_57 := eh57.2 (224) 57 (by omega)
                refine sx_iload dX12_close_221 rfl ?_
                refine sx_if_eq (tgt := 233) dX12_close_223 (by decide) (fun c58 => ?_) (fun c58 => ?_)
                ·
                  refine sx_bipush dX12_close_233 ⟨by decide, by decide, by decide⟩ ?_
                  refine sx_ireturn dX12_close_235 ?_
                  exact ⟨_, rfl, ⟨Ih57, by omega, by omega, fun k => by rw [eh57.2 243 k (by omega), eh56.2 243 k (by omega), eh52.at 243 k, eh50.at 243 k]; simp only [Nat.reduceEqDiff, false_and, if_false, true_and]; rw [eo]; by_cases q1 : (k : Int) = y2; (rw [if_pos (by omega), if_pos q1]); (rw [if_neg (by omega), if_neg q1]; by_cases q2 : (k : Int) = h0 253 (h0 224 55).toNat; (rw [if_pos (by omega), if_pos q2]); (rw [if_neg (by omega), if_neg q2]))⟩⟩
                ·
                  exact absurd c58 (by decide)
              ·
                refine sx_iload dX12_close_188 rfl ?_
                refine sx_goto (tgt := 195) dX12_close_190 (by decide) ?_
                refine sx_istore dX12_close_195 (by decide) ?_
                refine sx_aload_n dX12_close_197 rfl ?_
                refine sx_dupr dX12_close_198 ?_
                refine sx_getI (k := 55) cl_12 fl_X12_397 dX12_close_199 s_224 (by decide) rfl (by decide) ?_
                refine sx_iconst dX12_close_202 ⟨by decide, by decide⟩ ?_
                refine sx_isub dX12_close_203 ?_
                refine sy_topw (by omega) ?_
                refine sy_putI (k := 55) cl_12 fl_X12_397 dX12_close_204 s_224 (by decide) rfl (by decide) rfl rfl (fun h59 eh59 => ?_)
                have Ih59 := Ih52.up eh59 trivial rfl
                have th59_224_51 := eh59.2 (224) 51 (by decide)
                have th59_224_52 := eh59.2 (224) 52 (by decide)
                have th59_224_53 := eh59.2 (224) 53 (by decide)
                have th59_224_54 := eh59.2 (224) 54 (by decide)
                have th59_224_55 := eh59.1
                have th59_224_56 := eh59.2 (224) 56 (by decide)
                have th59_224_57 := eh59.2 (224) 57 (by decide)
                refine sx_aload_n dX12_close_207 rfl ?_
                refine sx_getS (k := 49) (t := 259) cl_12 fl_X12_118 dX12_close_208 s_224 (by decide) rfl (by decide) ?_
                refine sx_aload_n dX12_close_211 rfl ?_
                refine sx_getI (k := 55) cl_12 fl_X12_397 dX12_close_212 s_224 (by decide) rfl (by decide) ?_
                refine sx_dup2 dX12_close_215 ?_
                refine sx_iaload dX12_close_216 s_259 (by decide) (by decide) ⟨by omega, by omega⟩ ?_
                refine sx_iload dX12_close_217 rfl ?_
                refine sx_iadd dX12_close_219 ?_
                refine sy_iastore dX12_close_220 s_259 (by decide) (by decide) ⟨by omega, by omega⟩ (fun h60 eh60 => ?_)
                have Ih60 := Ih59.up eh60 trivial rfl
                have th60_224_51 := eh60.2 (224) 51 (by omega)
                have th60_224_52 := eh60.2 (224) 52 (by omega)
                have th60_224_53 := eh60.2 (224) 53 (by omega)
                have th60_224_54 := eh60.2 (224) 54 (by omega)
                have th60_224_55 := eh60.2 (224) 55 (by omega)
                have th60_224_56 := eh60.2 (224) 56 (by omega)
                have th60_224_57 := eh60.2 (224) 57 (by omega)
                refine sx_iload dX12_close_221 rfl ?_
                refine sx_if_eq (tgt := 233) dX12_close_223 (by decide) (fun c61 => ?_) (fun c61 => ?_)
                ·
                  refine sx_bipush dX12_close_233 ⟨by decide, by decide, by decide⟩ ?_
                  refine sx_ireturn dX12_close_235 ?_
                  exact ⟨_, rfl, ⟨Ih60, by omega, by omega, fun k => by rw [eh60.2 243 k (by omega), eh59.2 243 k (by omega), eh52.at 243 k, eh50.at 243 k]; simp only [Nat.reduceEqDiff, false_and, if_false, true_and]; rw [eo]; by_cases q1 : (k : Int) = y2; (rw [if_pos (by omega), if_pos q1]); (rw [if_neg (by omega), if_neg q1]; by_cases q2 : (k : Int) = h0 253 (h0 224 55).toNat; (rw [if_pos (by omega), if_pos q2]); (rw [if_neg (by omega), if_neg q2]))⟩⟩
                ·
                  exact absurd c61 (by decide)
            ·
              exact absurd c54 (by decide)
          ·
            refine sx_aload_n dX12_close_142 rfl ?_
            refine sx_getI (k := 54) cl_12 fl_X12_400 dX12_close_143 s_224 (by decide) rfl (by decide) ?_
            refine sx_iload dX12_close_146 rfl ?_
            refine sx_icmp_ne (tgt := 155) dX12_close_148 (by decide) (fun c62 => ?_) (fun c62 => ?_)
            ·
              refine sx_iconst dX12_close_155 ⟨by decide, by decide⟩ ?_
              refine sx_istore dX12_close_156 (by decide) ?_
              refine sx_iload_n dX12_close_158 rfl ?_
              refine sx_bipush dX12_close_159 ⟨by decide, by decide, by decide⟩ ?_
              refine sx_icmp_ne (tgt := 181) dX12_close_161 (by decide) (fun c63 => ?_) (fun c63 => ?_)
              ·
                refine sx_iload dX12_close_181 rfl ?_
                refine sx_iload dX12_close_183 rfl ?_
                refine sx_icmp_le (tgt := 193) dX12_close_185 (by decide) (fun c64 => ?_) (fun c64 => ?_)
                ·
                  refine sx_iload dX12_close_193 rfl ?_
                  refine sx_istore dX12_close_195 (by decide) ?_
                  refine sx_aload_n dX12_close_197 rfl ?_
                  refine sx_dupr dX12_close_198 ?_
                  refine sx_getI (k := 55) cl_12 fl_X12_397 dX12_close_199 s_224 (by decide) rfl (by decide) ?_
                  refine sx_iconst dX12_close_202 ⟨by decide, by decide⟩ ?_
                  refine sx_isub dX12_close_203 ?_
                  refine sy_topw (by omega) ?_
                  refine sy_putI (k := 55) cl_12 fl_X12_397 dX12_close_204 s_224 (by decide) rfl (by decide) rfl rfl (fun h65 eh65 => ?_)
                  have Ih65 := Ih52.up eh65 trivial rfl
                  have th65_224_51 := eh65.2 (224) 51 (by decide)
                  have th65_224_52 := eh65.2 (224) 52 (by decide)
                  have th65_224_53 := eh65.2 (224) 53 (by decide)
                  have th65_224_54 := eh65.2 (224) 54 (by decide)
                  have th65_224_55 := eh65.1
                  have th65_224_56 := eh65.2 (224) 56 (by decide)
                  have th65_224_57 := eh65.2 (224) 57 (by decide)
                  refine sx_aload_n dX12_close_207 rfl ?_
                  refine sx_getS (k := 49) (t := 259) cl_12 fl_X12_118 dX12_close_208 s_224 (by decide) rfl (by decide) ?_
                  refine sx_aload_n dX12_close_211 rfl ?_
                  refine sx_getI (k := 55) cl_12 fl_X12_397 dX12_close_212 s_224 (by decide) rfl (by decide) ?_
                  refine sx_dup2 dX12_close_215 ?_
                  refine sx_iaload dX12_close_216 s_259 (by decide) (by decide) ⟨by omega, by omega⟩ ?_
                  refine sx_iload dX12_close_217 rfl ?_
                  refine sx_iadd dX12_close_219 ?_
                  refine sy_iastore dX12_close_220 s_259 (by decide) (by decide) ⟨by omega, by omega⟩ (fun h66 eh66 => ?_)
                  have Ih66 := Ih65.up eh66 trivial rfl
                  have th66_224_51 := eh66.2 (224) 51 (by omega)
                  have th66_224_52 := eh66.2 (224) 52 (by omega)
                  have th66_224_53 := eh66.2 (224) 53 (by omega)
                  have th66_224_54 := eh66.2 (224) 54 (by omega)
                  have th66_224_55 := eh66.2 (224) 55 (by omega)
                  have th66_224_56 := eh66.2 (224) 56 (by omega)
                  have th66_224_57 := eh66.2 (224) 57 (by omega)
                  refine sx_iload dX12_close_221 rfl ?_
                  refine sx_if_eq (tgt := 233) dX12_close_223 (by decide) (fun c67 => ?_) (fun c67 => ?_)
                  ·
                    refine sx_bipush dX12_close_233 ⟨by decide, by decide, by decide⟩ ?_
                    refine sx_ireturn dX12_close_235 ?_
                    exact ⟨_, rfl, ⟨Ih66, by omega, by omega, fun k => by rw [eh66.2 243 k (by omega), eh65.2 243 k (by omega), eh52.at 243 k, eh50.at 243 k]; simp only [Nat.reduceEqDiff, false_and, if_false, true_and]; rw [eo]; by_cases q1 : (k : Int) = y2; (rw [if_pos (by omega), if_pos q1]); (rw [if_neg (by omega), if_neg q1]; by_cases q2 : (k : Int) = h0 253 (h0 224 55).toNat; (rw [if_pos (by omega), if_pos q2]); (rw [if_neg (by omega), if_neg q2]))⟩⟩
                  ·
                    exact absurd c67 (by decide)
                ·
                  refine sx_iload dX12_close_188 rfl ?_
                  refine sx_goto (tgt := 195) dX12_close_190 (by decide) ?_
                  refine sx_istore dX12_close_195 (by decide) ?_
                  refine sx_aload_n dX12_close_197 rfl ?_
                  refine sx_dupr dX12_close_198 ?_
                  refine sx_getI (k := 55) cl_12 fl_X12_397 dX12_close_199 s_224 (by decide) rfl (by decide) ?_
                  refine sx_iconst dX12_close_202 ⟨by decide, by decide⟩ ?_
                  refine sx_isub dX12_close_203 ?_
                  refine sy_topw (by omega) ?_
                  refine sy_putI (k := 55) cl_12 fl_X12_397 dX12_close_204 s_224 (by decide) rfl (by decide) rfl rfl (fun h68 eh68 => ?_)
                  have Ih68 := Ih52.up eh68 trivial rfl
                  have th68_224_51 := eh68.2 (224) 51 (by decide)
                  have th68_224_52 := eh68.2 (224) 52 (by decide)
                  have th68_224_53 := eh68.2 (224) 53 (by decide)
                  have th68_224_54 := eh68.2 (224) 54 (by decide)
                  have th68_224_55 := eh68.1
                  have th68_224_56 := eh68.2 (224) 56 (by decide)
                  have th68_224_57 := eh68.2 (224) 57 (by decide)
                  refine sx_aload_n dX12_close_207 rfl ?_
                  refine sx_getS (k := 49) (t := 259) cl_12 fl_X12_118 dX12_close_208 s_224 (by decide) rfl (by decide) ?_
                  refine sx_aload_n dX12_close_211 rfl ?_
                  refine sx_getI (k := 55) cl_12 fl_X12_397 dX12_close_212 s_224 (by decide) rfl (by decide) ?_
                  refine sx_dup2 dX12_close_215 ?_
                  refine sx_iaload dX12_close_216 s_259 (by decide) (by decide) ⟨by omega, by omega⟩ ?_
                  refine sx_iload dX12_close_217 rfl ?_
                  refine sx_iadd dX12_close_219 ?_
                  refine sy_iastore dX12_close_220 s_259 (by decide) (by decide) ⟨by omega, by omega⟩ (fun h69 eh69 => ?_)
                  have Ih69 := Ih68.up eh69 trivial rfl
                  have th69_224_51 := eh69.2 (224) 51 (by omega)
                  have th69_224_52 := eh69.2 (224) 52 (by omega)
                  have th69_224_53 := eh69.2 (224) 53 (by omega)
                  have th69_224_54 := eh69.2 (224) 54 (by omega)
                  have th69_224_55 := eh69.2 (224) 55 (by omega)
                  have th69_224_56 := eh69.2 (224) 56 (by omega)
                  have th69_224_57 := eh69.2 (224) 57 (by omega)
                  refine sx_iload dX12_close_221 rfl ?_
                  refine sx_if_eq (tgt := 233) dX12_close_223 (by decide) (fun c70 => ?_) (fun c70 => ?_)
                  ·
                    refine sx_bipush dX12_close_233 ⟨by decide, by decide, by decide⟩ ?_
                    refine sx_ireturn dX12_close_235 ?_
                    exact ⟨_, rfl, ⟨Ih69, by omega, by omega, fun k => by rw [eh69.2 243 k (by omega), eh68.2 243 k (by omega), eh52.at 243 k, eh50.at 243 k]; simp only [Nat.reduceEqDiff, false_and, if_false, true_and]; rw [eo]; by_cases q1 : (k : Int) = y2; (rw [if_pos (by omega), if_pos q1]); (rw [if_neg (by omega), if_neg q1]; by_cases q2 : (k : Int) = h0 253 (h0 224 55).toNat; (rw [if_pos (by omega), if_pos q2]); (rw [if_neg (by omega), if_neg q2]))⟩⟩
                  ·
                    exact absurd c70 (by decide)
              ·
                exact absurd c63 (by decide)
            ·
              refine sx_iconst dX12_close_151 ⟨by decide, by decide⟩ ?_
              refine sx_goto (tgt := 156) dX12_close_152 (by decide) ?_
              refine sx_istore dX12_close_156 (by decide) ?_
              refine sx_iload_n dX12_close_158 rfl ?_
              refine sx_bipush dX12_close_159 ⟨by decide, by decide, by decide⟩ ?_
              refine sx_icmp_ne (tgt := 181) dX12_close_161 (by decide) (fun c71 => ?_) (fun c71 => ?_)
              ·
                refine sx_iload dX12_close_181 rfl ?_
                refine sx_iload dX12_close_183 rfl ?_
                refine sx_icmp_le (tgt := 193) dX12_close_185 (by decide) (fun c72 => ?_) (fun c72 => ?_)
                ·
                  refine sx_iload dX12_close_193 rfl ?_
                  refine sx_istore dX12_close_195 (by decide) ?_
                  refine sx_aload_n dX12_close_197 rfl ?_
                  refine sx_dupr dX12_close_198 ?_
                  refine sx_getI (k := 55) cl_12 fl_X12_397 dX12_close_199 s_224 (by decide) rfl (by decide) ?_
                  refine sx_iconst dX12_close_202 ⟨by decide, by decide⟩ ?_
                  refine sx_isub dX12_close_203 ?_
                  refine sy_topw (by omega) ?_
                  refine sy_putI (k := 55) cl_12 fl_X12_397 dX12_close_204 s_224 (by decide) rfl (by decide) rfl rfl (fun h73 eh73 => ?_)
                  have Ih73 := Ih52.up eh73 trivial rfl
                  have th73_224_51 := eh73.2 (224) 51 (by decide)
                  have th73_224_52 := eh73.2 (224) 52 (by decide)
                  have th73_224_53 := eh73.2 (224) 53 (by decide)
                  have th73_224_54 := eh73.2 (224) 54 (by decide)
                  have th73_224_55 := eh73.1
                  have th73_224_56 := eh73.2 (224) 56 (by decide)
                  have th73_224_57 := eh73.2 (224) 57 (by decide)
                  refine sx_aload_n dX12_close_207 rfl ?_
                  refine sx_getS (k := 49) (t := 259) cl_12 fl_X12_118 dX12_close_208 s_224 (by decide) rfl (by decide) ?_
                  refine sx_aload_n dX12_close_211 rfl ?_
                  refine sx_getI (k := 55) cl_12 fl_X12_397 dX12_close_212 s_224 (by decide) rfl (by decide) ?_
                  refine sx_dup2 dX12_close_215 ?_
                  refine sx_iaload dX12_close_216 s_259 (by decide) (by decide) ⟨by omega, by omega⟩ ?_
                  refine sx_iload dX12_close_217 rfl ?_
                  refine sx_iadd dX12_close_219 ?_
                  refine sy_iastore dX12_close_220 s_259 (by decide) (by decide) ⟨by omega, by omega⟩ (fun h74 eh74 => ?_)
                  have Ih74 := Ih73.up eh74 trivial rfl
                  have th74_224_51 := eh74.2 (224) 51 (by omega)
                  have th74_224_52 := eh74.2 (224) 52 (by omega)
                  have th74_224_53 := eh74.2 (224) 53 (by omega)
                  have th74_224_54 := eh74.2 (224) 54 (by omega)
                  have th74_224_55 := eh74.2 (224) 55 (by omega)
                  have th74_224_56 := eh74.2 (224) 56 (by omega)
                  have th74_224_57 := eh74.2 (224) 57 (by omega)
                  refine sx_iload dX12_close_221 rfl ?_
                  refine sx_if_eq (tgt := 233) dX12_close_223 (by decide) (fun c75 => ?_) (fun c75 => ?_)
                  ·
                    exact absurd c75 (by decide)
                  ·
                    refine sx_aload_n dX12_close_226 rfl ?_
                    refine sx_callVi lk_X12_440 cl_12 s_224 (by decide) dX12_close_227 (vs := []) rfl rfl (Nat.le_of_ble_eq_true rfl) (Nat.le_of_ble_eq_true rfl) rfl (c_X12_tooFar _ Ih74.1) (fun x77 h76 ph76 => ?_)
                    obtain ⟨rfl, p_x77⟩ := ph76
                    refine sx_goto (tgt := 235) dX12_close_230 (by decide) ?_
                    refine sx_ireturn dX12_close_235 ?_
                    exact ⟨_, rfl, ⟨Ih74, by omega, by omega, fun k => by rw [eh74.2 243 k (by omega), eh73.2 243 k (by omega), eh52.at 243 k, eh50.at 243 k]; simp only [Nat.reduceEqDiff, false_and, if_false, true_and]; rw [eo]; by_cases q1 : (k : Int) = y2; (rw [if_pos (by omega), if_pos q1]); (rw [if_neg (by omega), if_neg q1]; by_cases q2 : (k : Int) = h0 253 (h0 224 55).toNat; (rw [if_pos (by omega), if_pos q2]); (rw [if_neg (by omega), if_neg q2]))⟩⟩
                ·
                  refine sx_iload dX12_close_188 rfl ?_
                  refine sx_goto (tgt := 195) dX12_close_190 (by decide) ?_
                  refine sx_istore dX12_close_195 (by decide) ?_
                  refine sx_aload_n dX12_close_197 rfl ?_
                  refine sx_dupr dX12_close_198 ?_
                  refine sx_getI (k := 55) cl_12 fl_X12_397 dX12_close_199 s_224 (by decide) rfl (by decide) ?_
                  refine sx_iconst dX12_close_202 ⟨by decide, by decide⟩ ?_
                  refine sx_isub dX12_close_203 ?_
                  refine sy_topw (by omega) ?_
                  refine sy_putI (k := 55) cl_12 fl_X12_397 dX12_close_204 s_224 (by decide) rfl (by decide) rfl rfl (fun h78 eh78 => ?_)
                  have Ih78 := Ih52.up eh78 trivial rfl
                  have th78_224_51 := eh78.2 (224) 51 (by decide)
                  have th78_224_52 := eh78.2 (224) 52 (by decide)
                  have th78_224_53 := eh78.2 (224) 53 (by decide)
                  have th78_224_54 := eh78.2 (224) 54 (by decide)
                  have th78_224_55 := eh78.1
                  have th78_224_56 := eh78.2 (224) 56 (by decide)
                  have th78_224_57 := eh78.2 (224) 57 (by decide)
                  refine sx_aload_n dX12_close_207 rfl ?_
                  refine sx_getS (k := 49) (t := 259) cl_12 fl_X12_118 dX12_close_208 s_224 (by decide) rfl (by decide) ?_
                  refine sx_aload_n dX12_close_211 rfl ?_
                  refine sx_getI (k := 55) cl_12 fl_X12_397 dX12_close_212 s_224 (by decide) rfl (by decide) ?_
                  refine sx_dup2 dX12_close_215 ?_
                  refine sx_iaload dX12_close_216 s_259 (by decide) (by decide) ⟨by omega, by omega⟩ ?_
                  refine sx_iload dX12_close_217 rfl ?_
                  refine sx_iadd dX12_close_219 ?_
                  refine sy_iastore dX12_close_220 s_259 (by decide) (by decide) ⟨by omega, by omega⟩ (fun h79 eh79 => ?_)
                  have Ih79 := Ih78.up eh79 trivial rfl
                  have th79_224_51 := eh79.2 (224) 51 (by omega)
                  have th79_224_52 := eh79.2 (224) 52 (by omega)
                  have th79_224_53 := eh79.2 (224) 53 (by omega)
                  have th79_224_54 := eh79.2 (224) 54 (by omega)
                  have th79_224_55 := eh79.2 (224) 55 (by omega)
                  have th79_224_56 := eh79.2 (224) 56 (by omega)
                  have th79_224_57 := eh79.2 (224) 57 (by omega)
                  refine sx_iload dX12_close_221 rfl ?_
                  refine sx_if_eq (tgt := 233) dX12_close_223 (by decide) (fun c80 => ?_) (fun c80 => ?_)
                  ·
                    exact absurd c80 (by decide)
                  ·
                    refine sx_aload_n dX12_close_226 rfl ?_
                    refine sx_callVi lk_X12_440 cl_12 s_224 (by decide) dX12_close_227 (vs := []) rfl rfl (Nat.le_of_ble_eq_true rfl) (Nat.le_of_ble_eq_true rfl) rfl (c_X12_tooFar _ Ih79.1) (fun x82 h81 ph81 => ?_)
                    obtain ⟨rfl, p_x82⟩ := ph81
                    refine sx_goto (tgt := 235) dX12_close_230 (by decide) ?_
                    refine sx_ireturn dX12_close_235 ?_
                    exact ⟨_, rfl, ⟨Ih79, by omega, by omega, fun k => by rw [eh79.2 243 k (by omega), eh78.2 243 k (by omega), eh52.at 243 k, eh50.at 243 k]; simp only [Nat.reduceEqDiff, false_and, if_false, true_and]; rw [eo]; by_cases q1 : (k : Int) = y2; (rw [if_pos (by omega), if_pos q1]); (rw [if_neg (by omega), if_neg q1]; by_cases q2 : (k : Int) = h0 253 (h0 224 55).toNat; (rw [if_pos (by omega), if_pos q2]); (rw [if_neg (by omega), if_neg q2]))⟩⟩
              ·
                exact absurd c71 (by decide)
set_option maxRecDepth 20000 in
set_option maxHeartbeats 4000000 in
theorem c_X12_close_7 {G : sw_G} (d : Nat) {h0 : sw_H} (hJ : mI h0) (b : Nat) (y2 : Int) (hb : 1 ≤ h0 224 55 ∧ -6 ≤ h0 224 53 ∧ h0 224 53 ≤ 12 ∧ 0 ≤ h0 224 54 ∧ h0 224 54 ≤ 6 ∧ 0 ≤ h0 224 55 ∧ h0 224 55 ≤ 4 ∧ 0 ≤ h0 224 56 ∧ h0 224 56 ≤ 6 ∧ 0 ≤ h0 224 57 ∧ h0 224 57 ≤ 12) (hy : b ≤ 1 ∧ 60 * (1 - (b : Int)) ≤ y2 ∧ y2 < 60 * (1 - (b : Int)) + 60) (ho : 60 * (1 - (b : Int)) ≤ h0 253 (h0 224 55).toNat ∧ h0 253 (h0 224 55).toNat < 60 * (1 - (b : Int)) + 60 ∧ h0 253 (h0 224 55).toNat ≠ y2)  : sw_E G NH SH (d + 1) mX12_close 0 [some (sw_r 224), some (sw_i 7), some (sw_i y2), none, none, none, none, none, none, none] [] h0 (sw_Qi (fun z h' => mK (prB b [55] [243, 259]) h0 h' ∧ ((z = 0 ∨ z = 6 ∨ z = 7) ∧ h' 224 55 = h0 224 55 - 1 ∧ (z = 0 → h0 224 56 ≤ 6 ∧ h0 224 57 ≤ 12 ∧ h0 224 54 ≤ 6)) ∧ (z = 0 → (h0 252 (h0 224 55).toNat = 4 → h0 224 53 = h0 256 (h0 224 55).toNat ∧ h0 224 54 = h0 257 (h0 224 55).toNat) ∧ (h0 252 (h0 224 55).toNat ≠ 4 → h0 224 53 = h0 254 (h0 224 55).toNat ∧ h0 224 54 = h0 255 (h0 224 55).toNat)) ∧ (∀ k : Nat, h' 243 k = if (k : Int) = y2 then h0 253 (h0 224 55).toNat else if (k : Int) = h0 253 (h0 224 55).toNat then y2 else h0 243 k))) := by
  have hI : mK (prB b [55] [243, 259]) h0 h0 := mK.refl hJ
  have bb : (b : Int) ≤ 1 ∧ 0 ≤ (b : Int) := by omega
  refine sx_aload_n dX12_close_0 rfl ?_
  refine sx_getS (k := 42) (t := 252) cl_12 fl_X12_97 dX12_close_1 s_224 (by decide) rfl (by decide) ?_
  refine sx_aload_n dX12_close_4 rfl ?_
  refine sx_getI (k := 55) cl_12 fl_X12_397 dX12_close_5 s_224 (by decide) rfl (by decide) ?_
  refine sx_iaload dX12_close_8 s_252 (by decide) (by decide) ⟨by omega, by omega⟩ ?_
  refine sx_iconst dX12_close_9 ⟨by decide, by decide⟩ ?_
  refine sx_icmp_ne (tgt := 17) dX12_close_10 (by decide) (fun c1 => ?_) (fun c1 => ?_)
  ·
    refine sx_iconst dX12_close_17 ⟨by decide, by decide⟩ ?_
    refine sx_istore_n dX12_close_18 (by decide) ?_
    refine sx_iload_n dX12_close_19 rfl ?_
    refine sx_if_eq (tgt := 35) dX12_close_20 (by decide) (fun c2 => ?_) (fun c2 => ?_)
    ·
      refine sx_aload_n dX12_close_35 rfl ?_
      refine sx_getS (k := 44) (t := 254) cl_12 fl_X12_103 dX12_close_36 s_224 (by decide) rfl (by decide) ?_
      refine sx_aload_n dX12_close_39 rfl ?_
      refine sx_getI (k := 55) cl_12 fl_X12_397 dX12_close_40 s_224 (by decide) rfl (by decide) ?_
      refine sx_iaload dX12_close_43 s_254 (by decide) (by decide) ⟨by omega, by omega⟩ ?_
      refine sy_top (fun v3 ev3 => ?_)
      refine sx_istore dX12_close_44 (by decide) ?_
      refine sx_iload_n dX12_close_46 rfl ?_
      refine sx_if_eq (tgt := 62) dX12_close_47 (by decide) (fun c4 => ?_) (fun c4 => ?_)
      ·
        refine sx_aload_n dX12_close_62 rfl ?_
        refine sx_getS (k := 45) (t := 255) cl_12 fl_X12_106 dX12_close_63 s_224 (by decide) rfl (by decide) ?_
        refine sx_aload_n dX12_close_66 rfl ?_
        refine sx_getI (k := 55) cl_12 fl_X12_397 dX12_close_67 s_224 (by decide) rfl (by decide) ?_
        refine sx_iaload dX12_close_70 s_255 (by decide) (by decide) ⟨by omega, by omega⟩ ?_
        refine sy_top (fun v5 ev5 => ?_)
        refine sx_istore dX12_close_71 (by decide) ?_
        refine sx_iload_n dX12_close_73 rfl ?_
        refine sx_if_eq (tgt := 89) dX12_close_74 (by decide) (fun c6 => ?_) (fun c6 => ?_)
        ·
          refine sx_iconst dX12_close_89 ⟨by decide, by decide⟩ ?_
          refine sx_istore dX12_close_90 (by decide) ?_
          refine sx_aload_n dX12_close_92 rfl ?_
          refine sx_getS (k := 49) (t := 259) cl_12 fl_X12_118 dX12_close_93 s_224 (by decide) rfl (by decide) ?_
          refine sx_aload_n dX12_close_96 rfl ?_
          refine sx_getI (k := 55) cl_12 fl_X12_397 dX12_close_97 s_224 (by decide) rfl (by decide) ?_
          refine sx_iaload dX12_close_100 s_259 (by decide) (by decide) ⟨by omega, by omega⟩ ?_
          refine sy_top (fun v7 ev7 => ?_)
          refine sx_istore dX12_close_101 (by decide) ?_
          refine sx_aload_n dX12_close_103 rfl ?_
          refine sx_getS (k := 27) (t := 243) cl_12 fl_X12_69 dX12_close_104 s_224 (by decide) rfl (by decide) ?_
          refine sx_aload_n dX12_close_107 rfl ?_
          refine sx_getS (k := 43) (t := 253) cl_12 fl_X12_100 dX12_close_108 s_224 (by decide) rfl (by decide) ?_
          refine sx_aload_n dX12_close_111 rfl ?_
          refine sx_getI (k := 55) cl_12 fl_X12_397 dX12_close_112 s_224 (by decide) rfl (by decide) ?_
          refine sy_iaF (F := fun z => (0 : Int) ≤ z ∧ z ≤ 119) dX12_close_115 s_253 (by decide) (by decide) ⟨by omega, by omega⟩ (hI.1 253 _) (fun r8 => ?_)
          refine sx_iload_n dX12_close_116 rfl ?_
          refine sy_iastore dX12_close_117 s_243 (by decide) (by decide) ⟨by omega, by omega⟩ (fun h9 eh9 => ?_)
          have Ih9 := hI.up eh9 (show (-1 : Int) ≤ _ ∧ _ ≤ (119 : Int) from ⟨by omega, by omega⟩) (decide_eq_false (show ¬ (60 * b ≤ _ ∧ _ < 60 * b + 60) by omega))
          have th9_224_51 := eh9.2 (224) 51 (by omega)
          have th9_224_52 := eh9.2 (224) 52 (by omega)
          have th9_224_53 := eh9.2 (224) 53 (by omega)
          have th9_224_54 := eh9.2 (224) 54 (by omega)
          have th9_224_55 := eh9.2 (224) 55 (by omega)
          have th9_224_56 := eh9.2 (224) 56 (by omega)
          have th9_224_57 := eh9.2 (224) 57 (by omega)
          refine sx_aload_n dX12_close_118 rfl ?_
          refine sx_getS (k := 27) (t := 243) cl_12 fl_X12_69 dX12_close_119 s_224 (by decide) rfl (by decide) ?_
          refine sx_iload_n dX12_close_122 rfl ?_
          refine sx_aload_n dX12_close_123 rfl ?_
          refine sx_getS (k := 43) (t := 253) cl_12 fl_X12_100 dX12_close_124 s_224 (by decide) rfl (by decide) ?_
          refine sx_aload_n dX12_close_127 rfl ?_
          refine sx_getI (k := 55) cl_12 fl_X12_397 dX12_close_128 s_224 (by decide) rfl (by decide) ?_
          refine sy_iaF (F := fun z => (0 : Int) ≤ z ∧ z ≤ 119) dX12_close_131 s_253 (by decide) (by decide) ⟨by omega, by omega⟩ (Ih9.1 253 _) (fun r10 => ?_)
          have eo : h9 253 (h9 224 55).toNat = h0 253 (h0 224 55).toNat := by rw [show (h9 224 55).toNat = (h0 224 55).toNat by omega]; all_goals rw [eh9.2 253 _ (by omega)]
          refine sy_iastore dX12_close_132 s_243 (by decide) (by decide) ⟨by omega, by omega⟩ (fun h11 eh11 => ?_)
          have Ih11 := Ih9.up eh11 (show (-1 : Int) ≤ _ ∧ _ ≤ (119 : Int) from ⟨by omega, by omega⟩) (decide_eq_false (show ¬ (60 * b ≤ _ ∧ _ < 60 * b + 60) by omega))
          have th11_224_51 := eh11.2 (224) 51 (by omega)
          have th11_224_52 := eh11.2 (224) 52 (by omega)
          have th11_224_53 := eh11.2 (224) 53 (by omega)
          have th11_224_54 := eh11.2 (224) 54 (by omega)
          have th11_224_55 := eh11.2 (224) 55 (by omega)
          have th11_224_56 := eh11.2 (224) 56 (by omega)
          have th11_224_57 := eh11.2 (224) 57 (by omega)
          refine sx_aload_n dX12_close_133 rfl ?_
          refine sx_getI (k := 53) cl_12 fl_X12_406 dX12_close_134 s_224 (by decide) rfl (by decide) ?_
          refine sx_iload dX12_close_137 rfl ?_
          refine sx_icmp_ne (tgt := 155) dX12_close_139 (by decide) (fun c12 => ?_) (fun c12 => ?_)
          ·
            refine sx_iconst dX12_close_155 ⟨by decide, by decide⟩ ?_
            refine sx_istore dX12_close_156 (by decide) ?_
            refine sx_iload_n dX12_close_158 rfl ?_
            refine sx_bipush dX12_close_159 ⟨by decide, by decide, by decide⟩ ?_
            refine sx_icmp_ne (tgt := 181) dX12_close_161 (by decide) (fun c13 => ?_) (fun c13 => ?_)
            ·
              exact absurd c13 (by decide)
            ·
              refine sx_iconst dX12_close_164 ⟨by decide, by decide⟩ ?_
              refine sx_aload_n dX12_close_165 rfl ?_
              refine sx_getS (k := 50) (t := 260) cl_12 fl_X12_121 dX12_close_166 s_224 (by decide) rfl (by decide) ?_
              refine sx_aload_n dX12_close_169 rfl ?_
              refine sx_getI (k := 55) cl_12 fl_X12_397 dX12_close_170 s_224 (by decide) rfl (by decide) ?_
              refine sx_iaload dX12_close_173 s_260 (by decide) (by decide) ⟨by omega, by omega⟩ ?_
              refine sx_iload dX12_close_174 rfl ?_
              refine sx_imul dX12_close_176 ?_
              refine sx_iadd dX12_close_177 ?_
              refine sx_goto (tgt := 195) dX12_close_178 (by decide) ?_
              refine sy_top (fun v14 ev14 => ?_)
              refine sx_istore dX12_close_195 (by decide) ?_
              refine sx_aload_n dX12_close_197 rfl ?_
              refine sx_dupr dX12_close_198 ?_
              refine sx_getI (k := 55) cl_12 fl_X12_397 dX12_close_199 s_224 (by decide) rfl (by decide) ?_
              refine sx_iconst dX12_close_202 ⟨by decide, by decide⟩ ?_
              refine sx_isub dX12_close_203 ?_
              refine sy_topw (by omega) ?_
              refine sy_putI (k := 55) cl_12 fl_X12_397 dX12_close_204 s_224 (by decide) rfl (by decide) rfl rfl (fun h15 eh15 => ?_)
              have Ih15 := Ih11.up eh15 trivial rfl
              have th15_224_51 := eh15.2 (224) 51 (by decide)
              have th15_224_52 := eh15.2 (224) 52 (by decide)
              have th15_224_53 := eh15.2 (224) 53 (by decide)
              have th15_224_54 := eh15.2 (224) 54 (by decide)
              have th15_224_55 := eh15.1
              have th15_224_56 := eh15.2 (224) 56 (by decide)
              have th15_224_57 := eh15.2 (224) 57 (by decide)
              refine sx_aload_n dX12_close_207 rfl ?_
              refine sx_getS (k := 49) (t := 259) cl_12 fl_X12_118 dX12_close_208 s_224 (by decide) rfl (by decide) ?_
              refine sx_aload_n dX12_close_211 rfl ?_
              refine sx_getI (k := 55) cl_12 fl_X12_397 dX12_close_212 s_224 (by decide) rfl (by decide) ?_
              refine sx_dup2 dX12_close_215 ?_
              refine sx_iaload dX12_close_216 s_259 (by decide) (by decide) ⟨by omega, by omega⟩ ?_
              refine sx_iload dX12_close_217 rfl ?_
              refine sx_iadd dX12_close_219 ?_
              refine sy_iastore dX12_close_220 s_259 (by decide) (by decide) ⟨by omega, by omega⟩ (fun h16 eh16 => ?_)
              have Ih16 := Ih15.up eh16 trivial rfl
              have th16_224_51 := eh16.2 (224) 51 (by omega)
              have th16_224_52 := eh16.2 (224) 52 (by omega)
              have th16_224_53 := eh16.2 (224) 53 (by omega)
              have th16_224_54 := eh16.2 (224) 54 (by omega)
              have th16_224_55 := eh16.2 (224) 55 (by omega)
              have th16_224_56 := eh16.2 (224) 56 (by omega)
              have th16_224_57 := eh16.2 (224) 57 (by omega)
              refine sx_iload dX12_close_221 rfl ?_
              refine sx_if_eq (tgt := 233) dX12_close_223 (by decide) (fun c17 => ?_) (fun c17 => ?_)
              ·
                refine sx_bipush dX12_close_233 ⟨by decide, by decide, by decide⟩ ?_
                refine sx_ireturn dX12_close_235 ?_
                exact ⟨_, rfl, ⟨Ih16, by omega, by omega, fun k => by rw [eh16.2 243 k (by omega), eh15.2 243 k (by omega), eh11.at 243 k, eh9.at 243 k]; simp only [Nat.reduceEqDiff, false_and, if_false, true_and]; rw [eo]; by_cases q1 : (k : Int) = y2; (rw [if_pos (by omega), if_pos q1]); (rw [if_neg (by omega), if_neg q1]; by_cases q2 : (k : Int) = h0 253 (h0 224 55).toNat; (rw [if_pos (by omega), if_pos q2]); (rw [if_neg (by omega), if_neg q2]))⟩⟩
              ·
                exact absurd c17 (by decide)
          ·
            refine sx_aload_n dX12_close_142 rfl ?_
            refine sx_getI (k := 54) cl_12 fl_X12_400 dX12_close_143 s_224 (by decide) rfl (by decide) ?_
            refine sx_iload dX12_close_146 rfl ?_
            refine sx_icmp_ne (tgt := 155) dX12_close_148 (by decide) (fun c18 => ?_) (fun c18 => ?_)
            ·
              refine sx_iconst dX12_close_155 ⟨by decide, by decide⟩ ?_
              refine sx_istore dX12_close_156 (by decide) ?_
              refine sx_iload_n dX12_close_158 rfl ?_
              refine sx_bipush dX12_close_159 ⟨by decide, by decide, by decide⟩ ?_
              refine sx_icmp_ne (tgt := 181) dX12_close_161 (by decide) (fun c19 => ?_) (fun c19 => ?_)
              ·
                exact absurd c19 (by decide)
              ·
                refine sx_iconst dX12_close_164 ⟨by decide, by decide⟩ ?_
                refine sx_aload_n dX12_close_165 rfl ?_
                refine sx_getS (k := 50) (t := 260) cl_12 fl_X12_121 dX12_close_166 s_224 (by decide) rfl (by decide) ?_
                refine sx_aload_n dX12_close_169 rfl ?_
                refine sx_getI (k := 55) cl_12 fl_X12_397 dX12_close_170 s_224 (by decide) rfl (by decide) ?_
                refine sx_iaload dX12_close_173 s_260 (by decide) (by decide) ⟨by omega, by omega⟩ ?_
                refine sx_iload dX12_close_174 rfl ?_
                refine sx_imul dX12_close_176 ?_
                refine sx_iadd dX12_close_177 ?_
                refine sx_goto (tgt := 195) dX12_close_178 (by decide) ?_
                refine sy_top (fun v20 ev20 => ?_)
                refine sx_istore dX12_close_195 (by decide) ?_
                refine sx_aload_n dX12_close_197 rfl ?_
                refine sx_dupr dX12_close_198 ?_
                refine sx_getI (k := 55) cl_12 fl_X12_397 dX12_close_199 s_224 (by decide) rfl (by decide) ?_
                refine sx_iconst dX12_close_202 ⟨by decide, by decide⟩ ?_
                refine sx_isub dX12_close_203 ?_
                refine sy_topw (by omega) ?_
                refine sy_putI (k := 55) cl_12 fl_X12_397 dX12_close_204 s_224 (by decide) rfl (by decide) rfl rfl (fun h21 eh21 => ?_)
                have Ih21 := Ih11.up eh21 trivial rfl
                have th21_224_51 := eh21.2 (224) 51 (by decide)
                have th21_224_52 := eh21.2 (224) 52 (by decide)
                have th21_224_53 := eh21.2 (224) 53 (by decide)
                have th21_224_54 := eh21.2 (224) 54 (by decide)
                have th21_224_55 := eh21.1
                have th21_224_56 := eh21.2 (224) 56 (by decide)
                have th21_224_57 := eh21.2 (224) 57 (by decide)
                refine sx_aload_n dX12_close_207 rfl ?_
                refine sx_getS (k := 49) (t := 259) cl_12 fl_X12_118 dX12_close_208 s_224 (by decide) rfl (by decide) ?_
                refine sx_aload_n dX12_close_211 rfl ?_
                refine sx_getI (k := 55) cl_12 fl_X12_397 dX12_close_212 s_224 (by decide) rfl (by decide) ?_
                refine sx_dup2 dX12_close_215 ?_
                refine sx_iaload dX12_close_216 s_259 (by decide) (by decide) ⟨by omega, by omega⟩ ?_
                refine sx_iload dX12_close_217 rfl ?_
                refine sx_iadd dX12_close_219 ?_
                refine sy_iastore dX12_close_220 s_259 (by decide) (by decide) ⟨by omega, by omega⟩ (fun h22 eh22 => ?_)
                have Ih22 := Ih21.up eh22 trivial rfl
                have th22_224_51 := eh22.2 (224) 51 (by omega)
                have th22_224_52 := eh22.2 (224) 52 (by omega)
                have th22_224_53 := eh22.2 (224) 53 (by omega)
                have th22_224_54 := eh22.2 (224) 54 (by omega)
                have th22_224_55 := eh22.2 (224) 55 (by omega)
                have th22_224_56 := eh22.2 (224) 56 (by omega)
                have th22_224_57 := eh22.2 (224) 57 (by omega)
                refine sx_iload dX12_close_221 rfl ?_
                refine sx_if_eq (tgt := 233) dX12_close_223 (by decide) (fun c23 => ?_) (fun c23 => ?_)
                ·
                  refine sx_bipush dX12_close_233 ⟨by decide, by decide, by decide⟩ ?_
                  refine sx_ireturn dX12_close_235 ?_
                  exact ⟨_, rfl, ⟨Ih22, by omega, by omega, fun k => by rw [eh22.2 243 k (by omega), eh21.2 243 k (by omega), eh11.at 243 k, eh9.at 243 k]; simp only [Nat.reduceEqDiff, false_and, if_false, true_and]; rw [eo]; by_cases q1 : (k : Int) = y2; (rw [if_pos (by omega), if_pos q1]); (rw [if_neg (by omega), if_neg q1]; by_cases q2 : (k : Int) = h0 253 (h0 224 55).toNat; (rw [if_pos (by omega), if_pos q2]); (rw [if_neg (by omega), if_neg q2]))⟩⟩
                ·
                  exact absurd c23 (by decide)
            ·
              refine sx_iconst dX12_close_151 ⟨by decide, by decide⟩ ?_
              refine sx_goto (tgt := 156) dX12_close_152 (by decide) ?_
              refine sx_istore dX12_close_156 (by decide) ?_
              refine sx_iload_n dX12_close_158 rfl ?_
              refine sx_bipush dX12_close_159 ⟨by decide, by decide, by decide⟩ ?_
              refine sx_icmp_ne (tgt := 181) dX12_close_161 (by decide) (fun c24 => ?_) (fun c24 => ?_)
              ·
                exact absurd c24 (by decide)
              ·
                refine sx_iconst dX12_close_164 ⟨by decide, by decide⟩ ?_
                refine sx_aload_n dX12_close_165 rfl ?_
                refine sx_getS (k := 50) (t := 260) cl_12 fl_X12_121 dX12_close_166 s_224 (by decide) rfl (by decide) ?_
                refine sx_aload_n dX12_close_169 rfl ?_
                refine sx_getI (k := 55) cl_12 fl_X12_397 dX12_close_170 s_224 (by decide) rfl (by decide) ?_
                refine sx_iaload dX12_close_173 s_260 (by decide) (by decide) ⟨by omega, by omega⟩ ?_
                refine sx_iload dX12_close_174 rfl ?_
                refine sx_imul dX12_close_176 ?_
                refine sx_iadd dX12_close_177 ?_
                refine sx_goto (tgt := 195) dX12_close_178 (by decide) ?_
                refine sy_top (fun v25 ev25 => ?_)
                refine sx_istore dX12_close_195 (by decide) ?_
                refine sx_aload_n dX12_close_197 rfl ?_
                refine sx_dupr dX12_close_198 ?_
                refine sx_getI (k := 55) cl_12 fl_X12_397 dX12_close_199 s_224 (by decide) rfl (by decide) ?_
                refine sx_iconst dX12_close_202 ⟨by decide, by decide⟩ ?_
                refine sx_isub dX12_close_203 ?_
                refine sy_topw (by omega) ?_
                refine sy_putI (k := 55) cl_12 fl_X12_397 dX12_close_204 s_224 (by decide) rfl (by decide) rfl rfl (fun h26 eh26 => ?_)
                have Ih26 := Ih11.up eh26 trivial rfl
                have th26_224_51 := eh26.2 (224) 51 (by decide)
                have th26_224_52 := eh26.2 (224) 52 (by decide)
                have th26_224_53 := eh26.2 (224) 53 (by decide)
                have th26_224_54 := eh26.2 (224) 54 (by decide)
                have th26_224_55 := eh26.1
                have th26_224_56 := eh26.2 (224) 56 (by decide)
                have th26_224_57 := eh26.2 (224) 57 (by decide)
                refine sx_aload_n dX12_close_207 rfl ?_
                refine sx_getS (k := 49) (t := 259) cl_12 fl_X12_118 dX12_close_208 s_224 (by decide) rfl (by decide) ?_
                refine sx_aload_n dX12_close_211 rfl ?_
                refine sx_getI (k := 55) cl_12 fl_X12_397 dX12_close_212 s_224 (by decide) rfl (by decide) ?_
                refine sx_dup2 dX12_close_215 ?_
                refine sx_iaload dX12_close_216 s_259 (by decide) (by decide) ⟨by omega, by omega⟩ ?_
                refine sx_iload dX12_close_217 rfl ?_
                refine sx_iadd dX12_close_219 ?_
                refine sy_iastore dX12_close_220 s_259 (by decide) (by decide) ⟨by omega, by omega⟩ (fun h27 eh27 => ?_)
                have Ih27 := Ih26.up eh27 trivial rfl
                have th27_224_51 := eh27.2 (224) 51 (by omega)
                have th27_224_52 := eh27.2 (224) 52 (by omega)
                have th27_224_53 := eh27.2 (224) 53 (by omega)
                have th27_224_54 := eh27.2 (224) 54 (by omega)
                have th27_224_55 := eh27.2 (224) 55 (by omega)
                have th27_224_56 := eh27.2 (224) 56 (by omega)
                have th27_224_57 := eh27.2 (224) 57 (by omega)
                refine sx_iload dX12_close_221 rfl ?_
                refine sx_if_eq (tgt := 233) dX12_close_223 (by decide) (fun c28 => ?_) (fun c28 => ?_)
                ·
                  exact absurd c28 (by decide)
                ·
                  refine sx_aload_n dX12_close_226 rfl ?_
                  refine sx_callVi lk_X12_440 cl_12 s_224 (by decide) dX12_close_227 (vs := []) rfl rfl (Nat.le_of_ble_eq_true rfl) (Nat.le_of_ble_eq_true rfl) rfl (c_X12_tooFar _ Ih27.1) (fun x30 h29 ph29 => ?_)
                  obtain ⟨rfl, p_x30⟩ := ph29
                  refine sx_goto (tgt := 235) dX12_close_230 (by decide) ?_
                  refine sx_ireturn dX12_close_235 ?_
                  exact ⟨_, rfl, ⟨Ih27, by omega, by omega, fun k => by rw [eh27.2 243 k (by omega), eh26.2 243 k (by omega), eh11.at 243 k, eh9.at 243 k]; simp only [Nat.reduceEqDiff, false_and, if_false, true_and]; rw [eo]; by_cases q1 : (k : Int) = y2; (rw [if_pos (by omega), if_pos q1]); (rw [if_neg (by omega), if_neg q1]; by_cases q2 : (k : Int) = h0 253 (h0 224 55).toNat; (rw [if_pos (by omega), if_pos q2]); (rw [if_neg (by omega), if_neg q2]))⟩⟩
        ·
          exact absurd c6 (by decide)
      ·
        exact absurd c4 (by decide)
    ·
      exact absurd c2 (by decide)
  ·
    refine sx_iconst dX12_close_13 ⟨by decide, by decide⟩ ?_
    refine sx_goto (tgt := 18) dX12_close_14 (by decide) ?_
    refine sx_istore_n dX12_close_18 (by decide) ?_
    refine sx_iload_n dX12_close_19 rfl ?_
    refine sx_if_eq (tgt := 35) dX12_close_20 (by decide) (fun c31 => ?_) (fun c31 => ?_)
    ·
      exact absurd c31 (by decide)
    ·
      refine sx_aload_n dX12_close_23 rfl ?_
      refine sx_getS (k := 46) (t := 256) cl_12 fl_X12_109 dX12_close_24 s_224 (by decide) rfl (by decide) ?_
      refine sx_aload_n dX12_close_27 rfl ?_
      refine sx_getI (k := 55) cl_12 fl_X12_397 dX12_close_28 s_224 (by decide) rfl (by decide) ?_
      refine sx_iaload dX12_close_31 s_256 (by decide) (by decide) ⟨by omega, by omega⟩ ?_
      refine sx_goto (tgt := 44) dX12_close_32 (by decide) ?_
      refine sy_top (fun v32 ev32 => ?_)
      refine sx_istore dX12_close_44 (by decide) ?_
      refine sx_iload_n dX12_close_46 rfl ?_
      refine sx_if_eq (tgt := 62) dX12_close_47 (by decide) (fun c33 => ?_) (fun c33 => ?_)
      ·
        exact absurd c33 (by decide)
      ·
        refine sx_aload_n dX12_close_50 rfl ?_
        refine sx_getS (k := 47) (t := 257) cl_12 fl_X12_112 dX12_close_51 s_224 (by decide) rfl (by decide) ?_
        refine sx_aload_n dX12_close_54 rfl ?_
        refine sx_getI (k := 55) cl_12 fl_X12_397 dX12_close_55 s_224 (by decide) rfl (by decide) ?_
        refine sx_iaload dX12_close_58 s_257 (by decide) (by decide) ⟨by omega, by omega⟩ ?_
        refine sx_goto (tgt := 71) dX12_close_59 (by decide) ?_
        refine sy_top (fun v34 ev34 => ?_)
        refine sx_istore dX12_close_71 (by decide) ?_
        refine sx_iload_n dX12_close_73 rfl ?_
        refine sx_if_eq (tgt := 89) dX12_close_74 (by decide) (fun c35 => ?_) (fun c35 => ?_)
        ·
          exact absurd c35 (by decide)
        ·
          refine sx_aload_n dX12_close_77 rfl ?_
          refine sx_getS (k := 48) (t := 258) cl_12 fl_X12_115 dX12_close_78 s_224 (by decide) rfl (by decide) ?_
          refine sx_aload_n dX12_close_81 rfl ?_
          refine sx_getI (k := 55) cl_12 fl_X12_397 dX12_close_82 s_224 (by decide) rfl (by decide) ?_
          refine sx_iaload dX12_close_85 s_258 (by decide) (by decide) ⟨by omega, by omega⟩ ?_
          refine sx_goto (tgt := 90) dX12_close_86 (by decide) ?_
          refine sy_top (fun v36 ev36 => ?_)
          refine sx_istore dX12_close_90 (by decide) ?_
          refine sx_aload_n dX12_close_92 rfl ?_
          refine sx_getS (k := 49) (t := 259) cl_12 fl_X12_118 dX12_close_93 s_224 (by decide) rfl (by decide) ?_
          refine sx_aload_n dX12_close_96 rfl ?_
          refine sx_getI (k := 55) cl_12 fl_X12_397 dX12_close_97 s_224 (by decide) rfl (by decide) ?_
          refine sx_iaload dX12_close_100 s_259 (by decide) (by decide) ⟨by omega, by omega⟩ ?_
          refine sy_top (fun v37 ev37 => ?_)
          refine sx_istore dX12_close_101 (by decide) ?_
          refine sx_aload_n dX12_close_103 rfl ?_
          refine sx_getS (k := 27) (t := 243) cl_12 fl_X12_69 dX12_close_104 s_224 (by decide) rfl (by decide) ?_
          refine sx_aload_n dX12_close_107 rfl ?_
          refine sx_getS (k := 43) (t := 253) cl_12 fl_X12_100 dX12_close_108 s_224 (by decide) rfl (by decide) ?_
          refine sx_aload_n dX12_close_111 rfl ?_
          refine sx_getI (k := 55) cl_12 fl_X12_397 dX12_close_112 s_224 (by decide) rfl (by decide) ?_
          refine sy_iaF (F := fun z => (0 : Int) ≤ z ∧ z ≤ 119) dX12_close_115 s_253 (by decide) (by decide) ⟨by omega, by omega⟩ (hI.1 253 _) (fun r38 => ?_)
          refine sx_iload_n dX12_close_116 rfl ?_
          refine sy_iastore dX12_close_117 s_243 (by decide) (by decide) ⟨by omega, by omega⟩ (fun h39 eh39 => ?_)
          have Ih39 := hI.up eh39 (show (-1 : Int) ≤ _ ∧ _ ≤ (119 : Int) from ⟨by omega, by omega⟩) (decide_eq_false (show ¬ (60 * b ≤ _ ∧ _ < 60 * b + 60) by omega))
          have th39_224_51 := eh39.2 (224) 51 (by omega)
          have th39_224_52 := eh39.2 (224) 52 (by omega)
          have th39_224_53 := eh39.2 (224) 53 (by omega)
          have th39_224_54 := eh39.2 (224) 54 (by omega)
          have th39_224_55 := eh39.2 (224) 55 (by omega)
          have th39_224_56 := eh39.2 (224) 56 (by omega)
          have th39_224_57 := eh39.2 (224) 57 (by omega)
          refine sx_aload_n dX12_close_118 rfl ?_
          refine sx_getS (k := 27) (t := 243) cl_12 fl_X12_69 dX12_close_119 s_224 (by decide) rfl (by decide) ?_
          refine sx_iload_n dX12_close_122 rfl ?_
          refine sx_aload_n dX12_close_123 rfl ?_
          refine sx_getS (k := 43) (t := 253) cl_12 fl_X12_100 dX12_close_124 s_224 (by decide) rfl (by decide) ?_
          refine sx_aload_n dX12_close_127 rfl ?_
          refine sx_getI (k := 55) cl_12 fl_X12_397 dX12_close_128 s_224 (by decide) rfl (by decide) ?_
          refine sy_iaF (F := fun z => (0 : Int) ≤ z ∧ z ≤ 119) dX12_close_131 s_253 (by decide) (by decide) ⟨by omega, by omega⟩ (Ih39.1 253 _) (fun r40 => ?_)
          have eo : h39 253 (h39 224 55).toNat = h0 253 (h0 224 55).toNat := by rw [show (h39 224 55).toNat = (h0 224 55).toNat by omega]; all_goals rw [eh39.2 253 _ (by omega)]
          refine sy_iastore dX12_close_132 s_243 (by decide) (by decide) ⟨by omega, by omega⟩ (fun h41 eh41 => ?_)
          have Ih41 := Ih39.up eh41 (show (-1 : Int) ≤ _ ∧ _ ≤ (119 : Int) from ⟨by omega, by omega⟩) (decide_eq_false (show ¬ (60 * b ≤ _ ∧ _ < 60 * b + 60) by omega))
          have th41_224_51 := eh41.2 (224) 51 (by omega)
          have th41_224_52 := eh41.2 (224) 52 (by omega)
          have th41_224_53 := eh41.2 (224) 53 (by omega)
          have th41_224_54 := eh41.2 (224) 54 (by omega)
          have th41_224_55 := eh41.2 (224) 55 (by omega)
          have th41_224_56 := eh41.2 (224) 56 (by omega)
          have th41_224_57 := eh41.2 (224) 57 (by omega)
          refine sx_aload_n dX12_close_133 rfl ?_
          refine sx_getI (k := 53) cl_12 fl_X12_406 dX12_close_134 s_224 (by decide) rfl (by decide) ?_
          refine sx_iload dX12_close_137 rfl ?_
          refine sx_icmp_ne (tgt := 155) dX12_close_139 (by decide) (fun c42 => ?_) (fun c42 => ?_)
          ·
            refine sx_iconst dX12_close_155 ⟨by decide, by decide⟩ ?_
            refine sx_istore dX12_close_156 (by decide) ?_
            refine sx_iload_n dX12_close_158 rfl ?_
            refine sx_bipush dX12_close_159 ⟨by decide, by decide, by decide⟩ ?_
            refine sx_icmp_ne (tgt := 181) dX12_close_161 (by decide) (fun c43 => ?_) (fun c43 => ?_)
            ·
              exact absurd c43 (by decide)
            ·
              refine sx_iconst dX12_close_164 ⟨by decide, by decide⟩ ?_
              refine sx_aload_n dX12_close_165 rfl ?_
              refine sx_getS (k := 50) (t := 260) cl_12 fl_X12_121 dX12_close_166 s_224 (by decide) rfl (by decide) ?_
              refine sx_aload_n dX12_close_169 rfl ?_
              refine sx_getI (k := 55) cl_12 fl_X12_397 dX12_close_170 s_224 (by decide) rfl (by decide) ?_
              refine sx_iaload dX12_close_173 s_260 (by decide) (by decide) ⟨by omega, by omega⟩ ?_
              refine sx_iload dX12_close_174 rfl ?_
              refine sx_imul dX12_close_176 ?_
              refine sx_iadd dX12_close_177 ?_
              refine sx_goto (tgt := 195) dX12_close_178 (by decide) ?_
              refine sy_top (fun v44 ev44 => ?_)
              refine sx_istore dX12_close_195 (by decide) ?_
              refine sx_aload_n dX12_close_197 rfl ?_
              refine sx_dupr dX12_close_198 ?_
              refine sx_getI (k := 55) cl_12 fl_X12_397 dX12_close_199 s_224 (by decide) rfl (by decide) ?_
              refine sx_iconst dX12_close_202 ⟨by decide, by decide⟩ ?_
              refine sx_isub dX12_close_203 ?_
              refine sy_topw (by omega) ?_
              refine sy_putI (k := 55) cl_12 fl_X12_397 dX12_close_204 s_224 (by decide) rfl (by decide) rfl rfl (fun h45 eh45 => ?_)
              have Ih45 := Ih41.up eh45 trivial rfl
              have th45_224_51 := eh45.2 (224) 51 (by decide)
              have th45_224_52 := eh45.2 (224) 52 (by decide)
              have th45_224_53 := eh45.2 (224) 53 (by decide)
              have th45_224_54 := eh45.2 (224) 54 (by decide)
              have th45_224_55 := eh45.1
              have th45_224_56 := eh45.2 (224) 56 (by decide)
              have th45_224_57 := eh45.2 (224) 57 (by decide)
              refine sx_aload_n dX12_close_207 rfl ?_
              refine sx_getS (k := 49) (t := 259) cl_12 fl_X12_118 dX12_close_208 s_224 (by decide) rfl (by decide) ?_
              refine sx_aload_n dX12_close_211 rfl ?_
              refine sx_getI (k := 55) cl_12 fl_X12_397 dX12_close_212 s_224 (by decide) rfl (by decide) ?_
              refine sx_dup2 dX12_close_215 ?_
              refine sx_iaload dX12_close_216 s_259 (by decide) (by decide) ⟨by omega, by omega⟩ ?_
              refine sx_iload dX12_close_217 rfl ?_
              refine sx_iadd dX12_close_219 ?_
              refine sy_iastore dX12_close_220 s_259 (by decide) (by decide) ⟨by omega, by omega⟩ (fun h46 eh46 => ?_)
              have Ih46 := Ih45.up eh46 trivial rfl
              have th46_224_51 := eh46.2 (224) 51 (by omega)
              have th46_224_52 := eh46.2 (224) 52 (by omega)
              have th46_224_53 := eh46.2 (224) 53 (by omega)
              have th46_224_54 := eh46.2 (224) 54 (by omega)
              have th46_224_55 := eh46.2 (224) 55 (by omega)
              have th46_224_56 := eh46.2 (224) 56 (by omega)
              have th46_224_57 := eh46.2 (224) 57 (by omega)
              refine sx_iload dX12_close_221 rfl ?_
              refine sx_if_eq (tgt := 233) dX12_close_223 (by decide) (fun c47 => ?_) (fun c47 => ?_)
              ·
                refine sx_bipush dX12_close_233 ⟨by decide, by decide, by decide⟩ ?_
                refine sx_ireturn dX12_close_235 ?_
                exact ⟨_, rfl, ⟨Ih46, by omega, by omega, fun k => by rw [eh46.2 243 k (by omega), eh45.2 243 k (by omega), eh41.at 243 k, eh39.at 243 k]; simp only [Nat.reduceEqDiff, false_and, if_false, true_and]; rw [eo]; by_cases q1 : (k : Int) = y2; (rw [if_pos (by omega), if_pos q1]); (rw [if_neg (by omega), if_neg q1]; by_cases q2 : (k : Int) = h0 253 (h0 224 55).toNat; (rw [if_pos (by omega), if_pos q2]); (rw [if_neg (by omega), if_neg q2]))⟩⟩
              ·
                exact absurd c47 (by decide)
          ·
            refine sx_aload_n dX12_close_142 rfl ?_
            refine sx_getI (k := 54) cl_12 fl_X12_400 dX12_close_143 s_224 (by decide) rfl (by decide) ?_
            refine sx_iload dX12_close_146 rfl ?_
            refine sx_icmp_ne (tgt := 155) dX12_close_148 (by decide) (fun c48 => ?_) (fun c48 => ?_)
            ·
              refine sx_iconst dX12_close_155 ⟨by decide, by decide⟩ ?_
              refine sx_istore dX12_close_156 (by decide) ?_
              refine sx_iload_n dX12_close_158 rfl ?_
              refine sx_bipush dX12_close_159 ⟨by decide, by decide, by decide⟩ ?_
              refine sx_icmp_ne (tgt := 181) dX12_close_161 (by decide) (fun c49 => ?_) (fun c49 => ?_)
              ·
                exact absurd c49 (by decide)
              ·
                refine sx_iconst dX12_close_164 ⟨by decide, by decide⟩ ?_
                refine sx_aload_n dX12_close_165 rfl ?_
                refine sx_getS (k := 50) (t := 260) cl_12 fl_X12_121 dX12_close_166 s_224 (by decide) rfl (by decide) ?_
                refine sx_aload_n dX12_close_169 rfl ?_
                refine sx_getI (k := 55) cl_12 fl_X12_397 dX12_close_170 s_224 (by decide) rfl (by decide) ?_
                refine sx_iaload dX12_close_173 s_260 (by decide) (by decide) ⟨by omega, by omega⟩ ?_
                refine sx_iload dX12_close_174 rfl ?_
                refine sx_imul dX12_close_176 ?_
                refine sx_iadd dX12_close_177 ?_
                refine sx_goto (tgt := 195) dX12_close_178 (by decide) ?_
                refine sy_top (fun v50 ev50 => ?_)
                refine sx_istore dX12_close_195 (by decide) ?_
                refine sx_aload_n dX12_close_197 rfl ?_
                refine sx_dupr dX12_close_198 ?_
                refine sx_getI (k := 55) cl_12 fl_X12_397 dX12_close_199 s_224 (by decide) rfl (by decide) ?_
                refine sx_iconst dX12_close_202 ⟨by decide, by decide⟩ ?_
                refine sx_isub dX12_close_203 ?_
                refine sy_topw (by omega) ?_
                refine sy_putI (k := 55) cl_12 fl_X12_397 dX12_close_204 s_224 (by decide) rfl (by decide) rfl rfl (fun h51 eh51 => ?_)
                have Ih51 := Ih41.up eh51 trivial rfl
                have th51_224_51 := eh51.2 (224) 51 (by decide)
                have th51_224_52 := eh51.2 (224) 52 (by decide)
                have th51_224_53 := eh51.2 (224) 53 (by decide)
                have th51_224_54 := eh51.2 (224) 54 (by decide)
                have th51_224_55 := eh51.1
                have th51_224_56 := eh51.2 (224) 56 (by decide)
                have th51_224_57 := eh51.2 (224) 57 (by decide)
                refine sx_aload_n dX12_close_207 rfl ?_
                refine sx_getS (k := 49) (t := 259) cl_12 fl_X12_118 dX12_close_208 s_224 (by decide) rfl (by decide) ?_
                refine sx_aload_n dX12_close_211 rfl ?_
                refine sx_getI (k := 55) cl_12 fl_X12_397 dX12_close_212 s_224 (by decide) rfl (by decide) ?_
                refine sx_dup2 dX12_close_215 ?_
                refine sx_iaload dX12_close_216 s_259 (by decide) (by decide) ⟨by omega, by omega⟩ ?_
                refine sx_iload dX12_close_217 rfl ?_
                refine sx_iadd dX12_close_219 ?_
                refine sy_iastore dX12_close_220 s_259 (by decide) (by decide) ⟨by omega, by omega⟩ (fun h52 eh52 => ?_)
                have Ih52 := Ih51.up eh52 trivial rfl
                have th52_224_51 := eh52.2 (224) 51 (by omega)
                have th52_224_52 := eh52.2 (224) 52 (by omega)
                have th52_224_53 := eh52.2 (224) 53 (by omega)
                have th52_224_54 := eh52.2 (224) 54 (by omega)
                have th52_224_55 := eh52.2 (224) 55 (by omega)
                have th52_224_56 := eh52.2 (224) 56 (by omega)
                have th52_224_57 := eh52.2 (224) 57 (by omega)
                refine sx_iload dX12_close_221 rfl ?_
                refine sx_if_eq (tgt := 233) dX12_close_223 (by decide) (fun c53 => ?_) (fun c53 => ?_)
                ·
                  refine sx_bipush dX12_close_233 ⟨by decide, by decide, by decide⟩ ?_
                  refine sx_ireturn dX12_close_235 ?_
                  exact ⟨_, rfl, ⟨Ih52, by omega, by omega, fun k => by rw [eh52.2 243 k (by omega), eh51.2 243 k (by omega), eh41.at 243 k, eh39.at 243 k]; simp only [Nat.reduceEqDiff, false_and, if_false, true_and]; rw [eo]; by_cases q1 : (k : Int) = y2; (rw [if_pos (by omega), if_pos q1]); (rw [if_neg (by omega), if_neg q1]; by_cases q2 : (k : Int) = h0 253 (h0 224 55).toNat; (rw [if_pos (by omega), if_pos q2]); (rw [if_neg (by omega), if_neg q2]))⟩⟩
                ·
                  exact absurd c53 (by decide)
            ·
              refine sx_iconst dX12_close_151 ⟨by decide, by decide⟩ ?_
              refine sx_goto (tgt := 156) dX12_close_152 (by decide) ?_
              refine sx_istore dX12_close_156 (by decide) ?_
              refine sx_iload_n dX12_close_158 rfl ?_
              refine sx_bipush dX12_close_159 ⟨by decide, by decide, by decide⟩ ?_
              refine sx_icmp_ne (tgt := 181) dX12_close_161 (by decide) (fun c54 => ?_) (fun c54 => ?_)
              ·
                exact absurd c54 (by decide)
              ·
                refine sx_iconst dX12_close_164 ⟨by decide, by decide⟩ ?_
                refine sx_aload_n dX12_close_165 rfl ?_
                refine sx_getS (k := 50) (t := 260) cl_12 fl_X12_121 dX12_close_166 s_224 (by decide) rfl (by decide) ?_
                refine sx_aload_n dX12_close_169 rfl ?_
                refine sx_getI (k := 55) cl_12 fl_X12_397 dX12_close_170 s_224 (by decide) rfl (by decide) ?_
                refine sx_iaload dX12_close_173 s_260 (by decide) (by decide) ⟨by omega, by omega⟩ ?_
                refine sx_iload dX12_close_174 rfl ?_
                refine sx_imul dX12_close_176 ?_
                refine sx_iadd dX12_close_177 ?_
                refine sx_goto (tgt := 195) dX12_close_178 (by decide) ?_
                refine sy_top (fun v55 ev55 => ?_)
                refine sx_istore dX12_close_195 (by decide) ?_
                refine sx_aload_n dX12_close_197 rfl ?_
                refine sx_dupr dX12_close_198 ?_
                refine sx_getI (k := 55) cl_12 fl_X12_397 dX12_close_199 s_224 (by decide) rfl (by decide) ?_
                refine sx_iconst dX12_close_202 ⟨by decide, by decide⟩ ?_
                refine sx_isub dX12_close_203 ?_
                refine sy_topw (by omega) ?_
                refine sy_putI (k := 55) cl_12 fl_X12_397 dX12_close_204 s_224 (by decide) rfl (by decide) rfl rfl (fun h56 eh56 => ?_)
                have Ih56 := Ih41.up eh56 trivial rfl
                have th56_224_51 := eh56.2 (224) 51 (by decide)
                have th56_224_52 := eh56.2 (224) 52 (by decide)
                have th56_224_53 := eh56.2 (224) 53 (by decide)
                have th56_224_54 := eh56.2 (224) 54 (by decide)
                have th56_224_55 := eh56.1
                have th56_224_56 := eh56.2 (224) 56 (by decide)
                have th56_224_57 := eh56.2 (224) 57 (by decide)
                refine sx_aload_n dX12_close_207 rfl ?_
                refine sx_getS (k := 49) (t := 259) cl_12 fl_X12_118 dX12_close_208 s_224 (by decide) rfl (by decide) ?_
                refine sx_aload_n dX12_close_211 rfl ?_
                refine sx_getI (k := 55) cl_12 fl_X12_397 dX12_close_212 s_224 (by decide) rfl (by decide) ?_
                refine sx_dup2 dX12_close_215 ?_
                refine sx_iaload dX12_close_216 s_259 (by decide) (by decide) ⟨by omega, by omega⟩ ?_
                refine sx_iload dX12_close_217 rfl ?_
                refine sx_iadd dX12_close_219 ?_
                refine sy_iastore dX12_close_220 s_259 (by decide) (by decide) ⟨by omega, by omega⟩ (fun h57 eh57 => ?_)
                have Ih57 := Ih56.up eh57 trivial rfl
                have th57_224_51 := eh57.2 (224) 51 (by omega)
                have th57_224_52 := eh57.2 (224) 52 (by omega)
                have th57_224_53 := eh57.2 (224) 53 (by omega)
                have th57_224_54 := eh57.2 (224) 54 (by omega)
                have th57_224_55 := eh57.2 (224) 55 (by omega)
                have th57_224_56 := eh57.2 (224) 56 (by omega)
                have th57_224_57 := eh57.2 (224) 57 (by omega)
                refine sx_iload dX12_close_221 rfl ?_
                refine sx_if_eq (tgt := 233) dX12_close_223 (by decide) (fun c58 => ?_) (fun c58 => ?_)
                ·
                  exact absurd c58 (by decide)
                ·
                  refine sx_aload_n dX12_close_226 rfl ?_
                  refine sx_callVi lk_X12_440 cl_12 s_224 (by decide) dX12_close_227 (vs := []) rfl rfl (Nat.le_of_ble_eq_true rfl) (Nat.le_of_ble_eq_true rfl) rfl (c_X12_tooFar _ Ih57.1) (fun x60 h59 ph59 => ?_)
                  obtain ⟨rfl, p_x60⟩ := ph59
                  refine sx_goto (tgt := 235) dX12_close_230 (by decide) ?_
                  refine sx_ireturn dX12_close_235 ?_
                  exact ⟨_, rfl, ⟨Ih57, by omega, by omega, fun k => by rw [eh57.2 243 k (by omega), eh56.2 243 k (by omega), eh41.at 243 k, eh39.at 243 k]; simp only [Nat.reduceEqDiff, false_and, if_false, true_and]; rw [eo]; by_cases q1 : (k : Int) = y2; (rw [if_pos (by omega), if_pos q1]); (rw [if_neg (by omega), if_neg q1]; by_cases q2 : (k : Int) = h0 253 (h0 224 55).toNat; (rw [if_pos (by omega), if_pos q2]); (rw [if_neg (by omega), if_neg q2]))⟩⟩

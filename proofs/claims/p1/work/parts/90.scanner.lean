set_option maxRecDepth 20000 in
set_option maxHeartbeats 4000000 in
theorem c_X5_goesOn {G : sw_G} (d : Nat) {h0 : sw_H} (hJ : cJ h0)  : sw_E G NH SH (d) mX5_goesOn 0 [some (sw_r 34)] [] h0 (sw_Qz (fun z h' => h0 = h')) := by
  have hI : cK prC h0 h0 := cK.refl hJ
  refine sx_aload_n dX5_goesOn_0 rfl ?_
  refine sx_getI (k := 7) cl_5 fl_X5_31 dX5_goesOn_1 s_34 (by decide) rfl (by decide) ?_
  refine sx_if_ne (tgt := 18) dX5_goesOn_4 (by decide) (fun c1 => ?_) (fun c1 => ?_)
  ·
    refine sx_iconst dX5_goesOn_18 ⟨by decide, by decide⟩ ?_
    refine sx_ireturn dX5_goesOn_19 ?_
    exact ⟨_, rfl, by omega, rfl⟩
  ·
    refine sx_aload_n dX5_goesOn_7 rfl ?_
    refine sx_getI (k := 4) cl_5 fl_X5_37 dX5_goesOn_8 s_34 (by decide) rfl (by decide) ?_
    refine sx_if_eq (tgt := 18) dX5_goesOn_11 (by decide) (fun c2 => ?_) (fun c2 => ?_)
    ·
      refine sx_iconst dX5_goesOn_18 ⟨by decide, by decide⟩ ?_
      refine sx_ireturn dX5_goesOn_19 ?_
      exact ⟨_, rfl, by omega, rfl⟩
    ·
      refine sx_iconst dX5_goesOn_14 ⟨by decide, by decide⟩ ?_
      refine sx_goto (tgt := 19) dX5_goesOn_15 (by decide) ?_
      refine sx_ireturn dX5_goesOn_19 ?_
      exact ⟨_, rfl, by omega, rfl⟩
set_option maxRecDepth 20000 in
set_option maxHeartbeats 4000000 in
theorem c_X5_isSign {G : sw_G} (d : Nat) {h0 : sw_H} (hJ : cJ h0) (c : Int) : sw_E G NH SH (d) mX5_isSign 0 [some (sw_r 34), some (sw_i c)] [] h0 (sw_Qz (fun z h' => h0 = h')) := by
  have hI : cK prC h0 h0 := cK.refl hJ
  refine sx_aload_n dX5_isSign_0 rfl ?_
  refine sx_getI (k := 4) cl_5 fl_X5_37 dX5_isSign_1 s_34 (by decide) rfl (by decide) ?_
  refine sx_iconst dX5_isSign_4 ⟨by decide, by decide⟩ ?_
  refine sx_icmp_ne (tgt := 20) dX5_isSign_5 (by decide) (fun c1 => ?_) (fun c1 => ?_)
  ·
    refine sx_iconst dX5_isSign_20 ⟨by decide, by decide⟩ ?_
    refine sx_ireturn dX5_isSign_21 ?_
    exact ⟨_, rfl, by omega, rfl⟩
  ·
    refine sx_aload_n dX5_isSign_8 rfl ?_
    refine sx_getI (k := 5) cl_5 fl_X5_40 dX5_isSign_9 s_34 (by decide) rfl (by decide) ?_
    refine sx_iload_n dX5_isSign_12 rfl ?_
    refine sx_icmp_ne (tgt := 20) dX5_isSign_13 (by decide) (fun c2 => ?_) (fun c2 => ?_)
    ·
      refine sx_iconst dX5_isSign_20 ⟨by decide, by decide⟩ ?_
      refine sx_ireturn dX5_isSign_21 ?_
      exact ⟨_, rfl, by omega, rfl⟩
    ·
      refine sx_iconst dX5_isSign_16 ⟨by decide, by decide⟩ ?_
      refine sx_goto (tgt := 21) dX5_isSign_17 (by decide) ?_
      refine sx_ireturn dX5_isSign_21 ?_
      exact ⟨_, rfl, by omega, rfl⟩
set_option maxRecDepth 20000 in
set_option maxHeartbeats 4000000 in
theorem c_X5_isKey {G : sw_G} (d : Nat) {h0 : sw_H} (hJ : cJ h0) (c : Int) : sw_E G NH SH (d) mX5_isKey 0 [some (sw_r 34), some (sw_i c)] [] h0 (sw_Qz (fun z h' => h0 = h')) := by
  have hI : cK prC h0 h0 := cK.refl hJ
  refine sx_aload_n dX5_isKey_0 rfl ?_
  refine sx_getI (k := 4) cl_5 fl_X5_37 dX5_isKey_1 s_34 (by decide) rfl (by decide) ?_
  refine sx_iconst dX5_isKey_4 ⟨by decide, by decide⟩ ?_
  refine sx_icmp_ne (tgt := 20) dX5_isKey_5 (by decide) (fun c1 => ?_) (fun c1 => ?_)
  ·
    refine sx_iconst dX5_isKey_20 ⟨by decide, by decide⟩ ?_
    refine sx_ireturn dX5_isKey_21 ?_
    exact ⟨_, rfl, by omega, rfl⟩
  ·
    refine sx_aload_n dX5_isKey_8 rfl ?_
    refine sx_getI (k := 5) cl_5 fl_X5_40 dX5_isKey_9 s_34 (by decide) rfl (by decide) ?_
    refine sx_iload_n dX5_isKey_12 rfl ?_
    refine sx_icmp_ne (tgt := 20) dX5_isKey_13 (by decide) (fun c2 => ?_) (fun c2 => ?_)
    ·
      refine sx_iconst dX5_isKey_20 ⟨by decide, by decide⟩ ?_
      refine sx_ireturn dX5_isKey_21 ?_
      exact ⟨_, rfl, by omega, rfl⟩
    ·
      refine sx_iconst dX5_isKey_16 ⟨by decide, by decide⟩ ?_
      refine sx_goto (tgt := 21) dX5_isKey_17 (by decide) ?_
      refine sx_ireturn dX5_isKey_21 ?_
      exact ⟨_, rfl, by omega, rfl⟩
set_option maxRecDepth 20000 in
set_option maxHeartbeats 4000000 in
theorem c_X5_fail {G : sw_G} (d : Nat) {h0 : sw_H} (hJ : cJ h0) (n : Int) : sw_E G NH SH (d) mX5_fail 0 [some (sw_r 34), some (sw_i n)] [] h0 (sw_Qv (fun h' => cK prC h0 h' ∧ (n ≠ 0 → h' 34 7 ≠ 0))) := by
  have hI : cK prC h0 h0 := cK.refl hJ
  refine sx_aload_n dX5_fail_0 rfl ?_
  refine sx_getI (k := 7) cl_5 fl_X5_31 dX5_fail_1 s_34 (by decide) rfl (by decide) ?_
  refine sx_if_ne (tgt := 20) dX5_fail_4 (by decide) (fun c1 => ?_) (fun c1 => ?_)
  ·
    refine sx_ret dX5_fail_20 ?_
    exact ⟨rfl, ⟨hI, fun q => by omega⟩⟩
  ·
    refine sx_aload_n dX5_fail_7 rfl ?_
    refine sx_iload_n dX5_fail_8 rfl ?_
    refine sy_putI (k := 7) cl_5 fl_X5_31 dX5_fail_9 s_34 (by decide) rfl (by decide) rfl rfl (fun h2 eh2 => ?_)
    have Ih2 := hI.up eh2 trivial rfl rfl
    have th2_34_7 := eh2.1
    refine sx_aload_n dX5_fail_12 rfl ?_
    refine sx_aload_n dX5_fail_13 rfl ?_
    refine sx_getI (k := 3) cl_5 fl_X5_43 dX5_fail_14 s_34 (by decide) rfl (by decide) ?_
    have r3 : (0 : Int) ≤ h2 34 3 ∧ h2 34 3 ≤ 1600 := Ih2.1.1 34 3
    refine sy_putI (k := 8) cl_5 fl_X5_15 dX5_fail_17 s_34 (by decide) rfl (by decide) rfl rfl (fun h4 eh4 => ?_)
    have Ih4 := Ih2.up eh4 trivial rfl rfl
    have th4_34_7 := eh4.2 (34) 7 (by decide)
    refine sx_ret dX5_fail_20 ?_
    exact ⟨rfl, ⟨Ih4, fun q => by omega⟩⟩
set_option maxRecDepth 20000 in
set_option maxHeartbeats 4000000 in
theorem c_X5_refuse {G : sw_G} (d : Nat) {h0 : sw_H} (hJ : cJ h0)  : sw_E G NH SH (d + 1) mX5_refuse 0 [some (sw_r 34)] [] h0 (sw_Qv (fun h' => cK prC h0 h' ∧ h' 34 7 ≠ 0)) := by
  have hI : cK prC h0 h0 := cK.refl hJ
  refine sx_aload_n dX5_refuse_0 rfl ?_
  refine sx_aload_n dX5_refuse_1 rfl ?_
  refine sx_getI (k := 4) cl_5 fl_X5_37 dX5_refuse_2 s_34 (by decide) rfl (by decide) ?_
  refine sx_iconst dX5_refuse_5 ⟨by decide, by decide⟩ ?_
  refine sx_icmp_ne (tgt := 13) dX5_refuse_6 (by decide) (fun c1 => ?_) (fun c1 => ?_)
  ·
    refine sx_iconst dX5_refuse_13 ⟨by decide, by decide⟩ ?_
    refine sx_callVv lk_X5_46 cl_5 s_34 (by decide) dX5_refuse_14 (vs := [_]) rfl rfl (Nat.le_of_ble_eq_true rfl) (Nat.le_of_ble_eq_true rfl) rfl (c_X5_fail _ hI.1 _) (fun h2 ph2 => ?_)
    obtain ⟨Kh2, f_h2⟩ := ph2
    have Ih2 := hI.tr Kh2 sb_prC_prC
    refine sx_ret dX5_refuse_17 ?_
    exact ⟨rfl, ⟨Ih2, by omega⟩⟩
  ·
    refine sx_iconst dX5_refuse_9 ⟨by decide, by decide⟩ ?_
    refine sx_goto (tgt := 14) dX5_refuse_10 (by decide) ?_
    refine sx_callVv lk_X5_46 cl_5 s_34 (by decide) dX5_refuse_14 (vs := [_]) rfl rfl (Nat.le_of_ble_eq_true rfl) (Nat.le_of_ble_eq_true rfl) rfl (c_X5_fail _ hI.1 _) (fun h4 ph4 => ?_)
    obtain ⟨Kh4, f_h4⟩ := ph4
    have Ih4 := hI.tr Kh4 sb_prC_prC
    refine sx_ret dX5_refuse_17 ?_
    exact ⟨rfl, ⟨Ih4, by omega⟩⟩
set_option maxRecDepth 20000 in
set_option maxHeartbeats 4000000 in
theorem c_X5_require {G : sw_G} (d : Nat) {h0 : sw_H} (hJ : cJ h0) (n : Int) : sw_E G NH SH (d + 2) mX5_require 0 [some (sw_r 34), some (sw_i n)] [] h0 (sw_Qv (fun h' => cK prC h0 h')) := by
  have hI : cK prC h0 h0 := cK.refl hJ
  refine sx_aload_n dX5_require_0 rfl ?_
  refine sx_iload_n dX5_require_1 rfl ?_
  refine sx_callVz lk_X5_50 cl_5 s_34 (by decide) dX5_require_2 (vs := [_]) rfl rfl (Nat.le_of_ble_eq_true rfl) (Nat.le_of_ble_eq_true rfl) rfl (c_X5_isSign _ hI.1 _) (fun x2 h1 zx2 ph1 => ?_)
  subst ph1
  refine sx_if_ne (tgt := 12) dX5_require_5 (by decide) (fun c3 => ?_) (fun c3 => ?_)
  ·
    refine sx_ret dX5_require_12 ?_
    exact ⟨rfl, hI⟩
  ·
    refine sx_aload_n dX5_require_8 rfl ?_
    refine sx_callVv lk_X5_54 cl_5 s_34 (by decide) dX5_require_9 (vs := []) rfl rfl (Nat.le_of_ble_eq_true rfl) (Nat.le_of_ble_eq_true rfl) rfl (c_X5_refuse _ hI.1) (fun h4 ph4 => ?_)
    obtain ⟨Kh4, f_h4⟩ := ph4
    have Ih4 := hI.tr Kh4 sb_prC_prC
    refine sx_ret dX5_require_12 ?_
    exact ⟨rfl, Ih4⟩
set_option maxRecDepth 20000 in
set_option maxHeartbeats 4000000 in
theorem c_X5_isLetterAt {G : sw_G} (d : Nat) {h0 : sw_H} (hJ : cJ h0) (i : Int) (hi : 0 ≤ i ∧ i < 1600) : sw_E G NH SH (d) mX5_isLetterAt 0 [some (sw_r 34), some (sw_i i)] [] h0 (sw_Qz (fun z h' => h0 = h')) := by
  have hI : cK prC h0 h0 := cK.refl hJ
  refine sx_aload_n dX5_isLetterAt_0 rfl ?_
  refine sx_getS (k := 0) (t := 35) cl_5 fl_X5_9 dX5_isLetterAt_1 s_34 (by decide) rfl (by decide) ?_
  refine sx_iload_n dX5_isLetterAt_4 rfl ?_
  refine sx_baload dX5_isLetterAt_5 s_35 (by decide) (by decide) ⟨by omega, by omega⟩ (fun b1 b2 => ?_)
  refine sx_bipush dX5_isLetterAt_6 ⟨by decide, by decide, by decide⟩ ?_
  refine sx_icmp_lt (tgt := 26) dX5_isLetterAt_8 (by decide) (fun c3 => ?_) (fun c3 => ?_)
  ·
    refine sx_iconst dX5_isLetterAt_26 ⟨by decide, by decide⟩ ?_
    refine sx_ireturn dX5_isLetterAt_27 ?_
    exact ⟨_, rfl, by omega, rfl⟩
  ·
    refine sx_aload_n dX5_isLetterAt_11 rfl ?_
    refine sx_getS (k := 0) (t := 35) cl_5 fl_X5_9 dX5_isLetterAt_12 s_34 (by decide) rfl (by decide) ?_
    refine sx_iload_n dX5_isLetterAt_15 rfl ?_
    refine sx_baload dX5_isLetterAt_16 s_35 (by decide) (by decide) ⟨by omega, by omega⟩ (fun b4 b5 => ?_)
    refine sx_bipush dX5_isLetterAt_17 ⟨by decide, by decide, by decide⟩ ?_
    refine sx_icmp_gt (tgt := 26) dX5_isLetterAt_19 (by decide) (fun c6 => ?_) (fun c6 => ?_)
    ·
      refine sx_iconst dX5_isLetterAt_26 ⟨by decide, by decide⟩ ?_
      refine sx_ireturn dX5_isLetterAt_27 ?_
      exact ⟨_, rfl, by omega, rfl⟩
    ·
      refine sx_iconst dX5_isLetterAt_22 ⟨by decide, by decide⟩ ?_
      refine sx_goto (tgt := 27) dX5_isLetterAt_23 (by decide) ?_
      refine sx_ireturn dX5_isLetterAt_27 ?_
      exact ⟨_, rfl, by omega, rfl⟩
set_option maxRecDepth 20000 in
set_option maxHeartbeats 4000000 in
theorem c_X5_isDigitAt {G : sw_G} (d : Nat) {h0 : sw_H} (hJ : cJ h0) (i : Int) (hi : 0 ≤ i ∧ i < 1600) : sw_E G NH SH (d) mX5_isDigitAt 0 [some (sw_r 34), some (sw_i i)] [] h0 (sw_Qz (fun z h' => h0 = h')) := by
  have hI : cK prC h0 h0 := cK.refl hJ
  refine sx_aload_n dX5_isDigitAt_0 rfl ?_
  refine sx_getS (k := 0) (t := 35) cl_5 fl_X5_9 dX5_isDigitAt_1 s_34 (by decide) rfl (by decide) ?_
  refine sx_iload_n dX5_isDigitAt_4 rfl ?_
  refine sx_baload dX5_isDigitAt_5 s_35 (by decide) (by decide) ⟨by omega, by omega⟩ (fun b1 b2 => ?_)
  refine sx_bipush dX5_isDigitAt_6 ⟨by decide, by decide, by decide⟩ ?_
  refine sx_icmp_lt (tgt := 26) dX5_isDigitAt_8 (by decide) (fun c3 => ?_) (fun c3 => ?_)
  ·
    refine sx_iconst dX5_isDigitAt_26 ⟨by decide, by decide⟩ ?_
    refine sx_ireturn dX5_isDigitAt_27 ?_
    exact ⟨_, rfl, by omega, rfl⟩
  ·
    refine sx_aload_n dX5_isDigitAt_11 rfl ?_
    refine sx_getS (k := 0) (t := 35) cl_5 fl_X5_9 dX5_isDigitAt_12 s_34 (by decide) rfl (by decide) ?_
    refine sx_iload_n dX5_isDigitAt_15 rfl ?_
    refine sx_baload dX5_isDigitAt_16 s_35 (by decide) (by decide) ⟨by omega, by omega⟩ (fun b4 b5 => ?_)
    refine sx_bipush dX5_isDigitAt_17 ⟨by decide, by decide, by decide⟩ ?_
    refine sx_icmp_gt (tgt := 26) dX5_isDigitAt_19 (by decide) (fun c6 => ?_) (fun c6 => ?_)
    ·
      refine sx_iconst dX5_isDigitAt_26 ⟨by decide, by decide⟩ ?_
      refine sx_ireturn dX5_isDigitAt_27 ?_
      exact ⟨_, rfl, by omega, rfl⟩
    ·
      refine sx_iconst dX5_isDigitAt_22 ⟨by decide, by decide⟩ ?_
      refine sx_goto (tgt := 27) dX5_isDigitAt_23 (by decide) ?_
      refine sx_ireturn dX5_isDigitAt_27 ?_
      exact ⟨_, rfl, by omega, rfl⟩
set_option maxRecDepth 20000 in
set_option maxHeartbeats 4000000 in
theorem c_X5_readLetters {G : sw_G} (d : Nat) {h0 : sw_H} (hJ : cJ h0)  : sw_E G NH SH (d + 1) mX5_readLetters 0 [some (sw_r 34)] [] h0 (sw_Qv (fun h' => cK prC h0 h')) := by
  have hI : cK prC h0 h0 := cK.refl hJ
  refine sx_aload_n dX5_readLetters_0 rfl ?_
  refine sx_lconst dX5_readLetters_1 rfl ?_
  refine sy_putL (k := 6) cl_5 fl_X5_81 dX5_readLetters_2 s_34 (by decide) rfl (by decide) rfl rfl (fun h1 eh1 => ?_)
  have Ih1 := hI.up eh1 trivial rfl rfl
  have th1_34_1 := eh1.2 (34) 1 (by decide)
  have th1_34_2 := eh1.2 (34) 2 (by decide)
  refine sx_loop0 (fun (h : sw_H) => (cK prC h0 h)) (fun (h : sw_H) => (1600 - h 34 2).toNat) (fun (h : sw_H) => sw_E G NH SH (d + 1) mX5_readLetters 5 [some (sw_r 34)] [] h (sw_Qv (fun h' => cK prC h0 h'))) ?_ _ ?_
  · rintro h2 Ih2 ihh2
    try dsimp only at ihh2
    refine sx_aload_n dX5_readLetters_5 rfl ?_
    refine sx_getI (k := 2) cl_5 fl_X5_28 dX5_readLetters_6 s_34 (by decide) rfl (by decide) ?_
    have r3 : (0 : Int) ≤ h2 34 2 ∧ h2 34 2 ≤ 1600 := Ih2.1.1 34 2
    refine sx_aload_n dX5_readLetters_9 rfl ?_
    refine sx_getI (k := 1) cl_5 fl_X5_25 dX5_readLetters_10 s_34 (by decide) rfl (by decide) ?_
    have r4 : (0 : Int) ≤ h2 34 1 ∧ h2 34 1 ≤ 1600 := Ih2.1.1 34 1
    refine sx_icmp_ge (tgt := 68) dX5_readLetters_13 (by decide) (fun c5 => ?_) (fun c5 => ?_)
    ·
      refine sx_aload_n dX5_readLetters_68 rfl ?_
      refine sx_aload_n dX5_readLetters_69 rfl ?_
      refine sx_getI (k := 2) cl_5 fl_X5_28 dX5_readLetters_70 s_34 (by decide) rfl (by decide) ?_
      have r6 : (0 : Int) ≤ h2 34 2 ∧ h2 34 2 ≤ 1600 := Ih2.1.1 34 2
      refine sx_aload_n dX5_readLetters_73 rfl ?_
      refine sx_getI (k := 3) cl_5 fl_X5_43 dX5_readLetters_74 s_34 (by decide) rfl (by decide) ?_
      have r7 : (0 : Int) ≤ h2 34 3 ∧ h2 34 3 ≤ 1600 := Ih2.1.1 34 3
      refine sx_isub dX5_readLetters_77 ?_
      refine sx_bipush dX5_readLetters_78 ⟨by decide, by decide, by decide⟩ ?_
      refine sx_icmp_gt (tgt := 87) dX5_readLetters_80 (by decide) (fun c8 => ?_) (fun c8 => ?_)
      ·
        refine sx_iconst dX5_readLetters_87 ⟨by decide, by decide⟩ ?_
        refine sy_putI (k := 4) cl_5 fl_X5_37 dX5_readLetters_88 s_34 (by decide) rfl (by decide) rfl rfl (fun h9 eh9 => ?_)
        have Ih9 := Ih2.up eh9 trivial rfl rfl
        have th9_34_1 := eh9.2 (34) 1 (by decide)
        have th9_34_2 := eh9.2 (34) 2 (by decide)
        refine sx_ret dX5_readLetters_91 ?_
        exact ⟨rfl, Ih9⟩
      ·
        refine sx_iconst dX5_readLetters_83 ⟨by decide, by decide⟩ ?_
        refine sx_goto (tgt := 88) dX5_readLetters_84 (by decide) ?_
        refine sy_putI (k := 4) cl_5 fl_X5_37 dX5_readLetters_88 s_34 (by decide) rfl (by decide) rfl rfl (fun h10 eh10 => ?_)
        have Ih10 := Ih2.up eh10 trivial rfl rfl
        have th10_34_1 := eh10.2 (34) 1 (by decide)
        have th10_34_2 := eh10.2 (34) 2 (by decide)
        refine sx_ret dX5_readLetters_91 ?_
        exact ⟨rfl, Ih10⟩
    ·
      refine sx_aload_n dX5_readLetters_16 rfl ?_
      refine sx_aload_n dX5_readLetters_17 rfl ?_
      refine sx_getI (k := 2) cl_5 fl_X5_28 dX5_readLetters_18 s_34 (by decide) rfl (by decide) ?_
      have r11 : (0 : Int) ≤ h2 34 2 ∧ h2 34 2 ≤ 1600 := Ih2.1.1 34 2
      refine sx_callVz lk_X5_57 cl_5 s_34 (by decide) dX5_readLetters_21 (vs := [_]) rfl rfl (Nat.le_of_ble_eq_true rfl) (Nat.le_of_ble_eq_true rfl) rfl (c_X5_isLetterAt _ Ih2.1 _ (by omega)) (fun x13 h12 zx13 ph12 => ?_)
      subst ph12
      refine sx_if_eq (tgt := 68) dX5_readLetters_24 (by decide) (fun c14 => ?_) (fun c14 => ?_)
      ·
        refine sx_aload_n dX5_readLetters_68 rfl ?_
        refine sx_aload_n dX5_readLetters_69 rfl ?_
        refine sx_getI (k := 2) cl_5 fl_X5_28 dX5_readLetters_70 s_34 (by decide) rfl (by decide) ?_
        have r15 : (0 : Int) ≤ h2 34 2 ∧ h2 34 2 ≤ 1600 := Ih2.1.1 34 2
        refine sx_aload_n dX5_readLetters_73 rfl ?_
        refine sx_getI (k := 3) cl_5 fl_X5_43 dX5_readLetters_74 s_34 (by decide) rfl (by decide) ?_
        have r16 : (0 : Int) ≤ h2 34 3 ∧ h2 34 3 ≤ 1600 := Ih2.1.1 34 3
        refine sx_isub dX5_readLetters_77 ?_
        refine sx_bipush dX5_readLetters_78 ⟨by decide, by decide, by decide⟩ ?_
        refine sx_icmp_gt (tgt := 87) dX5_readLetters_80 (by decide) (fun c17 => ?_) (fun c17 => ?_)
        ·
          refine sx_iconst dX5_readLetters_87 ⟨by decide, by decide⟩ ?_
          refine sy_putI (k := 4) cl_5 fl_X5_37 dX5_readLetters_88 s_34 (by decide) rfl (by decide) rfl rfl (fun h18 eh18 => ?_)
          have Ih18 := Ih2.up eh18 trivial rfl rfl
          have th18_34_1 := eh18.2 (34) 1 (by decide)
          have th18_34_2 := eh18.2 (34) 2 (by decide)
          refine sx_ret dX5_readLetters_91 ?_
          exact ⟨rfl, Ih18⟩
        ·
          refine sx_iconst dX5_readLetters_83 ⟨by decide, by decide⟩ ?_
          refine sx_goto (tgt := 88) dX5_readLetters_84 (by decide) ?_
          refine sy_putI (k := 4) cl_5 fl_X5_37 dX5_readLetters_88 s_34 (by decide) rfl (by decide) rfl rfl (fun h19 eh19 => ?_)
          have Ih19 := Ih2.up eh19 trivial rfl rfl
          have th19_34_1 := eh19.2 (34) 1 (by decide)
          have th19_34_2 := eh19.2 (34) 2 (by decide)
          refine sx_ret dX5_readLetters_91 ?_
          exact ⟨rfl, Ih19⟩
      ·
        refine sx_aload_n dX5_readLetters_27 rfl ?_
        refine sx_aload_n dX5_readLetters_28 rfl ?_
        refine sx_getL (k := 6) cl_5 fl_X5_81 dX5_readLetters_29 s_34 (by decide) rfl (by decide) ?_
        refine sx_ldc2 kc_X5_85 ⟨by decide, by decide⟩ dX5_readLetters_32 ?_
        refine sx_lmul dX5_readLetters_35 ?_
        refine sx_aload_n dX5_readLetters_36 rfl ?_
        refine sx_getS (k := 0) (t := 35) cl_5 fl_X5_9 dX5_readLetters_37 s_34 (by decide) rfl (by decide) ?_
        refine sx_aload_n dX5_readLetters_40 rfl ?_
        refine sx_getI (k := 2) cl_5 fl_X5_28 dX5_readLetters_41 s_34 (by decide) rfl (by decide) ?_
        have r20 : (0 : Int) ≤ h2 34 2 ∧ h2 34 2 ≤ 1600 := Ih2.1.1 34 2
        refine sx_baload dX5_readLetters_44 s_35 (by decide) (by decide) ⟨by omega, by omega⟩ (fun b21 b22 => ?_)
        refine sx_bipush dX5_readLetters_45 ⟨by decide, by decide, by decide⟩ ?_
        refine sx_isub dX5_readLetters_47 ?_
        refine sy_topw (by omega) ?_
        refine sx_iconst dX5_readLetters_48 ⟨by decide, by decide⟩ ?_
        refine sx_iadd dX5_readLetters_49 ?_
        refine sy_topw (by omega) ?_
        refine sx_i2l dX5_readLetters_50 ?_
        refine sx_ladd dX5_readLetters_51 ?_
        refine sy_putL (k := 6) cl_5 fl_X5_81 dX5_readLetters_52 s_34 (by decide) rfl (by decide) rfl rfl (fun h23 eh23 => ?_)
        have Ih23 := Ih2.up eh23 trivial rfl rfl
        have th23_34_1 := eh23.2 (34) 1 (by decide)
        have th23_34_2 := eh23.2 (34) 2 (by decide)
        refine sx_aload_n dX5_readLetters_55 rfl ?_
        refine sx_dupr dX5_readLetters_56 ?_
        refine sx_getI (k := 2) cl_5 fl_X5_28 dX5_readLetters_57 s_34 (by decide) rfl (by decide) ?_
        have r24 : (0 : Int) ≤ h23 34 2 ∧ h23 34 2 ≤ 1600 := Ih23.1.1 34 2
        refine sx_iconst dX5_readLetters_60 ⟨by decide, by decide⟩ ?_
        refine sx_iadd dX5_readLetters_61 ?_
        refine sy_topw (by omega) ?_
        refine sy_putI (k := 2) cl_5 fl_X5_28 dX5_readLetters_62 s_34 (by decide) rfl (by decide) rfl rfl (fun h25 eh25 => ?_)
        have Ih25 := Ih23.up eh25 (show (0 : Int) ≤ _ ∧ _ ≤ (1600 : Int) from ⟨by omega, by omega⟩) rfl rfl
        have th25_34_1 := eh25.2 (34) 1 (by decide)
        have th25_34_2 := eh25.1
        refine sx_goto (tgt := 5) dX5_readLetters_65 (by decide) ?_
        exact ihh2 _ Ih25 (by exact sy_dec (by omega) (by omega))
  · exact Ih1
set_option maxRecDepth 20000 in
set_option maxHeartbeats 4000000 in
theorem c_X5_readDigits {G : sw_G} (d : Nat) {h0 : sw_H} (hJ : cJ h0)  : sw_E G NH SH (d + 1) mX5_readDigits 0 [some (sw_r 34), none, none] [] h0 (sw_Qv (fun h' => cK prC h0 h')) := by
  have hI : cK prC h0 h0 := cK.refl hJ
  refine sx_iconst dX5_readDigits_0 ⟨by decide, by decide⟩ ?_
  refine sx_istore_n dX5_readDigits_1 (by decide) ?_
  refine sx_loop1 (fun (h : sw_H) (n : Int) => (cK prC h0 h)) (fun (h : sw_H) (n : Int) => (1600 - h 34 2).toNat) (fun (h : sw_H) (n : Int) => sw_E G NH SH (d + 1) mX5_readDigits 2 [some (sw_r 34), some (sw_i n), none] [] h (sw_Qv (fun h' => cK prC h0 h'))) ?_ _ _ ?_
  · rintro h1 n_2 Ih1 ihh1
    try dsimp only at ihh1
    refine sx_aload_n dX5_readDigits_2 rfl ?_
    refine sx_getI (k := 2) cl_5 fl_X5_28 dX5_readDigits_3 s_34 (by decide) rfl (by decide) ?_
    have r3 : (0 : Int) ≤ h1 34 2 ∧ h1 34 2 ≤ 1600 := Ih1.1.1 34 2
    refine sx_aload_n dX5_readDigits_6 rfl ?_
    refine sx_getI (k := 1) cl_5 fl_X5_25 dX5_readDigits_7 s_34 (by decide) rfl (by decide) ?_
    have r4 : (0 : Int) ≤ h1 34 1 ∧ h1 34 1 ≤ 1600 := Ih1.1.1 34 1
    refine sx_icmp_ge (tgt := 55) dX5_readDigits_10 (by decide) (fun c5 => ?_) (fun c5 => ?_)
    ·
      have J96_n6 : ∀ (g : Int) , sw_E G NH SH (d + 1) mX5_readDigits 96 [some (sw_r 34), some (sw_i n_2), some (sw_i g)] [] h1 (sw_Qv (fun h' => cK prC h0 h')) := by
        intro g_7
        refine sx_aload_n dX5_readDigits_96 rfl ?_
        refine sx_iload_n dX5_readDigits_97 rfl ?_
        refine sx_if_eq (tgt := 105) dX5_readDigits_98 (by decide) (fun c8 => ?_) (fun c8 => ?_)
        ·
          refine sx_iconst dX5_readDigits_105 ⟨by decide, by decide⟩ ?_
          refine sy_putI (k := 4) cl_5 fl_X5_37 dX5_readDigits_106 s_34 (by decide) rfl (by decide) rfl rfl (fun h9 eh9 => ?_)
          have Ih9 := Ih1.up eh9 trivial rfl rfl
          have th9_34_1 := eh9.2 (34) 1 (by decide)
          have th9_34_2 := eh9.2 (34) 2 (by decide)
          refine sx_aload_n dX5_readDigits_109 rfl ?_
          refine sx_iload_n dX5_readDigits_110 rfl ?_
          refine sy_putI (k := 5) cl_5 fl_X5_40 dX5_readDigits_111 s_34 (by decide) rfl (by decide) rfl rfl (fun h10 eh10 => ?_)
          have Ih10 := Ih9.up eh10 trivial rfl rfl
          have th10_34_1 := eh10.2 (34) 1 (by decide)
          have th10_34_2 := eh10.2 (34) 2 (by decide)
          refine sx_ret dX5_readDigits_114 ?_
          exact ⟨rfl, Ih10⟩
        ·
          refine sx_iconst dX5_readDigits_101 ⟨by decide, by decide⟩ ?_
          refine sx_goto (tgt := 106) dX5_readDigits_102 (by decide) ?_
          refine sy_putI (k := 4) cl_5 fl_X5_37 dX5_readDigits_106 s_34 (by decide) rfl (by decide) rfl rfl (fun h11 eh11 => ?_)
          have Ih11 := Ih1.up eh11 trivial rfl rfl
          have th11_34_1 := eh11.2 (34) 1 (by decide)
          have th11_34_2 := eh11.2 (34) 2 (by decide)
          refine sx_aload_n dX5_readDigits_109 rfl ?_
          refine sx_iload_n dX5_readDigits_110 rfl ?_
          refine sy_putI (k := 5) cl_5 fl_X5_40 dX5_readDigits_111 s_34 (by decide) rfl (by decide) rfl rfl (fun h12 eh12 => ?_)
          have Ih12 := Ih11.up eh12 trivial rfl rfl
          have th12_34_1 := eh12.2 (34) 1 (by decide)
          have th12_34_2 := eh12.2 (34) 2 (by decide)
          refine sx_ret dX5_readDigits_114 ?_
          exact ⟨rfl, Ih12⟩
      refine sx_aload_n dX5_readDigits_55 rfl ?_
      refine sx_getI (k := 2) cl_5 fl_X5_28 dX5_readDigits_56 s_34 (by decide) rfl (by decide) ?_
      have r13 : (0 : Int) ≤ h1 34 2 ∧ h1 34 2 ≤ 1600 := Ih1.1.1 34 2
      refine sx_aload_n dX5_readDigits_59 rfl ?_
      refine sx_getI (k := 3) cl_5 fl_X5_43 dX5_readDigits_60 s_34 (by decide) rfl (by decide) ?_
      have r14 : (0 : Int) ≤ h1 34 3 ∧ h1 34 3 ≤ 1600 := Ih1.1.1 34 3
      refine sx_isub dX5_readDigits_63 ?_
      refine sx_iconst dX5_readDigits_64 ⟨by decide, by decide⟩ ?_
      refine sx_icmp_gt (tgt := 94) dX5_readDigits_65 (by decide) (fun c15 => ?_) (fun c15 => ?_)
      ·
        refine sx_iconst dX5_readDigits_94 ⟨by decide, by decide⟩ ?_
        refine sx_istore_n dX5_readDigits_95 (by decide) ?_
        exact J96_n6 _ 
      ·
        refine sx_aload_n dX5_readDigits_68 rfl ?_
        refine sx_getI (k := 2) cl_5 fl_X5_28 dX5_readDigits_69 s_34 (by decide) rfl (by decide) ?_
        have r16 : (0 : Int) ≤ h1 34 2 ∧ h1 34 2 ≤ 1600 := Ih1.1.1 34 2
        refine sx_aload_n dX5_readDigits_72 rfl ?_
        refine sx_getI (k := 1) cl_5 fl_X5_25 dX5_readDigits_73 s_34 (by decide) rfl (by decide) ?_
        have r17 : (0 : Int) ≤ h1 34 1 ∧ h1 34 1 ≤ 1600 := Ih1.1.1 34 1
        refine sx_icmp_ge (tgt := 90) dX5_readDigits_76 (by decide) (fun c18 => ?_) (fun c18 => ?_)
        ·
          refine sx_iconst dX5_readDigits_90 ⟨by decide, by decide⟩ ?_
          refine sx_goto (tgt := 95) dX5_readDigits_91 (by decide) ?_
          refine sx_istore_n dX5_readDigits_95 (by decide) ?_
          exact J96_n6 _ 
        ·
          refine sx_aload_n dX5_readDigits_79 rfl ?_
          refine sx_aload_n dX5_readDigits_80 rfl ?_
          refine sx_getI (k := 2) cl_5 fl_X5_28 dX5_readDigits_81 s_34 (by decide) rfl (by decide) ?_
          have r19 : (0 : Int) ≤ h1 34 2 ∧ h1 34 2 ≤ 1600 := Ih1.1.1 34 2
          refine sx_callVz lk_X5_57 cl_5 s_34 (by decide) dX5_readDigits_84 (vs := [_]) rfl rfl (Nat.le_of_ble_eq_true rfl) (Nat.le_of_ble_eq_true rfl) rfl (c_X5_isLetterAt _ Ih1.1 _ (by omega)) (fun x21 h20 zx21 ph20 => ?_)
          subst ph20
          refine sx_if_ne (tgt := 94) dX5_readDigits_87 (by decide) (fun c22 => ?_) (fun c22 => ?_)
          ·
            refine sx_iconst dX5_readDigits_94 ⟨by decide, by decide⟩ ?_
            refine sx_istore_n dX5_readDigits_95 (by decide) ?_
            exact J96_n6 _ 
          ·
            refine sx_iconst dX5_readDigits_90 ⟨by decide, by decide⟩ ?_
            refine sx_goto (tgt := 95) dX5_readDigits_91 (by decide) ?_
            refine sx_istore_n dX5_readDigits_95 (by decide) ?_
            exact J96_n6 _ 
    ·
      refine sx_aload_n dX5_readDigits_13 rfl ?_
      refine sx_aload_n dX5_readDigits_14 rfl ?_
      refine sx_getI (k := 2) cl_5 fl_X5_28 dX5_readDigits_15 s_34 (by decide) rfl (by decide) ?_
      have r23 : (0 : Int) ≤ h1 34 2 ∧ h1 34 2 ≤ 1600 := Ih1.1.1 34 2
      refine sx_callVz lk_X5_67 cl_5 s_34 (by decide) dX5_readDigits_18 (vs := [_]) rfl rfl (Nat.le_of_ble_eq_true rfl) (Nat.le_of_ble_eq_true rfl) rfl (c_X5_isDigitAt _ Ih1.1 _ (by omega)) (fun x25 h24 zx25 ph24 => ?_)
      subst ph24
      refine sx_if_eq (tgt := 55) dX5_readDigits_21 (by decide) (fun c26 => ?_) (fun c26 => ?_)
      ·
        have J96_n27 : ∀ (g : Int) , sw_E G NH SH (d + 1) mX5_readDigits 96 [some (sw_r 34), some (sw_i n_2), some (sw_i g)] [] h1 (sw_Qv (fun h' => cK prC h0 h')) := by
          intro g_28
          refine sx_aload_n dX5_readDigits_96 rfl ?_
          refine sx_iload_n dX5_readDigits_97 rfl ?_
          refine sx_if_eq (tgt := 105) dX5_readDigits_98 (by decide) (fun c29 => ?_) (fun c29 => ?_)
          ·
            refine sx_iconst dX5_readDigits_105 ⟨by decide, by decide⟩ ?_
            refine sy_putI (k := 4) cl_5 fl_X5_37 dX5_readDigits_106 s_34 (by decide) rfl (by decide) rfl rfl (fun h30 eh30 => ?_)
            have Ih30 := Ih1.up eh30 trivial rfl rfl
            have th30_34_1 := eh30.2 (34) 1 (by decide)
            have th30_34_2 := eh30.2 (34) 2 (by decide)
            refine sx_aload_n dX5_readDigits_109 rfl ?_
            refine sx_iload_n dX5_readDigits_110 rfl ?_
            refine sy_putI (k := 5) cl_5 fl_X5_40 dX5_readDigits_111 s_34 (by decide) rfl (by decide) rfl rfl (fun h31 eh31 => ?_)
            have Ih31 := Ih30.up eh31 trivial rfl rfl
            have th31_34_1 := eh31.2 (34) 1 (by decide)
            have th31_34_2 := eh31.2 (34) 2 (by decide)
            refine sx_ret dX5_readDigits_114 ?_
            exact ⟨rfl, Ih31⟩
          ·
            refine sx_iconst dX5_readDigits_101 ⟨by decide, by decide⟩ ?_
            refine sx_goto (tgt := 106) dX5_readDigits_102 (by decide) ?_
            refine sy_putI (k := 4) cl_5 fl_X5_37 dX5_readDigits_106 s_34 (by decide) rfl (by decide) rfl rfl (fun h32 eh32 => ?_)
            have Ih32 := Ih1.up eh32 trivial rfl rfl
            have th32_34_1 := eh32.2 (34) 1 (by decide)
            have th32_34_2 := eh32.2 (34) 2 (by decide)
            refine sx_aload_n dX5_readDigits_109 rfl ?_
            refine sx_iload_n dX5_readDigits_110 rfl ?_
            refine sy_putI (k := 5) cl_5 fl_X5_40 dX5_readDigits_111 s_34 (by decide) rfl (by decide) rfl rfl (fun h33 eh33 => ?_)
            have Ih33 := Ih32.up eh33 trivial rfl rfl
            have th33_34_1 := eh33.2 (34) 1 (by decide)
            have th33_34_2 := eh33.2 (34) 2 (by decide)
            refine sx_ret dX5_readDigits_114 ?_
            exact ⟨rfl, Ih33⟩
        refine sx_aload_n dX5_readDigits_55 rfl ?_
        refine sx_getI (k := 2) cl_5 fl_X5_28 dX5_readDigits_56 s_34 (by decide) rfl (by decide) ?_
        have r34 : (0 : Int) ≤ h1 34 2 ∧ h1 34 2 ≤ 1600 := Ih1.1.1 34 2
        refine sx_aload_n dX5_readDigits_59 rfl ?_
        refine sx_getI (k := 3) cl_5 fl_X5_43 dX5_readDigits_60 s_34 (by decide) rfl (by decide) ?_
        have r35 : (0 : Int) ≤ h1 34 3 ∧ h1 34 3 ≤ 1600 := Ih1.1.1 34 3
        refine sx_isub dX5_readDigits_63 ?_
        refine sx_iconst dX5_readDigits_64 ⟨by decide, by decide⟩ ?_
        refine sx_icmp_gt (tgt := 94) dX5_readDigits_65 (by decide) (fun c36 => ?_) (fun c36 => ?_)
        ·
          refine sx_iconst dX5_readDigits_94 ⟨by decide, by decide⟩ ?_
          refine sx_istore_n dX5_readDigits_95 (by decide) ?_
          exact J96_n27 _ 
        ·
          refine sx_aload_n dX5_readDigits_68 rfl ?_
          refine sx_getI (k := 2) cl_5 fl_X5_28 dX5_readDigits_69 s_34 (by decide) rfl (by decide) ?_
          have r37 : (0 : Int) ≤ h1 34 2 ∧ h1 34 2 ≤ 1600 := Ih1.1.1 34 2
          refine sx_aload_n dX5_readDigits_72 rfl ?_
          refine sx_getI (k := 1) cl_5 fl_X5_25 dX5_readDigits_73 s_34 (by decide) rfl (by decide) ?_
          have r38 : (0 : Int) ≤ h1 34 1 ∧ h1 34 1 ≤ 1600 := Ih1.1.1 34 1
          refine sx_icmp_ge (tgt := 90) dX5_readDigits_76 (by decide) (fun c39 => ?_) (fun c39 => ?_)
          ·
            refine sx_iconst dX5_readDigits_90 ⟨by decide, by decide⟩ ?_
            refine sx_goto (tgt := 95) dX5_readDigits_91 (by decide) ?_
            refine sx_istore_n dX5_readDigits_95 (by decide) ?_
            exact J96_n27 _ 
          ·
            refine sx_aload_n dX5_readDigits_79 rfl ?_
            refine sx_aload_n dX5_readDigits_80 rfl ?_
            refine sx_getI (k := 2) cl_5 fl_X5_28 dX5_readDigits_81 s_34 (by decide) rfl (by decide) ?_
            have r40 : (0 : Int) ≤ h1 34 2 ∧ h1 34 2 ≤ 1600 := Ih1.1.1 34 2
            refine sx_callVz lk_X5_57 cl_5 s_34 (by decide) dX5_readDigits_84 (vs := [_]) rfl rfl (Nat.le_of_ble_eq_true rfl) (Nat.le_of_ble_eq_true rfl) rfl (c_X5_isLetterAt _ Ih1.1 _ (by omega)) (fun x42 h41 zx42 ph41 => ?_)
            subst ph41
            refine sx_if_ne (tgt := 94) dX5_readDigits_87 (by decide) (fun c43 => ?_) (fun c43 => ?_)
            ·
              refine sx_iconst dX5_readDigits_94 ⟨by decide, by decide⟩ ?_
              refine sx_istore_n dX5_readDigits_95 (by decide) ?_
              exact J96_n27 _ 
            ·
              refine sx_iconst dX5_readDigits_90 ⟨by decide, by decide⟩ ?_
              refine sx_goto (tgt := 95) dX5_readDigits_91 (by decide) ?_
              refine sx_istore_n dX5_readDigits_95 (by decide) ?_
              exact J96_n27 _ 
      ·
        refine sx_iload_n dX5_readDigits_24 rfl ?_
        refine sx_bipush dX5_readDigits_25 ⟨by decide, by decide, by decide⟩ ?_
        refine sx_imul dX5_readDigits_27 ?_
        refine sx_aload_n dX5_readDigits_28 rfl ?_
        refine sx_getS (k := 0) (t := 35) cl_5 fl_X5_9 dX5_readDigits_29 s_34 (by decide) rfl (by decide) ?_
        refine sx_aload_n dX5_readDigits_32 rfl ?_
        refine sx_getI (k := 2) cl_5 fl_X5_28 dX5_readDigits_33 s_34 (by decide) rfl (by decide) ?_
        have r44 : (0 : Int) ≤ h1 34 2 ∧ h1 34 2 ≤ 1600 := Ih1.1.1 34 2
        refine sx_baload dX5_readDigits_36 s_35 (by decide) (by decide) ⟨by omega, by omega⟩ (fun b45 b46 => ?_)
        refine sx_bipush dX5_readDigits_37 ⟨by decide, by decide, by decide⟩ ?_
        refine sx_isub dX5_readDigits_39 ?_
        refine sx_iadd dX5_readDigits_40 ?_
        refine sy_top (fun v47 ev47 => ?_)
        refine sx_istore_n dX5_readDigits_41 (by decide) ?_
        refine sx_aload_n dX5_readDigits_42 rfl ?_
        refine sx_dupr dX5_readDigits_43 ?_
        refine sx_getI (k := 2) cl_5 fl_X5_28 dX5_readDigits_44 s_34 (by decide) rfl (by decide) ?_
        have r48 : (0 : Int) ≤ h1 34 2 ∧ h1 34 2 ≤ 1600 := Ih1.1.1 34 2
        refine sx_iconst dX5_readDigits_47 ⟨by decide, by decide⟩ ?_
        refine sx_iadd dX5_readDigits_48 ?_
        refine sy_topw (by omega) ?_
        refine sy_putI (k := 2) cl_5 fl_X5_28 dX5_readDigits_49 s_34 (by decide) rfl (by decide) rfl rfl (fun h49 eh49 => ?_)
        have Ih49 := Ih1.up eh49 (show (0 : Int) ≤ _ ∧ _ ≤ (1600 : Int) from ⟨by omega, by omega⟩) rfl rfl
        have th49_34_1 := eh49.2 (34) 1 (by decide)
        have th49_34_2 := eh49.1
        refine sx_goto (tgt := 2) dX5_readDigits_52 (by decide) ?_
        exact ihh1 _ _ Ih49 (by exact sy_dec (by omega) (by omega))
  · exact hI
set_option maxRecDepth 20000 in
set_option maxHeartbeats 4000000 in
theorem c_X5_keyFrom {G : sw_G} (d : Nat) {h0 : sw_H} (hJ : cJ h0) (a b : Int) (hab : 0 ≤ a ∧ a ≤ 1600 ∧ 0 ≤ b ∧ b ≤ 1600) : sw_E G NH SH (d + 8) mX5_keyFrom 0 [some (sw_r 34), some (sw_i a), some (sw_i b), none, none] [] h0 (sw_Qi (fun z h' => h0 = h')) := by
  have hI : cK prC h0 h0 := cK.refl hJ
  refine sx_iload_n dX5_keyFrom_0 rfl ?_
  refine sx_iload_n dX5_keyFrom_1 rfl ?_
  refine sx_isub dX5_keyFrom_2 ?_
  refine sy_topw (by omega) ?_
  refine sx_iconst dX5_keyFrom_3 ⟨by decide, by decide⟩ ?_
  refine sx_icmp_le (tgt := 9) dX5_keyFrom_4 (by decide) (fun c1 => ?_) (fun c1 => ?_)
  ·
    refine sx_iconst dX5_keyFrom_9 ⟨by decide, by decide⟩ ?_
    refine sx_istore_n dX5_keyFrom_10 (by decide) ?_
    refine sx_loop1 (fun (h : sw_H) (k : Int) => (h0 = h) ∧ (0 ≤ k) ∧ (k ≤ 29)) (fun (h : sw_H) (k : Int) => (30 - k).toNat) (fun (h : sw_H) (k : Int) => sw_E G NH SH (d + 8) mX5_keyFrom 11 [some (sw_r 34), some (sw_i a), some (sw_i b), some (sw_i k), none] [] h (sw_Qi (fun z h' => h0 = h'))) ?_ _ _ ?_
    · rintro h2 k_3 ⟨rfl, j4, j5⟩ ihh2
      try dsimp only at ihh2
      refine sx_iload_n dX5_keyFrom_11 rfl ?_
      refine sx_iconst dX5_keyFrom_12 ⟨by decide, by decide⟩ ?_
      refine sx_iadd dX5_keyFrom_13 ?_
      refine sy_topw (by omega) ?_
      refine sx_iconst dX5_keyFrom_14 ⟨by decide, by decide⟩ ?_
      refine sx_imul dX5_keyFrom_15 ?_
      refine sy_topw (by omega) ?_
      refine sx_ldcs (t := 100003) (by decide) rfl dX5_keyFrom_16 ?_
      refine sx_slen lj_X5_89 (Nat.le_of_ble_eq_true rfl) dX5_keyFrom_18 ?_
      refine sx_icmp_gt (tgt := 90) dX5_keyFrom_21 (by decide) (fun c6 => ?_) (fun c6 => ?_)
      ·
        refine sx_iconst dX5_keyFrom_90 ⟨by decide, by decide⟩ ?_
        refine sx_ireturn dX5_keyFrom_91 ?_
        exact ⟨_, rfl, rfl⟩
      ·
        refine sx_iconst dX5_keyFrom_24 ⟨by decide, by decide⟩ ?_
        refine sx_istore dX5_keyFrom_25 (by decide) ?_
        refine sx_loop1 (fun (h : sw_H) (m : Int) => (h0 = h) ∧ (0 ≤ m) ∧ (m ≤ 5)) (fun (h : sw_H) (m : Int) => (5 - m).toNat) (fun (h : sw_H) (m : Int) => sw_E G NH SH (d + 8) mX5_keyFrom 27 [some (sw_r 34), some (sw_i a), some (sw_i b), some (sw_i k_3), some (sw_i m)] [] h (sw_Qi (fun z h' => h0 = h'))) ?_ _ _ ?_
        · rintro h7 m_8 ⟨rfl, j9, j10⟩ ihh7
          try dsimp only at ihh7
          refine sx_iload dX5_keyFrom_27 rfl ?_
          refine sx_iconst dX5_keyFrom_29 ⟨by decide, by decide⟩ ?_
          refine sx_icmp_ge (tgt := 76) dX5_keyFrom_30 (by decide) (fun c11 => ?_) (fun c11 => ?_)
          ·
            refine sx_iload dX5_keyFrom_76 rfl ?_
            refine sx_iconst dX5_keyFrom_78 ⟨by decide, by decide⟩ ?_
            refine sx_icmp_ne (tgt := 84) dX5_keyFrom_79 (by decide) (fun c12 => ?_) (fun c12 => ?_)
            ·
              refine sx_iinc dX5_keyFrom_84 (by decide) rfl ?_
              rw [sw_w_id (by omega) (by omega)]
              refine sx_goto (tgt := 11) dX5_keyFrom_87 (by decide) ?_
              refine sx_kill 4 ?_
              exact ihh2 _ _ ⟨rfl, by omega, by omega⟩ (by exact sy_dec (by omega) (by omega))
            ·
              refine sx_iload_n dX5_keyFrom_82 rfl ?_
              refine sx_ireturn dX5_keyFrom_83 ?_
              exact ⟨_, rfl, rfl⟩
          ·
            refine sx_ldcs (t := 100003) (by decide) rfl dX5_keyFrom_33 ?_
            refine sx_iload_n dX5_keyFrom_35 rfl ?_
            refine sx_iconst dX5_keyFrom_36 ⟨by decide, by decide⟩ ?_
            refine sx_imul dX5_keyFrom_37 ?_
            refine sy_topw (by omega) ?_
            refine sx_iload dX5_keyFrom_38 rfl ?_
            refine sx_iadd dX5_keyFrom_40 ?_
            refine sy_topw (by omega) ?_
            refine sx_charAt lj_X5_92 (Nat.le_of_ble_eq_true rfl) dX5_keyFrom_41 ⟨by omega, by omega⟩ (fun z13 z13a => ?_)
            refine sx_iload_n dX5_keyFrom_44 rfl ?_
            refine sx_iload dX5_keyFrom_45 rfl ?_
            refine sx_iadd dX5_keyFrom_47 ?_
            refine sy_topw (by omega) ?_
            refine sx_iload_n dX5_keyFrom_48 rfl ?_
            refine sx_icmp_ge (tgt := 65) dX5_keyFrom_49 (by decide) (fun c14 => ?_) (fun c14 => ?_)
            ·
              refine sx_bipush dX5_keyFrom_65 ⟨by decide, by decide, by decide⟩ ?_
              refine sx_icmp_ne (tgt := 76) dX5_keyFrom_67 (by decide) (fun c15 => ?_) (fun c15 => ?_)
              ·
                refine sx_iload dX5_keyFrom_76 rfl ?_
                refine sx_iconst dX5_keyFrom_78 ⟨by decide, by decide⟩ ?_
                refine sx_icmp_ne (tgt := 84) dX5_keyFrom_79 (by decide) (fun c16 => ?_) (fun c16 => ?_)
                ·
                  refine sx_iinc dX5_keyFrom_84 (by decide) rfl ?_
                  rw [sw_w_id (by omega) (by omega)]
                  refine sx_goto (tgt := 11) dX5_keyFrom_87 (by decide) ?_
                  refine sx_kill 4 ?_
                  exact ihh2 _ _ ⟨rfl, by omega, by omega⟩ (by exact sy_dec (by omega) (by omega))
                ·
                  refine sx_iload_n dX5_keyFrom_82 rfl ?_
                  refine sx_ireturn dX5_keyFrom_83 ?_
                  exact ⟨_, rfl, rfl⟩
              ·
                refine sx_iinc dX5_keyFrom_70 (by decide) rfl ?_
                rw [sw_w_id (by omega) (by omega)]
                refine sx_goto (tgt := 27) dX5_keyFrom_73 (by decide) ?_
                exact ihh7 _ _ ⟨rfl, by omega, by omega⟩ (by exact sy_dec (by omega) (by omega))
            ·
              refine sx_aload_n dX5_keyFrom_52 rfl ?_
              refine sx_getS (k := 0) (t := 35) cl_5 fl_X5_9 dX5_keyFrom_53 s_34 (by decide) rfl (by decide) ?_
              refine sx_iload_n dX5_keyFrom_56 rfl ?_
              refine sx_iload dX5_keyFrom_57 rfl ?_
              refine sx_iadd dX5_keyFrom_59 ?_
              refine sy_topw (by omega) ?_
              refine sx_baload dX5_keyFrom_60 s_35 (by decide) (by decide) ⟨by omega, by omega⟩ (fun b17 b18 => ?_)
              refine sx_i2c dX5_keyFrom_61 ?_
              refine sx_goto (tgt := 67) dX5_keyFrom_62 (by decide) ?_
              refine sx_icmp_ne (tgt := 76) dX5_keyFrom_67 (by decide) (fun c19 => ?_) (fun c19 => ?_)
              ·
                refine sx_iload dX5_keyFrom_76 rfl ?_
                refine sx_iconst dX5_keyFrom_78 ⟨by decide, by decide⟩ ?_
                refine sx_icmp_ne (tgt := 84) dX5_keyFrom_79 (by decide) (fun c20 => ?_) (fun c20 => ?_)
                ·
                  refine sx_iinc dX5_keyFrom_84 (by decide) rfl ?_
                  rw [sw_w_id (by omega) (by omega)]
                  refine sx_goto (tgt := 11) dX5_keyFrom_87 (by decide) ?_
                  refine sx_kill 4 ?_
                  exact ihh2 _ _ ⟨rfl, by omega, by omega⟩ (by exact sy_dec (by omega) (by omega))
                ·
                  refine sx_iload_n dX5_keyFrom_82 rfl ?_
                  refine sx_ireturn dX5_keyFrom_83 ?_
                  exact ⟨_, rfl, rfl⟩
              ·
                refine sx_iinc dX5_keyFrom_70 (by decide) rfl ?_
                rw [sw_w_id (by omega) (by omega)]
                refine sx_goto (tgt := 27) dX5_keyFrom_73 (by decide) ?_
                exact ihh7 _ _ ⟨rfl, by omega, by omega⟩ (by exact sy_dec (by omega) (by omega))
        · exact ⟨rfl, by omega, by omega⟩
    · exact ⟨rfl, by omega, by omega⟩
  ·
    refine sx_iconst dX5_keyFrom_7 ⟨by decide, by decide⟩ ?_
    refine sx_ireturn dX5_keyFrom_8 ?_
    exact ⟨_, rfl, rfl⟩
set_option maxRecDepth 20000 in
set_option maxHeartbeats 4000000 in
theorem c_X5_advance {G : sw_G} (d : Nat) {h0 : sw_H} (hJ : cJ h0)  : sw_E G NH SH (d + 9) mX5_advance 0 [some (sw_r 34)] [] h0 (sw_Qv (fun h' => cK prC h0 h')) := by
  have hI : cK prC h0 h0 := cK.refl hJ
  refine sx_loop0 (fun (h : sw_H) => (cK prC h0 h)) (fun (h : sw_H) => (1600 - h 34 2).toNat) (fun (h : sw_H) => sw_E G NH SH (d + 9) mX5_advance 0 [some (sw_r 34)] [] h (sw_Qv (fun h' => cK prC h0 h'))) ?_ _ ?_
  · rintro h1 Ih1 ihh1
    try dsimp only at ihh1
    refine sx_aload_n dX5_advance_0 rfl ?_
    refine sx_getI (k := 2) cl_5 fl_X5_28 dX5_advance_1 s_34 (by decide) rfl (by decide) ?_
    have r2 : (0 : Int) ≤ h1 34 2 ∧ h1 34 2 ≤ 1600 := Ih1.1.1 34 2
    refine sx_aload_n dX5_advance_4 rfl ?_
    refine sx_getI (k := 1) cl_5 fl_X5_25 dX5_advance_5 s_34 (by decide) rfl (by decide) ?_
    have r3 : (0 : Int) ≤ h1 34 1 ∧ h1 34 1 ≤ 1600 := Ih1.1.1 34 1
    refine sx_icmp_ge (tgt := 52) dX5_advance_8 (by decide) (fun c4 => ?_) (fun c4 => ?_)
    ·
      refine sx_aload_n dX5_advance_52 rfl ?_
      refine sx_aload_n dX5_advance_53 rfl ?_
      refine sx_getI (k := 2) cl_5 fl_X5_28 dX5_advance_54 s_34 (by decide) rfl (by decide) ?_
      have r5 : (0 : Int) ≤ h1 34 2 ∧ h1 34 2 ≤ 1600 := Ih1.1.1 34 2
      refine sy_putI (k := 3) cl_5 fl_X5_43 dX5_advance_57 s_34 (by decide) rfl (by decide) rfl rfl (fun h6 eh6 => ?_)
      have Ih6 := Ih1.up eh6 (show (0 : Int) ≤ _ ∧ _ ≤ (1600 : Int) from ⟨by omega, by omega⟩) rfl rfl
      have th6_34_1 := eh6.2 (34) 1 (by decide)
      have th6_34_2 := eh6.2 (34) 2 (by decide)
      refine sx_aload_n dX5_advance_60 rfl ?_
      refine sx_iconst dX5_advance_61 ⟨by decide, by decide⟩ ?_
      refine sy_putI (k := 5) cl_5 fl_X5_40 dX5_advance_62 s_34 (by decide) rfl (by decide) rfl rfl (fun h7 eh7 => ?_)
      have Ih7 := Ih6.up eh7 trivial rfl rfl
      have th7_34_1 := eh7.2 (34) 1 (by decide)
      have th7_34_2 := eh7.2 (34) 2 (by decide)
      refine sx_aload_n dX5_advance_65 rfl ?_
      refine sx_getI (k := 2) cl_5 fl_X5_28 dX5_advance_66 s_34 (by decide) rfl (by decide) ?_
      have r8 : (0 : Int) ≤ h7 34 2 ∧ h7 34 2 ≤ 1600 := Ih7.1.1 34 2
      refine sx_aload_n dX5_advance_69 rfl ?_
      refine sx_getI (k := 1) cl_5 fl_X5_25 dX5_advance_70 s_34 (by decide) rfl (by decide) ?_
      have r9 : (0 : Int) ≤ h7 34 1 ∧ h7 34 1 ≤ 1600 := Ih7.1.1 34 1
      refine sx_icmp_lt (tgt := 84) dX5_advance_73 (by decide) (fun c10 => ?_) (fun c10 => ?_)
      ·
        refine sx_aload_n dX5_advance_84 rfl ?_
        refine sx_aload_n dX5_advance_85 rfl ?_
        refine sx_getI (k := 2) cl_5 fl_X5_28 dX5_advance_86 s_34 (by decide) rfl (by decide) ?_
        have r11 : (0 : Int) ≤ h7 34 2 ∧ h7 34 2 ≤ 1600 := Ih7.1.1 34 2
        refine sx_callVz lk_X5_57 cl_5 s_34 (by decide) dX5_advance_89 (vs := [_]) rfl rfl (Nat.le_of_ble_eq_true rfl) (Nat.le_of_ble_eq_true rfl) rfl (c_X5_isLetterAt _ Ih7.1 _ (by omega)) (fun x13 h12 zx13 ph12 => ?_)
        subst ph12
        refine sx_if_eq (tgt := 150) dX5_advance_92 (by decide) (fun c14 => ?_) (fun c14 => ?_)
        ·
          refine sx_aload_n dX5_advance_150 rfl ?_
          refine sx_aload_n dX5_advance_151 rfl ?_
          refine sx_getI (k := 2) cl_5 fl_X5_28 dX5_advance_152 s_34 (by decide) rfl (by decide) ?_
          have r15 : (0 : Int) ≤ h7 34 2 ∧ h7 34 2 ≤ 1600 := Ih7.1.1 34 2
          refine sx_callVz lk_X5_67 cl_5 s_34 (by decide) dX5_advance_155 (vs := [_]) rfl rfl (Nat.le_of_ble_eq_true rfl) (Nat.le_of_ble_eq_true rfl) rfl (c_X5_isDigitAt _ Ih7.1 _ (by omega)) (fun x17 h16 zx17 ph16 => ?_)
          subst ph16
          refine sx_if_eq (tgt := 168) dX5_advance_158 (by decide) (fun c18 => ?_) (fun c18 => ?_)
          ·
            refine sx_aload_n dX5_advance_168 rfl ?_
            refine sx_getS (k := 0) (t := 35) cl_5 fl_X5_9 dX5_advance_169 s_34 (by decide) rfl (by decide) ?_
            refine sx_aload_n dX5_advance_172 rfl ?_
            refine sx_getI (k := 2) cl_5 fl_X5_28 dX5_advance_173 s_34 (by decide) rfl (by decide) ?_
            have r19 : (0 : Int) ≤ h7 34 2 ∧ h7 34 2 ≤ 1600 := Ih7.1.1 34 2
            refine sx_baload dX5_advance_176 s_35 (by decide) (by decide) ⟨by omega, by omega⟩ (fun b20 b21 => ?_)
            refine sx_if_le (tgt := 229) dX5_advance_177 (by decide) (fun c22 => ?_) (fun c22 => ?_)
            ·
              refine sx_aload_n dX5_advance_229 rfl ?_
              refine sx_iconst dX5_advance_230 ⟨by decide, by decide⟩ ?_
              refine sy_putI (k := 4) cl_5 fl_X5_37 dX5_advance_231 s_34 (by decide) rfl (by decide) rfl rfl (fun h23 eh23 => ?_)
              have Ih23 := Ih7.up eh23 trivial rfl rfl
              have th23_34_1 := eh23.2 (34) 1 (by decide)
              have th23_34_2 := eh23.2 (34) 2 (by decide)
              refine sx_ret dX5_advance_234 ?_
              exact ⟨rfl, Ih23⟩
            ·
              refine sx_ldcs (t := 100004) (by decide) rfl dX5_advance_180 ?_
              refine sx_aload_n dX5_advance_182 rfl ?_
              refine sx_getS (k := 0) (t := 35) cl_5 fl_X5_9 dX5_advance_183 s_34 (by decide) rfl (by decide) ?_
              refine sx_aload_n dX5_advance_186 rfl ?_
              refine sx_getI (k := 2) cl_5 fl_X5_28 dX5_advance_187 s_34 (by decide) rfl (by decide) ?_
              have r24 : (0 : Int) ≤ h7 34 2 ∧ h7 34 2 ≤ 1600 := Ih7.1.1 34 2
              refine sx_baload dX5_advance_190 s_35 (by decide) (by decide) ⟨by omega, by omega⟩ (fun b25 b26 => ?_)
              refine sx_i2c dX5_advance_191 ?_
              refine sx_indexOf lj_X5_75 (Nat.le_of_ble_eq_true rfl) dX5_advance_192 (fun z27 z27a => ?_)
              refine sx_if_lt (tgt := 229) dX5_advance_195 (by decide) (fun c28 => ?_) (fun c28 => ?_)
              ·
                refine sx_aload_n dX5_advance_229 rfl ?_
                refine sx_iconst dX5_advance_230 ⟨by decide, by decide⟩ ?_
                refine sy_putI (k := 4) cl_5 fl_X5_37 dX5_advance_231 s_34 (by decide) rfl (by decide) rfl rfl (fun h29 eh29 => ?_)
                have Ih29 := Ih7.up eh29 trivial rfl rfl
                have th29_34_1 := eh29.2 (34) 1 (by decide)
                have th29_34_2 := eh29.2 (34) 2 (by decide)
                refine sx_ret dX5_advance_234 ?_
                exact ⟨rfl, Ih29⟩
              ·
                refine sx_aload_n dX5_advance_198 rfl ?_
                refine sx_iconst dX5_advance_199 ⟨by decide, by decide⟩ ?_
                refine sy_putI (k := 4) cl_5 fl_X5_37 dX5_advance_200 s_34 (by decide) rfl (by decide) rfl rfl (fun h30 eh30 => ?_)
                have Ih30 := Ih7.up eh30 trivial rfl rfl
                have th30_34_1 := eh30.2 (34) 1 (by decide)
                have th30_34_2 := eh30.2 (34) 2 (by decide)
                refine sx_aload_n dX5_advance_203 rfl ?_
                refine sx_aload_n dX5_advance_204 rfl ?_
                refine sx_getS (k := 0) (t := 35) cl_5 fl_X5_9 dX5_advance_205 s_34 (by decide) rfl (by decide) ?_
                refine sx_aload_n dX5_advance_208 rfl ?_
                refine sx_getI (k := 2) cl_5 fl_X5_28 dX5_advance_209 s_34 (by decide) rfl (by decide) ?_
                have r31 : (0 : Int) ≤ h30 34 2 ∧ h30 34 2 ≤ 1600 := Ih30.1.1 34 2
                refine sx_baload dX5_advance_212 s_35 (by decide) (by decide) ⟨by omega, by omega⟩ (fun b32 b33 => ?_)
                refine sy_putI (k := 5) cl_5 fl_X5_40 dX5_advance_213 s_34 (by decide) rfl (by decide) rfl rfl (fun h34 eh34 => ?_)
                have Ih34 := Ih30.up eh34 trivial rfl rfl
                have th34_34_1 := eh34.2 (34) 1 (by decide)
                have th34_34_2 := eh34.2 (34) 2 (by decide)
                refine sx_aload_n dX5_advance_216 rfl ?_
                refine sx_dupr dX5_advance_217 ?_
                refine sx_getI (k := 2) cl_5 fl_X5_28 dX5_advance_218 s_34 (by decide) rfl (by decide) ?_
                have r35 : (0 : Int) ≤ h34 34 2 ∧ h34 34 2 ≤ 1600 := Ih34.1.1 34 2
                refine sx_iconst dX5_advance_221 ⟨by decide, by decide⟩ ?_
                refine sx_iadd dX5_advance_222 ?_
                refine sy_topw (by omega) ?_
                refine sy_putI (k := 2) cl_5 fl_X5_28 dX5_advance_223 s_34 (by decide) rfl (by decide) rfl rfl (fun h36 eh36 => ?_)
                have Ih36 := Ih34.up eh36 (show (0 : Int) ≤ _ ∧ _ ≤ (1600 : Int) from ⟨by omega, by omega⟩) rfl rfl
                have th36_34_1 := eh36.2 (34) 1 (by decide)
                have th36_34_2 := eh36.1
                refine sx_goto (tgt := 234) dX5_advance_226 (by decide) ?_
                refine sx_ret dX5_advance_234 ?_
                exact ⟨rfl, Ih36⟩
          ·
            refine sx_aload_n dX5_advance_161 rfl ?_
            refine sx_callVv lk_X5_70 cl_5 s_34 (by decide) dX5_advance_162 (vs := []) rfl rfl (Nat.le_of_ble_eq_true rfl) (Nat.le_of_ble_eq_true rfl) rfl (c_X5_readDigits _ Ih7.1) (fun h37 ph37 => ?_)
            have Kh37 := ph37
            have Ih37 := Ih7.tr Kh37 sb_prC_prC
            refine sx_goto (tgt := 234) dX5_advance_165 (by decide) ?_
            refine sx_ret dX5_advance_234 ?_
            exact ⟨rfl, Ih37⟩
        ·
          refine sx_aload_n dX5_advance_95 rfl ?_
          refine sx_callVv lk_X5_61 cl_5 s_34 (by decide) dX5_advance_96 (vs := []) rfl rfl (Nat.le_of_ble_eq_true rfl) (Nat.le_of_ble_eq_true rfl) rfl (c_X5_readLetters _ Ih7.1) (fun h39 ph39 => ?_)
          have Kh39 := ph39
          have Ih39 := Ih7.tr Kh39 sb_prC_prC
          refine sx_aload_n dX5_advance_99 rfl ?_
          refine sx_aload_n dX5_advance_100 rfl ?_
          refine sx_getI (k := 4) cl_5 fl_X5_37 dX5_advance_101 s_34 (by decide) rfl (by decide) ?_
          refine sx_iconst dX5_advance_104 ⟨by decide, by decide⟩ ?_
          refine sx_icmp_ne (tgt := 123) dX5_advance_105 (by decide) (fun c41 => ?_) (fun c41 => ?_)
          ·
            refine sx_iconst dX5_advance_123 ⟨by decide, by decide⟩ ?_
            refine sy_putI (k := 5) cl_5 fl_X5_40 dX5_advance_124 s_34 (by decide) rfl (by decide) rfl rfl (fun h42 eh42 => ?_)
            have Ih42 := Ih39.up eh42 trivial rfl rfl
            have th42_34_1 := eh42.2 (34) 1 (by decide)
            have th42_34_2 := eh42.2 (34) 2 (by decide)
            refine sx_aload_n dX5_advance_127 rfl ?_
            refine sx_aload_n dX5_advance_128 rfl ?_
            refine sx_getI (k := 5) cl_5 fl_X5_40 dX5_advance_129 s_34 (by decide) rfl (by decide) ?_
            refine sx_iconst dX5_advance_132 ⟨by decide, by decide⟩ ?_
            refine sx_icmp_ne (tgt := 143) dX5_advance_133 (by decide) (fun c43 => ?_) (fun c43 => ?_)
            ·
              refine sx_iconst dX5_advance_143 ⟨by decide, by decide⟩ ?_
              refine sy_putI (k := 4) cl_5 fl_X5_37 dX5_advance_144 s_34 (by decide) rfl (by decide) rfl rfl (fun h44 eh44 => ?_)
              have Ih44 := Ih42.up eh44 trivial rfl rfl
              have th44_34_1 := eh44.2 (34) 1 (by decide)
              have th44_34_2 := eh44.2 (34) 2 (by decide)
              refine sx_goto (tgt := 234) dX5_advance_147 (by decide) ?_
              refine sx_ret dX5_advance_234 ?_
              exact ⟨rfl, Ih44⟩
            ·
              refine sx_aload_n dX5_advance_136 rfl ?_
              refine sx_getI (k := 4) cl_5 fl_X5_37 dX5_advance_137 s_34 (by decide) rfl (by decide) ?_
              refine sx_goto (tgt := 144) dX5_advance_140 (by decide) ?_
              refine sy_putI (k := 4) cl_5 fl_X5_37 dX5_advance_144 s_34 (by decide) rfl (by decide) rfl rfl (fun h45 eh45 => ?_)
              have Ih45 := Ih42.up eh45 trivial rfl rfl
              have th45_34_1 := eh45.2 (34) 1 (by decide)
              have th45_34_2 := eh45.2 (34) 2 (by decide)
              refine sx_goto (tgt := 234) dX5_advance_147 (by decide) ?_
              refine sx_ret dX5_advance_234 ?_
              exact ⟨rfl, Ih45⟩
          ·
            refine sx_aload_n dX5_advance_108 rfl ?_
            refine sx_aload_n dX5_advance_109 rfl ?_
            refine sx_getI (k := 3) cl_5 fl_X5_43 dX5_advance_110 s_34 (by decide) rfl (by decide) ?_
            have r46 : (0 : Int) ≤ h39 34 3 ∧ h39 34 3 ≤ 1600 := Ih39.1.1 34 3
            refine sx_aload_n dX5_advance_113 rfl ?_
            refine sx_getI (k := 2) cl_5 fl_X5_28 dX5_advance_114 s_34 (by decide) rfl (by decide) ?_
            have r47 : (0 : Int) ≤ h39 34 2 ∧ h39 34 2 ≤ 1600 := Ih39.1.1 34 2
            refine sx_callVi lk_X5_64 cl_5 s_34 (by decide) dX5_advance_117 (vs := [_, _]) rfl rfl (Nat.le_of_ble_eq_true rfl) (Nat.le_of_ble_eq_true rfl) rfl (c_X5_keyFrom _ Ih39.1 _ _ (by omega)) (fun x49 h48 ph48 => ?_)
            subst ph48
            refine sx_goto (tgt := 124) dX5_advance_120 (by decide) ?_
            refine sy_putI (k := 5) cl_5 fl_X5_40 dX5_advance_124 s_34 (by decide) rfl (by decide) rfl rfl (fun h50 eh50 => ?_)
            have Ih50 := Ih39.up eh50 trivial rfl rfl
            have th50_34_1 := eh50.2 (34) 1 (by decide)
            have th50_34_2 := eh50.2 (34) 2 (by decide)
            refine sx_aload_n dX5_advance_127 rfl ?_
            refine sx_aload_n dX5_advance_128 rfl ?_
            refine sx_getI (k := 5) cl_5 fl_X5_40 dX5_advance_129 s_34 (by decide) rfl (by decide) ?_
            refine sx_iconst dX5_advance_132 ⟨by decide, by decide⟩ ?_
            refine sx_icmp_ne (tgt := 143) dX5_advance_133 (by decide) (fun c51 => ?_) (fun c51 => ?_)
            ·
              refine sx_iconst dX5_advance_143 ⟨by decide, by decide⟩ ?_
              refine sy_putI (k := 4) cl_5 fl_X5_37 dX5_advance_144 s_34 (by decide) rfl (by decide) rfl rfl (fun h52 eh52 => ?_)
              have Ih52 := Ih50.up eh52 trivial rfl rfl
              have th52_34_1 := eh52.2 (34) 1 (by decide)
              have th52_34_2 := eh52.2 (34) 2 (by decide)
              refine sx_goto (tgt := 234) dX5_advance_147 (by decide) ?_
              refine sx_ret dX5_advance_234 ?_
              exact ⟨rfl, Ih52⟩
            ·
              refine sx_aload_n dX5_advance_136 rfl ?_
              refine sx_getI (k := 4) cl_5 fl_X5_37 dX5_advance_137 s_34 (by decide) rfl (by decide) ?_
              refine sx_goto (tgt := 144) dX5_advance_140 (by decide) ?_
              refine sy_putI (k := 4) cl_5 fl_X5_37 dX5_advance_144 s_34 (by decide) rfl (by decide) rfl rfl (fun h53 eh53 => ?_)
              have Ih53 := Ih50.up eh53 trivial rfl rfl
              have th53_34_1 := eh53.2 (34) 1 (by decide)
              have th53_34_2 := eh53.2 (34) 2 (by decide)
              refine sx_goto (tgt := 234) dX5_advance_147 (by decide) ?_
              refine sx_ret dX5_advance_234 ?_
              exact ⟨rfl, Ih53⟩
      ·
        refine sx_aload_n dX5_advance_76 rfl ?_
        refine sx_iconst dX5_advance_77 ⟨by decide, by decide⟩ ?_
        refine sy_putI (k := 4) cl_5 fl_X5_37 dX5_advance_78 s_34 (by decide) rfl (by decide) rfl rfl (fun h54 eh54 => ?_)
        have Ih54 := Ih7.up eh54 trivial rfl rfl
        have th54_34_1 := eh54.2 (34) 1 (by decide)
        have th54_34_2 := eh54.2 (34) 2 (by decide)
        refine sx_goto (tgt := 234) dX5_advance_81 (by decide) ?_
        refine sx_ret dX5_advance_234 ?_
        exact ⟨rfl, Ih54⟩
    ·
      refine sx_aload_n dX5_advance_11 rfl ?_
      refine sx_getS (k := 0) (t := 35) cl_5 fl_X5_9 dX5_advance_12 s_34 (by decide) rfl (by decide) ?_
      refine sx_aload_n dX5_advance_15 rfl ?_
      refine sx_getI (k := 2) cl_5 fl_X5_28 dX5_advance_16 s_34 (by decide) rfl (by decide) ?_
      have r55 : (0 : Int) ≤ h1 34 2 ∧ h1 34 2 ≤ 1600 := Ih1.1.1 34 2
      refine sx_baload dX5_advance_19 s_35 (by decide) (by decide) ⟨by omega, by omega⟩ (fun b56 b57 => ?_)
      refine sx_bipush dX5_advance_20 ⟨by decide, by decide, by decide⟩ ?_
      refine sx_icmp_eq (tgt := 39) dX5_advance_22 (by decide) (fun c58 => ?_) (fun c58 => ?_)
      ·
        refine sx_aload_n dX5_advance_39 rfl ?_
        refine sx_dupr dX5_advance_40 ?_
        refine sx_getI (k := 2) cl_5 fl_X5_28 dX5_advance_41 s_34 (by decide) rfl (by decide) ?_
        have r59 : (0 : Int) ≤ h1 34 2 ∧ h1 34 2 ≤ 1600 := Ih1.1.1 34 2
        refine sx_iconst dX5_advance_44 ⟨by decide, by decide⟩ ?_
        refine sx_iadd dX5_advance_45 ?_
        refine sy_topw (by omega) ?_
        refine sy_putI (k := 2) cl_5 fl_X5_28 dX5_advance_46 s_34 (by decide) rfl (by decide) rfl rfl (fun h60 eh60 => ?_)
        have Ih60 := Ih1.up eh60 (show (0 : Int) ≤ _ ∧ _ ≤ (1600 : Int) from ⟨by omega, by omega⟩) rfl rfl
        have th60_34_1 := eh60.2 (34) 1 (by decide)
        have th60_34_2 := eh60.1
        refine sx_goto (tgt := 0) dX5_advance_49 (by decide) ?_
        exact ihh1 _ Ih60 (by exact sy_dec (by omega) (by omega))
      ·
        refine sx_aload_n dX5_advance_25 rfl ?_
        refine sx_getS (k := 0) (t := 35) cl_5 fl_X5_9 dX5_advance_26 s_34 (by decide) rfl (by decide) ?_
        refine sx_aload_n dX5_advance_29 rfl ?_
        refine sx_getI (k := 2) cl_5 fl_X5_28 dX5_advance_30 s_34 (by decide) rfl (by decide) ?_
        have r61 : (0 : Int) ≤ h1 34 2 ∧ h1 34 2 ≤ 1600 := Ih1.1.1 34 2
        refine sx_baload dX5_advance_33 s_35 (by decide) (by decide) ⟨by omega, by omega⟩ (fun b62 b63 => ?_)
        refine sx_bipush dX5_advance_34 ⟨by decide, by decide, by decide⟩ ?_
        refine sx_icmp_ne (tgt := 52) dX5_advance_36 (by decide) (fun c64 => ?_) (fun c64 => ?_)
        ·
          refine sx_aload_n dX5_advance_52 rfl ?_
          refine sx_aload_n dX5_advance_53 rfl ?_
          refine sx_getI (k := 2) cl_5 fl_X5_28 dX5_advance_54 s_34 (by decide) rfl (by decide) ?_
          have r65 : (0 : Int) ≤ h1 34 2 ∧ h1 34 2 ≤ 1600 := Ih1.1.1 34 2
          refine sy_putI (k := 3) cl_5 fl_X5_43 dX5_advance_57 s_34 (by decide) rfl (by decide) rfl rfl (fun h66 eh66 => ?_)
          have Ih66 := Ih1.up eh66 (show (0 : Int) ≤ _ ∧ _ ≤ (1600 : Int) from ⟨by omega, by omega⟩) rfl rfl
          have th66_34_1 := eh66.2 (34) 1 (by decide)
          have th66_34_2 := eh66.2 (34) 2 (by decide)
          refine sx_aload_n dX5_advance_60 rfl ?_
          refine sx_iconst dX5_advance_61 ⟨by decide, by decide⟩ ?_
          refine sy_putI (k := 5) cl_5 fl_X5_40 dX5_advance_62 s_34 (by decide) rfl (by decide) rfl rfl (fun h67 eh67 => ?_)
          have Ih67 := Ih66.up eh67 trivial rfl rfl
          have th67_34_1 := eh67.2 (34) 1 (by decide)
          have th67_34_2 := eh67.2 (34) 2 (by decide)
          refine sx_aload_n dX5_advance_65 rfl ?_
          refine sx_getI (k := 2) cl_5 fl_X5_28 dX5_advance_66 s_34 (by decide) rfl (by decide) ?_
          have r68 : (0 : Int) ≤ h67 34 2 ∧ h67 34 2 ≤ 1600 := Ih67.1.1 34 2
          refine sx_aload_n dX5_advance_69 rfl ?_
          refine sx_getI (k := 1) cl_5 fl_X5_25 dX5_advance_70 s_34 (by decide) rfl (by decide) ?_
          have r69 : (0 : Int) ≤ h67 34 1 ∧ h67 34 1 ≤ 1600 := Ih67.1.1 34 1
          refine sx_icmp_lt (tgt := 84) dX5_advance_73 (by decide) (fun c70 => ?_) (fun c70 => ?_)
          ·
            refine sx_aload_n dX5_advance_84 rfl ?_
            refine sx_aload_n dX5_advance_85 rfl ?_
            refine sx_getI (k := 2) cl_5 fl_X5_28 dX5_advance_86 s_34 (by decide) rfl (by decide) ?_
            have r71 : (0 : Int) ≤ h67 34 2 ∧ h67 34 2 ≤ 1600 := Ih67.1.1 34 2
            refine sx_callVz lk_X5_57 cl_5 s_34 (by decide) dX5_advance_89 (vs := [_]) rfl rfl (Nat.le_of_ble_eq_true rfl) (Nat.le_of_ble_eq_true rfl) rfl (c_X5_isLetterAt _ Ih67.1 _ (by omega)) (fun x73 h72 zx73 ph72 => ?_)
            subst ph72
            refine sx_if_eq (tgt := 150) dX5_advance_92 (by decide) (fun c74 => ?_) (fun c74 => ?_)
            ·
              refine sx_aload_n dX5_advance_150 rfl ?_
              refine sx_aload_n dX5_advance_151 rfl ?_
              refine sx_getI (k := 2) cl_5 fl_X5_28 dX5_advance_152 s_34 (by decide) rfl (by decide) ?_
              have r75 : (0 : Int) ≤ h67 34 2 ∧ h67 34 2 ≤ 1600 := Ih67.1.1 34 2
              refine sx_callVz lk_X5_67 cl_5 s_34 (by decide) dX5_advance_155 (vs := [_]) rfl rfl (Nat.le_of_ble_eq_true rfl) (Nat.le_of_ble_eq_true rfl) rfl (c_X5_isDigitAt _ Ih67.1 _ (by omega)) (fun x77 h76 zx77 ph76 => ?_)
              subst ph76
              refine sx_if_eq (tgt := 168) dX5_advance_158 (by decide) (fun c78 => ?_) (fun c78 => ?_)
              ·
                refine sx_aload_n dX5_advance_168 rfl ?_
                refine sx_getS (k := 0) (t := 35) cl_5 fl_X5_9 dX5_advance_169 s_34 (by decide) rfl (by decide) ?_
                refine sx_aload_n dX5_advance_172 rfl ?_
                refine sx_getI (k := 2) cl_5 fl_X5_28 dX5_advance_173 s_34 (by decide) rfl (by decide) ?_
                have r79 : (0 : Int) ≤ h67 34 2 ∧ h67 34 2 ≤ 1600 := Ih67.1.1 34 2
                refine sx_baload dX5_advance_176 s_35 (by decide) (by decide) ⟨by omega, by omega⟩ (fun b80 b81 => ?_)
                refine sx_if_le (tgt := 229) dX5_advance_177 (by decide) (fun c82 => ?_) (fun c82 => ?_)
                ·
                  refine sx_aload_n dX5_advance_229 rfl ?_
                  refine sx_iconst dX5_advance_230 ⟨by decide, by decide⟩ ?_
                  refine sy_putI (k := 4) cl_5 fl_X5_37 dX5_advance_231 s_34 (by decide) rfl (by decide) rfl rfl (fun h83 eh83 => ?_)
                  have Ih83 := Ih67.up eh83 trivial rfl rfl
                  have th83_34_1 := eh83.2 (34) 1 (by decide)
                  have th83_34_2 := eh83.2 (34) 2 (by decide)
                  refine sx_ret dX5_advance_234 ?_
                  exact ⟨rfl, Ih83⟩
                ·
                  refine sx_ldcs (t := 100004) (by decide) rfl dX5_advance_180 ?_
                  refine sx_aload_n dX5_advance_182 rfl ?_
                  refine sx_getS (k := 0) (t := 35) cl_5 fl_X5_9 dX5_advance_183 s_34 (by decide) rfl (by decide) ?_
                  refine sx_aload_n dX5_advance_186 rfl ?_
                  refine sx_getI (k := 2) cl_5 fl_X5_28 dX5_advance_187 s_34 (by decide) rfl (by decide) ?_
                  have r84 : (0 : Int) ≤ h67 34 2 ∧ h67 34 2 ≤ 1600 := Ih67.1.1 34 2
                  refine sx_baload dX5_advance_190 s_35 (by decide) (by decide) ⟨by omega, by omega⟩ (fun b85 b86 => ?_)
                  refine sx_i2c dX5_advance_191 ?_
                  refine sx_indexOf lj_X5_75 (Nat.le_of_ble_eq_true rfl) dX5_advance_192 (fun z87 z87a => ?_)
                  refine sx_if_lt (tgt := 229) dX5_advance_195 (by decide) (fun c88 => ?_) (fun c88 => ?_)
                  ·
                    refine sx_aload_n dX5_advance_229 rfl ?_
                    refine sx_iconst dX5_advance_230 ⟨by decide, by decide⟩ ?_
                    refine sy_putI (k := 4) cl_5 fl_X5_37 dX5_advance_231 s_34 (by decide) rfl (by decide) rfl rfl (fun h89 eh89 => ?_)
                    have Ih89 := Ih67.up eh89 trivial rfl rfl
                    have th89_34_1 := eh89.2 (34) 1 (by decide)
                    have th89_34_2 := eh89.2 (34) 2 (by decide)
                    refine sx_ret dX5_advance_234 ?_
                    exact ⟨rfl, Ih89⟩
                  ·
                    refine sx_aload_n dX5_advance_198 rfl ?_
                    refine sx_iconst dX5_advance_199 ⟨by decide, by decide⟩ ?_
                    refine sy_putI (k := 4) cl_5 fl_X5_37 dX5_advance_200 s_34 (by decide) rfl (by decide) rfl rfl (fun h90 eh90 => ?_)
                    have Ih90 := Ih67.up eh90 trivial rfl rfl
                    have th90_34_1 := eh90.2 (34) 1 (by decide)
                    have th90_34_2 := eh90.2 (34) 2 (by decide)
                    refine sx_aload_n dX5_advance_203 rfl ?_
                    refine sx_aload_n dX5_advance_204 rfl ?_
                    refine sx_getS (k := 0) (t := 35) cl_5 fl_X5_9 dX5_advance_205 s_34 (by decide) rfl (by decide) ?_
                    refine sx_aload_n dX5_advance_208 rfl ?_
                    refine sx_getI (k := 2) cl_5 fl_X5_28 dX5_advance_209 s_34 (by decide) rfl (by decide) ?_
                    have r91 : (0 : Int) ≤ h90 34 2 ∧ h90 34 2 ≤ 1600 := Ih90.1.1 34 2
                    refine sx_baload dX5_advance_212 s_35 (by decide) (by decide) ⟨by omega, by omega⟩ (fun b92 b93 => ?_)
                    refine sy_putI (k := 5) cl_5 fl_X5_40 dX5_advance_213 s_34 (by decide) rfl (by decide) rfl rfl (fun h94 eh94 => ?_)
                    have Ih94 := Ih90.up eh94 trivial rfl rfl
                    have th94_34_1 := eh94.2 (34) 1 (by decide)
                    have th94_34_2 := eh94.2 (34) 2 (by decide)
                    refine sx_aload_n dX5_advance_216 rfl ?_
                    refine sx_dupr dX5_advance_217 ?_
                    refine sx_getI (k := 2) cl_5 fl_X5_28 dX5_advance_218 s_34 (by decide) rfl (by decide) ?_
                    have r95 : (0 : Int) ≤ h94 34 2 ∧ h94 34 2 ≤ 1600 := Ih94.1.1 34 2
                    refine sx_iconst dX5_advance_221 ⟨by decide, by decide⟩ ?_
                    refine sx_iadd dX5_advance_222 ?_
                    refine sy_topw (by omega) ?_
                    refine sy_putI (k := 2) cl_5 fl_X5_28 dX5_advance_223 s_34 (by decide) rfl (by decide) rfl rfl (fun h96 eh96 => ?_)
                    have Ih96 := Ih94.up eh96 (show (0 : Int) ≤ _ ∧ _ ≤ (1600 : Int) from ⟨by omega, by omega⟩) rfl rfl
                    have th96_34_1 := eh96.2 (34) 1 (by decide)
                    have th96_34_2 := eh96.1
                    refine sx_goto (tgt := 234) dX5_advance_226 (by decide) ?_
                    refine sx_ret dX5_advance_234 ?_
                    exact ⟨rfl, Ih96⟩
              ·
                refine sx_aload_n dX5_advance_161 rfl ?_
                refine sx_callVv lk_X5_70 cl_5 s_34 (by decide) dX5_advance_162 (vs := []) rfl rfl (Nat.le_of_ble_eq_true rfl) (Nat.le_of_ble_eq_true rfl) rfl (c_X5_readDigits _ Ih67.1) (fun h97 ph97 => ?_)
                have Kh97 := ph97
                have Ih97 := Ih67.tr Kh97 sb_prC_prC
                refine sx_goto (tgt := 234) dX5_advance_165 (by decide) ?_
                refine sx_ret dX5_advance_234 ?_
                exact ⟨rfl, Ih97⟩
            ·
              refine sx_aload_n dX5_advance_95 rfl ?_
              refine sx_callVv lk_X5_61 cl_5 s_34 (by decide) dX5_advance_96 (vs := []) rfl rfl (Nat.le_of_ble_eq_true rfl) (Nat.le_of_ble_eq_true rfl) rfl (c_X5_readLetters _ Ih67.1) (fun h99 ph99 => ?_)
              have Kh99 := ph99
              have Ih99 := Ih67.tr Kh99 sb_prC_prC
              refine sx_aload_n dX5_advance_99 rfl ?_
              refine sx_aload_n dX5_advance_100 rfl ?_
              refine sx_getI (k := 4) cl_5 fl_X5_37 dX5_advance_101 s_34 (by decide) rfl (by decide) ?_
              refine sx_iconst dX5_advance_104 ⟨by decide, by decide⟩ ?_
              refine sx_icmp_ne (tgt := 123) dX5_advance_105 (by decide) (fun c101 => ?_) (fun c101 => ?_)
              ·
                refine sx_iconst dX5_advance_123 ⟨by decide, by decide⟩ ?_
                refine sy_putI (k := 5) cl_5 fl_X5_40 dX5_advance_124 s_34 (by decide) rfl (by decide) rfl rfl (fun h102 eh102 => ?_)
                have Ih102 := Ih99.up eh102 trivial rfl rfl
                have th102_34_1 := eh102.2 (34) 1 (by decide)
                have th102_34_2 := eh102.2 (34) 2 (by decide)
                refine sx_aload_n dX5_advance_127 rfl ?_
                refine sx_aload_n dX5_advance_128 rfl ?_
                refine sx_getI (k := 5) cl_5 fl_X5_40 dX5_advance_129 s_34 (by decide) rfl (by decide) ?_
                refine sx_iconst dX5_advance_132 ⟨by decide, by decide⟩ ?_
                refine sx_icmp_ne (tgt := 143) dX5_advance_133 (by decide) (fun c103 => ?_) (fun c103 => ?_)
                ·
                  refine sx_iconst dX5_advance_143 ⟨by decide, by decide⟩ ?_
                  refine sy_putI (k := 4) cl_5 fl_X5_37 dX5_advance_144 s_34 (by decide) rfl (by decide) rfl rfl (fun h104 eh104 => ?_)
                  have Ih104 := Ih102.up eh104 trivial rfl rfl
                  have th104_34_1 := eh104.2 (34) 1 (by decide)
                  have th104_34_2 := eh104.2 (34) 2 (by decide)
                  refine sx_goto (tgt := 234) dX5_advance_147 (by decide) ?_
                  refine sx_ret dX5_advance_234 ?_
                  exact ⟨rfl, Ih104⟩
                ·
                  refine sx_aload_n dX5_advance_136 rfl ?_
                  refine sx_getI (k := 4) cl_5 fl_X5_37 dX5_advance_137 s_34 (by decide) rfl (by decide) ?_
                  refine sx_goto (tgt := 144) dX5_advance_140 (by decide) ?_
                  refine sy_putI (k := 4) cl_5 fl_X5_37 dX5_advance_144 s_34 (by decide) rfl (by decide) rfl rfl (fun h105 eh105 => ?_)
                  have Ih105 := Ih102.up eh105 trivial rfl rfl
                  have th105_34_1 := eh105.2 (34) 1 (by decide)
                  have th105_34_2 := eh105.2 (34) 2 (by decide)
                  refine sx_goto (tgt := 234) dX5_advance_147 (by decide) ?_
                  refine sx_ret dX5_advance_234 ?_
                  exact ⟨rfl, Ih105⟩
              ·
                refine sx_aload_n dX5_advance_108 rfl ?_
                refine sx_aload_n dX5_advance_109 rfl ?_
                refine sx_getI (k := 3) cl_5 fl_X5_43 dX5_advance_110 s_34 (by decide) rfl (by decide) ?_
                have r106 : (0 : Int) ≤ h99 34 3 ∧ h99 34 3 ≤ 1600 := Ih99.1.1 34 3
                refine sx_aload_n dX5_advance_113 rfl ?_
                refine sx_getI (k := 2) cl_5 fl_X5_28 dX5_advance_114 s_34 (by decide) rfl (by decide) ?_
                have r107 : (0 : Int) ≤ h99 34 2 ∧ h99 34 2 ≤ 1600 := Ih99.1.1 34 2
                refine sx_callVi lk_X5_64 cl_5 s_34 (by decide) dX5_advance_117 (vs := [_, _]) rfl rfl (Nat.le_of_ble_eq_true rfl) (Nat.le_of_ble_eq_true rfl) rfl (c_X5_keyFrom _ Ih99.1 _ _ (by omega)) (fun x109 h108 ph108 => ?_)
                subst ph108
                refine sx_goto (tgt := 124) dX5_advance_120 (by decide) ?_
                refine sy_putI (k := 5) cl_5 fl_X5_40 dX5_advance_124 s_34 (by decide) rfl (by decide) rfl rfl (fun h110 eh110 => ?_)
                have Ih110 := Ih99.up eh110 trivial rfl rfl
                have th110_34_1 := eh110.2 (34) 1 (by decide)
                have th110_34_2 := eh110.2 (34) 2 (by decide)
                refine sx_aload_n dX5_advance_127 rfl ?_
                refine sx_aload_n dX5_advance_128 rfl ?_
                refine sx_getI (k := 5) cl_5 fl_X5_40 dX5_advance_129 s_34 (by decide) rfl (by decide) ?_
                refine sx_iconst dX5_advance_132 ⟨by decide, by decide⟩ ?_
                refine sx_icmp_ne (tgt := 143) dX5_advance_133 (by decide) (fun c111 => ?_) (fun c111 => ?_)
                ·
                  refine sx_iconst dX5_advance_143 ⟨by decide, by decide⟩ ?_
                  refine sy_putI (k := 4) cl_5 fl_X5_37 dX5_advance_144 s_34 (by decide) rfl (by decide) rfl rfl (fun h112 eh112 => ?_)
                  have Ih112 := Ih110.up eh112 trivial rfl rfl
                  have th112_34_1 := eh112.2 (34) 1 (by decide)
                  have th112_34_2 := eh112.2 (34) 2 (by decide)
                  refine sx_goto (tgt := 234) dX5_advance_147 (by decide) ?_
                  refine sx_ret dX5_advance_234 ?_
                  exact ⟨rfl, Ih112⟩
                ·
                  refine sx_aload_n dX5_advance_136 rfl ?_
                  refine sx_getI (k := 4) cl_5 fl_X5_37 dX5_advance_137 s_34 (by decide) rfl (by decide) ?_
                  refine sx_goto (tgt := 144) dX5_advance_140 (by decide) ?_
                  refine sy_putI (k := 4) cl_5 fl_X5_37 dX5_advance_144 s_34 (by decide) rfl (by decide) rfl rfl (fun h113 eh113 => ?_)
                  have Ih113 := Ih110.up eh113 trivial rfl rfl
                  have th113_34_1 := eh113.2 (34) 1 (by decide)
                  have th113_34_2 := eh113.2 (34) 2 (by decide)
                  refine sx_goto (tgt := 234) dX5_advance_147 (by decide) ?_
                  refine sx_ret dX5_advance_234 ?_
                  exact ⟨rfl, Ih113⟩
          ·
            refine sx_aload_n dX5_advance_76 rfl ?_
            refine sx_iconst dX5_advance_77 ⟨by decide, by decide⟩ ?_
            refine sy_putI (k := 4) cl_5 fl_X5_37 dX5_advance_78 s_34 (by decide) rfl (by decide) rfl rfl (fun h114 eh114 => ?_)
            have Ih114 := Ih67.up eh114 trivial rfl rfl
            have th114_34_1 := eh114.2 (34) 1 (by decide)
            have th114_34_2 := eh114.2 (34) 2 (by decide)
            refine sx_goto (tgt := 234) dX5_advance_81 (by decide) ?_
            refine sx_ret dX5_advance_234 ?_
            exact ⟨rfl, Ih114⟩
        ·
          refine sx_aload_n dX5_advance_39 rfl ?_
          refine sx_dupr dX5_advance_40 ?_
          refine sx_getI (k := 2) cl_5 fl_X5_28 dX5_advance_41 s_34 (by decide) rfl (by decide) ?_
          have r115 : (0 : Int) ≤ h1 34 2 ∧ h1 34 2 ≤ 1600 := Ih1.1.1 34 2
          refine sx_iconst dX5_advance_44 ⟨by decide, by decide⟩ ?_
          refine sx_iadd dX5_advance_45 ?_
          refine sy_topw (by omega) ?_
          refine sy_putI (k := 2) cl_5 fl_X5_28 dX5_advance_46 s_34 (by decide) rfl (by decide) rfl rfl (fun h116 eh116 => ?_)
          have Ih116 := Ih1.up eh116 (show (0 : Int) ≤ _ ∧ _ ≤ (1600 : Int) from ⟨by omega, by omega⟩) rfl rfl
          have th116_34_1 := eh116.2 (34) 1 (by decide)
          have th116_34_2 := eh116.1
          refine sx_goto (tgt := 0) dX5_advance_49 (by decide) ?_
          exact ihh1 _ Ih116 (by exact sy_dec (by omega) (by omega))
  · exact hI
set_option maxRecDepth 20000 in
set_option maxHeartbeats 4000000 in
theorem c_X5_begin {G : sw_G} (d : Nat) {h0 : sw_H} (hJ : cJ h0) (n : Int) (hn : 0 ≤ n) : sw_E G NH SH (d + 10) mX5_begin 0 [some (sw_r 34), some (sw_i n)] [] h0 (sw_Qv (fun h' => cK prC h0 h')) := by
  have hI : cK prC h0 h0 := cK.refl hJ
  refine sx_aload_n dX5_begin_0 rfl ?_
  refine sx_iload_n dX5_begin_1 rfl ?_
  refine sx_sipush dX5_begin_2 ⟨by decide, by decide, by decide⟩ ?_
  refine sx_min lm_X5_19 lw_min dX5_begin_5 (Nat.le_of_ble_eq_true rfl) ?_
  refine sy_min (fun m1 em1 fm1 gm1 => ?_)
  refine sy_putI (k := 1) cl_5 fl_X5_25 dX5_begin_8 s_34 (by decide) rfl (by decide) rfl rfl (fun h2 eh2 => ?_)
  have Ih2 := hI.up eh2 (show (0 : Int) ≤ _ ∧ _ ≤ (1600 : Int) from ⟨by omega, by omega⟩) rfl rfl
  refine sx_aload_n dX5_begin_11 rfl ?_
  refine sx_iconst dX5_begin_12 ⟨by decide, by decide⟩ ?_
  refine sy_putI (k := 2) cl_5 fl_X5_28 dX5_begin_13 s_34 (by decide) rfl (by decide) rfl rfl (fun h3 eh3 => ?_)
  have Ih3 := Ih2.up eh3 (show (0 : Int) ≤ _ ∧ _ ≤ (1600 : Int) from ⟨by omega, by omega⟩) rfl rfl
  refine sx_aload_n dX5_begin_16 rfl ?_
  refine sx_iconst dX5_begin_17 ⟨by decide, by decide⟩ ?_
  refine sy_putI (k := 7) cl_5 fl_X5_31 dX5_begin_18 s_34 (by decide) rfl (by decide) rfl rfl (fun h4 eh4 => ?_)
  have Ih4 := Ih3.up eh4 trivial rfl rfl
  refine sx_aload_n dX5_begin_21 rfl ?_
  refine sx_iconst dX5_begin_22 ⟨by decide, by decide⟩ ?_
  refine sy_putI (k := 8) cl_5 fl_X5_15 dX5_begin_23 s_34 (by decide) rfl (by decide) rfl rfl (fun h5 eh5 => ?_)
  have Ih5 := Ih4.up eh5 trivial rfl rfl
  refine sx_aload_n dX5_begin_26 rfl ?_
  refine sx_callVv lk_X5_34 cl_5 s_34 (by decide) dX5_begin_27 (vs := []) rfl rfl (Nat.le_of_ble_eq_true rfl) (Nat.le_of_ble_eq_true rfl) rfl (c_X5_advance _ Ih5.1) (fun h6 ph6 => ?_)
  have Kh6 := ph6
  have Ih6 := Ih5.tr Kh6 sb_prC_prC
  refine sx_ret dX5_begin_30 ?_
  exact ⟨rfl, Ih6⟩

set_option maxRecDepth 20000 in
set_option maxHeartbeats 4000000 in
theorem c_X3_isToldAgain {G : sw_G} (d : Nat) {h0 : sw_H} (hJ : cJ h0) (n : Int) : sw_E G NH SH (d) mX3_isToldAgain 0 [some (sw_r 33), some (sw_i n), none, none] [] h0 (sw_Qz (fun z h' => cK prR h0 h')) := by
  have hI : cK prR h0 h0 := cK.refl hJ
  refine sx_iconst dX3_isToldAgain_0 ⟨by decide, by decide⟩ ?_
  refine sx_iload_n dX3_isToldAgain_1 rfl ?_
  refine sx_bipush dX3_isToldAgain_2 ⟨by decide, by decide, by decide⟩ ?_
  refine sx_isub dX3_isToldAgain_4 ?_
  refine sx_ishl dX3_isToldAgain_5 ?_
  refine sy_top (fun v1 ev1 => ?_)
  refine sx_istore_n dX3_isToldAgain_6 (by decide) ?_
  have J22_n2 : ∀ (b : Int) , (b = 0 ∨ b = 1) → sw_E G NH SH (d) mX3_isToldAgain 22 [some (sw_r 33), some (sw_i n), some (sw_i v1), some (sw_i b)] [] h0 (sw_Qz (fun z h' => cK prR h0 h')) := by
    intro b_3 j4
    refine sx_aload_n dX3_isToldAgain_22 rfl ?_
    refine sx_dupr dX3_isToldAgain_23 ?_
    refine sx_getI (k := 6) cl_3 fl_X3_49 dX3_isToldAgain_24 s_33 (by decide) rfl (by decide) ?_
    refine sx_iload_n dX3_isToldAgain_27 rfl ?_
    refine sx_ior dX3_isToldAgain_28 ?_
    refine sy_putI (k := 6) cl_3 fl_X3_49 dX3_isToldAgain_29 s_33 (by decide) rfl (by decide) rfl rfl (fun h5 eh5 => ?_)
    have Ih5 := hI.up eh5 trivial rfl rfl
    have th5_33_6 := eh5.1
    refine sx_iload_n dX3_isToldAgain_32 rfl ?_
    refine sx_ireturn dX3_isToldAgain_33 ?_
    exact ⟨_, rfl, by omega, Ih5⟩
  refine sx_aload_n dX3_isToldAgain_7 rfl ?_
  refine sx_getI (k := 6) cl_3 fl_X3_49 dX3_isToldAgain_8 s_33 (by decide) rfl (by decide) ?_
  refine sx_iload_n dX3_isToldAgain_11 rfl ?_
  refine sx_iand dX3_isToldAgain_12 ?_
  refine sx_if_eq (tgt := 20) dX3_isToldAgain_13 (by decide) (fun c6 => ?_) (fun c6 => ?_)
  ·
    refine sx_iconst dX3_isToldAgain_20 ⟨by decide, by decide⟩ ?_
    refine sx_istore_n dX3_isToldAgain_21 (by decide) ?_
    exact J22_n2 _ (by omega)
  ·
    refine sx_iconst dX3_isToldAgain_16 ⟨by decide, by decide⟩ ?_
    refine sx_goto (tgt := 21) dX3_isToldAgain_17 (by decide) ?_
    refine sx_istore_n dX3_isToldAgain_21 (by decide) ?_
    exact J22_n2 _ (by omega)
set_option maxRecDepth 20000 in
set_option maxHeartbeats 4000000 in
theorem c_X3_requireNumber {G : sw_G} (d : Nat) {h0 : sw_H} (hJ : cJ h0) (a b : Int) : sw_E G NH SH (d + 9) mX3_requireNumber 0 [some (sw_r 33), some (sw_i a), some (sw_i b)] [] h0 (sw_Qv (fun h' => cK prC h0 h')) := by
  have hI : cK prC h0 h0 := cK.refl hJ
  refine sx_aload_n dX3_requireNumber_0 rfl ?_
  refine sx_getS (k := 0) (t := 34) cl_3 fl_X3_12 dX3_requireNumber_1 s_33 (by decide) rfl (by decide) ?_
  refine sx_getI (k := 4) cl_5 fl_X3_121 dX3_requireNumber_4 s_34 (by decide) rfl (by decide) ?_
  refine sx_iconst dX3_requireNumber_7 ⟨by decide, by decide⟩ ?_
  refine sx_icmp_eq (tgt := 21) dX3_requireNumber_8 (by decide) (fun c1 => ?_) (fun c1 => ?_)
  ·
    refine sx_aload_n dX3_requireNumber_21 rfl ?_
    refine sx_getS (k := 0) (t := 34) cl_3 fl_X3_12 dX3_requireNumber_22 s_33 (by decide) rfl (by decide) ?_
    refine sx_getI (k := 5) cl_5 fl_X3_115 dX3_requireNumber_25 s_34 (by decide) rfl (by decide) ?_
    refine sx_iload_n dX3_requireNumber_28 rfl ?_
    refine sx_icmp_lt (tgt := 43) dX3_requireNumber_29 (by decide) (fun c2 => ?_) (fun c2 => ?_)
    ·
      refine sx_aload_n dX3_requireNumber_43 rfl ?_
      refine sx_getS (k := 0) (t := 34) cl_3 fl_X3_12 dX3_requireNumber_44 s_33 (by decide) rfl (by decide) ?_
      refine sx_iconst dX3_requireNumber_47 ⟨by decide, by decide⟩ ?_
      refine sx_callVv lk_X3_124 cl_5 s_34 (by decide) dX3_requireNumber_48 (vs := [_]) rfl rfl (Nat.le_of_ble_eq_true rfl) (Nat.le_of_ble_eq_true rfl) rfl (c_X5_fail _ hI.1 _) (fun h3 ph3 => ?_)
      obtain ⟨Kh3, f_h3⟩ := ph3
      have Ih3 := hI.tr Kh3 sb_prC_prC
      refine sx_ret dX3_requireNumber_51 ?_
      exact ⟨rfl, Ih3⟩
    ·
      refine sx_aload_n dX3_requireNumber_32 rfl ?_
      refine sx_getS (k := 0) (t := 34) cl_3 fl_X3_12 dX3_requireNumber_33 s_33 (by decide) rfl (by decide) ?_
      refine sx_getI (k := 5) cl_5 fl_X3_115 dX3_requireNumber_36 s_34 (by decide) rfl (by decide) ?_
      refine sx_iload_n dX3_requireNumber_39 rfl ?_
      refine sx_icmp_le (tgt := 51) dX3_requireNumber_40 (by decide) (fun c5 => ?_) (fun c5 => ?_)
      ·
        refine sx_ret dX3_requireNumber_51 ?_
        exact ⟨rfl, hI⟩
      ·
        refine sx_aload_n dX3_requireNumber_43 rfl ?_
        refine sx_getS (k := 0) (t := 34) cl_3 fl_X3_12 dX3_requireNumber_44 s_33 (by decide) rfl (by decide) ?_
        refine sx_iconst dX3_requireNumber_47 ⟨by decide, by decide⟩ ?_
        refine sx_callVv lk_X3_124 cl_5 s_34 (by decide) dX3_requireNumber_48 (vs := [_]) rfl rfl (Nat.le_of_ble_eq_true rfl) (Nat.le_of_ble_eq_true rfl) rfl (c_X5_fail _ hI.1 _) (fun h6 ph6 => ?_)
        obtain ⟨Kh6, f_h6⟩ := ph6
        have Ih6 := hI.tr Kh6 sb_prC_prC
        refine sx_ret dX3_requireNumber_51 ?_
        exact ⟨rfl, Ih6⟩
  ·
    refine sx_aload_n dX3_requireNumber_11 rfl ?_
    refine sx_getS (k := 0) (t := 34) cl_3 fl_X3_12 dX3_requireNumber_12 s_33 (by decide) rfl (by decide) ?_
    refine sx_callVv lk_X3_81 cl_5 s_34 (by decide) dX3_requireNumber_15 (vs := []) rfl rfl (Nat.le_of_ble_eq_true rfl) (Nat.le_of_ble_eq_true rfl) rfl (c_X5_refuse _ hI.1) (fun h8 ph8 => ?_)
    obtain ⟨Kh8, f_h8⟩ := ph8
    have Ih8 := hI.tr Kh8 sb_prC_prC
    refine sx_goto (tgt := 51) dX3_requireNumber_18 (by decide) ?_
    refine sx_ret dX3_requireNumber_51 ?_
    exact ⟨rfl, Ih8⟩
set_option maxRecDepth 20000 in
set_option maxHeartbeats 4000000 in
theorem c_X3_numberOf_1 {G : sw_G} (d : Nat) {h0 : sw_H} (hJ : cJ h0) (hc : h0 33 9 = 1) (n : Int) : sw_E G NH SH (d) mX3_numberOf 0 [some (sw_r 33), some (sw_l n), none, none] [] h0 (sw_Qi (fun z h' => h0 = h')) := by
  have hI : cK prR h0 h0 := cK.refl hJ
  refine sx_iconst dX3_numberOf_0 ⟨by decide, by decide⟩ ?_
  refine sx_istore_n dX3_numberOf_1 (by decide) ?_
  refine sx_loop1 (fun (h : sw_H) (i : Int) => (h0 = h) ∧ (0 ≤ i)) (fun (h : sw_H) (i : Int) => (6 - i).toNat) (fun (h : sw_H) (i : Int) => sw_E G NH SH (d) mX3_numberOf 2 [some (sw_r 33), some (sw_l n), none, some (sw_i i)] [] h (sw_Qi (fun z h' => h0 = h'))) ?_ _ _ ?_
  · rintro h1 i_2 ⟨rfl, j3⟩ ihh1
    try dsimp only at ihh1
    refine sx_iload_n dX3_numberOf_2 rfl ?_
    refine sx_aload_n dX3_numberOf_3 rfl ?_
    refine sx_getR (k := 9) (t := 1) cl_3 fl_X3_40 dX3_numberOf_4 s_33 (by decide) rfl (by decide) (by omega) ?_
    refine sx_getI (k := 0) cl_0 fl_X3_127 dX3_numberOf_7 s_1 (by decide) rfl (by decide) ?_
    have r4 : (0 : Int) ≤ h0 1 0 ∧ h0 1 0 ≤ 6 := hI.1.1 1 0
    refine sx_icmp_ge (tgt := 32) dX3_numberOf_10 (by decide) (fun c5 => ?_) (fun c5 => ?_)
    ·
      refine sx_iconst dX3_numberOf_32 ⟨by decide, by decide⟩ ?_
      refine sx_ireturn dX3_numberOf_33 ?_
      exact ⟨_, rfl, rfl⟩
    ·
      refine sx_aload_n dX3_numberOf_13 rfl ?_
      refine sx_getS (k := 3) (t := 46) cl_3 fl_X3_32 dX3_numberOf_14 s_33 (by decide) rfl (by decide) ?_
      refine sx_iload_n dX3_numberOf_17 rfl ?_
      refine sx_laload dX3_numberOf_18 s_46 (by decide) (by decide) ⟨by omega, by omega⟩ ?_
      refine sx_lload_n dX3_numberOf_19 rfl ?_
      refine sx_lcmp dX3_numberOf_20 ?_
      refine sx_if_ne (tgt := 26) dX3_numberOf_21 (by decide) (fun c6 => ?_) (fun c6 => ?_)
      ·
        refine sx_iinc dX3_numberOf_26 (by decide) rfl ?_
        rw [sw_w_id (by omega) (by omega)]
        refine sx_goto (tgt := 2) dX3_numberOf_29 (by decide) ?_
        exact ihh1 _ _ ⟨rfl, by omega⟩ (by exact sy_dec (by omega) (by omega))
      ·
        refine sx_iload_n dX3_numberOf_24 rfl ?_
        refine sx_ireturn dX3_numberOf_25 ?_
        exact ⟨_, rfl, rfl⟩
  · exact ⟨rfl, by omega⟩
set_option maxRecDepth 20000 in
set_option maxHeartbeats 4000000 in
theorem c_X3_readName_1 {G : sw_G} (d : Nat) {h0 : sw_H} (hJ : cJ h0) (hc : h0 33 9 = 1) (hw : h0 1 0 ≤ 5) : sw_E G NH SH (d + 9) mX3_readName 0 [some (sw_r 33)] [] h0 (sw_Qv (fun h' => cK prR h0 h')) := by
  have hI : cK prR h0 h0 := cK.refl hJ
  refine sx_aload_n dX3_readName_0 rfl ?_
  refine sx_getS (k := 0) (t := 34) cl_3 fl_X3_12 dX3_readName_1 s_33 (by decide) rfl (by decide) ?_
  refine sx_getI (k := 4) cl_5 fl_X3_121 dX3_readName_4 s_34 (by decide) rfl (by decide) ?_
  refine sx_iconst dX3_readName_7 ⟨by decide, by decide⟩ ?_
  refine sx_icmp_eq (tgt := 21) dX3_readName_8 (by decide) (fun c1 => ?_) (fun c1 => ?_)
  ·
    refine sx_aload_n dX3_readName_21 rfl ?_
    refine sx_aload_n dX3_readName_22 rfl ?_
    refine sx_getS (k := 0) (t := 34) cl_3 fl_X3_12 dX3_readName_23 s_33 (by decide) rfl (by decide) ?_
    refine sx_getL (k := 6) cl_5 fl_X3_139 dX3_readName_26 s_34 (by decide) rfl (by decide) ?_
    refine sx_callVi lk_X3_143 cl_3 s_33 (by decide) dX3_readName_29 (vs := [_]) rfl rfl (Nat.le_of_ble_eq_true rfl) (Nat.le_of_ble_eq_true rfl) rfl (c_X3_numberOf_1 _ hI.1 (by omega) _) (fun x3 h2 ph2 => ?_)
    subst ph2
    refine sx_iconst dX3_readName_32 ⟨by decide, by decide⟩ ?_
    refine sx_icmp_eq (tgt := 47) dX3_readName_33 (by decide) (fun c4 => ?_) (fun c4 => ?_)
    ·
      refine sx_aload_n dX3_readName_47 rfl ?_
      refine sx_getS (k := 3) (t := 46) cl_3 fl_X3_32 dX3_readName_48 s_33 (by decide) rfl (by decide) ?_
      refine sx_aload_n dX3_readName_51 rfl ?_
      refine sx_getR (k := 9) (t := 1) cl_3 fl_X3_40 dX3_readName_52 s_33 (by decide) rfl (by decide) (by omega) ?_
      refine sx_getI (k := 0) cl_0 fl_X3_127 dX3_readName_55 s_1 (by decide) rfl (by decide) ?_
      have r5 : (0 : Int) ≤ h0 1 0 ∧ h0 1 0 ≤ 6 := hI.1.1 1 0
      refine sx_aload_n dX3_readName_58 rfl ?_
      refine sx_getS (k := 0) (t := 34) cl_3 fl_X3_12 dX3_readName_59 s_33 (by decide) rfl (by decide) ?_
      refine sx_getL (k := 6) cl_5 fl_X3_139 dX3_readName_62 s_34 (by decide) rfl (by decide) ?_
      refine sy_lastore dX3_readName_65 s_46 (by decide) (by decide) ⟨by omega, by omega⟩ (fun h6 eh6 => ?_)
      have Ih6 := hI.up eh6 trivial rfl rfl
      have th6_33_9 := eh6.2 (33) 9 (by omega)
      have th6_1_0 := eh6.2 (1) 0 (by omega)
      refine sx_ret dX3_readName_66 ?_
      exact ⟨rfl, Ih6⟩
    ·
      refine sx_aload_n dX3_readName_36 rfl ?_
      refine sx_getS (k := 0) (t := 34) cl_3 fl_X3_12 dX3_readName_37 s_33 (by decide) rfl (by decide) ?_
      refine sx_iconst dX3_readName_40 ⟨by decide, by decide⟩ ?_
      refine sx_callVv lk_X3_124 cl_5 s_34 (by decide) dX3_readName_41 (vs := [_]) rfl rfl (Nat.le_of_ble_eq_true rfl) (Nat.le_of_ble_eq_true rfl) rfl (c_X5_fail _ hI.1 _) (fun h7 ph7 => ?_)
      obtain ⟨Kh7, f_h7⟩ := ph7
      have Ih7 := hI.tr Kh7 sb_prR_prC
      have th7_33_9 := Kh7.2 (33) 9 rfl
      have th7_1_0 := Kh7.2 (1) 0 rfl
      refine sx_goto (tgt := 66) dX3_readName_44 (by decide) ?_
      refine sx_ret dX3_readName_66 ?_
      exact ⟨rfl, Ih7⟩
  ·
    refine sx_aload_n dX3_readName_11 rfl ?_
    refine sx_getS (k := 0) (t := 34) cl_3 fl_X3_12 dX3_readName_12 s_33 (by decide) rfl (by decide) ?_
    refine sx_callVv lk_X3_81 cl_5 s_34 (by decide) dX3_readName_15 (vs := []) rfl rfl (Nat.le_of_ble_eq_true rfl) (Nat.le_of_ble_eq_true rfl) rfl (c_X5_refuse _ hI.1) (fun h9 ph9 => ?_)
    obtain ⟨Kh9, f_h9⟩ := ph9
    have Ih9 := hI.tr Kh9 sb_prR_prC
    have th9_33_9 := Kh9.2 (33) 9 rfl
    have th9_1_0 := Kh9.2 (1) 0 rfl
    refine sx_goto (tgt := 66) dX3_readName_18 (by decide) ?_
    refine sx_ret dX3_readName_66 ?_
    exact ⟨rfl, Ih9⟩
set_option maxRecDepth 20000 in
set_option maxHeartbeats 4000000 in
theorem c_X3_readCall_1 {G : sw_G} (d : Nat) {h0 : sw_H} (hJ : cJ h0) (hc : h0 33 9 = 1)  : sw_E G NH SH (d + 8) mX3_readCall 0 [some (sw_r 33)] [] h0 (sw_Qv (fun h' => cK prX h0 h')) := by
  have hI : cK prX h0 h0 := cK.refl hJ
  refine sx_aload_n dX3_readCall_0 rfl ?_
  refine sx_iconst dX3_readCall_1 ⟨by decide, by decide⟩ ?_
  refine sy_putI (k := 7) cl_3 fl_X3_160 dX3_readCall_2 s_33 (by decide) rfl (by decide) rfl rfl (fun h1 eh1 => ?_)
  have Ih1 := hI.up eh1 trivial rfl rfl
  have th1_33_9 := eh1.2 (33) 9 (by decide)
  refine sx_aload_n dX3_readCall_5 rfl ?_
  refine sx_aload_n dX3_readCall_6 rfl ?_
  refine sx_aload_n dX3_readCall_7 rfl ?_
  refine sx_getS (k := 0) (t := 34) cl_3 fl_X3_12 dX3_readCall_8 s_33 (by decide) rfl (by decide) ?_
  refine sx_getL (k := 6) cl_5 fl_X3_139 dX3_readCall_11 s_34 (by decide) rfl (by decide) ?_
  refine sx_callVi lk_X3_143 cl_3 s_33 (by decide) dX3_readCall_14 (vs := [_]) rfl rfl (Nat.le_of_ble_eq_true rfl) (Nat.le_of_ble_eq_true rfl) rfl (c_X3_numberOf_1 _ Ih1.1 (by omega) _) (fun x3 h2 ph2 => ?_)
  subst ph2
  refine sy_putI (k := 8) cl_3 fl_X3_163 dX3_readCall_17 s_33 (by decide) rfl (by decide) rfl rfl (fun h4 eh4 => ?_)
  have Ih4 := Ih1.up eh4 trivial rfl rfl
  have th4_33_9 := eh4.2 (33) 9 (by decide)
  refine sx_aload_n dX3_readCall_20 rfl ?_
  refine sx_getI (k := 8) cl_3 fl_X3_163 dX3_readCall_21 s_33 (by decide) rfl (by decide) ?_
  refine sx_iconst dX3_readCall_24 ⟨by decide, by decide⟩ ?_
  refine sx_icmp_ne (tgt := 36) dX3_readCall_25 (by decide) (fun c5 => ?_) (fun c5 => ?_)
  ·
    refine sx_ret dX3_readCall_36 ?_
    exact ⟨rfl, Ih4⟩
  ·
    refine sx_aload_n dX3_readCall_28 rfl ?_
    refine sx_getS (k := 0) (t := 34) cl_3 fl_X3_12 dX3_readCall_29 s_33 (by decide) rfl (by decide) ?_
    refine sx_iconst dX3_readCall_32 ⟨by decide, by decide⟩ ?_
    refine sx_callVv lk_X3_124 cl_5 s_34 (by decide) dX3_readCall_33 (vs := [_]) rfl rfl (Nat.le_of_ble_eq_true rfl) (Nat.le_of_ble_eq_true rfl) rfl (c_X5_fail _ Ih4.1 _) (fun h6 ph6 => ?_)
    obtain ⟨Kh6, f_h6⟩ := ph6
    have Ih6 := Ih4.tr Kh6 sb_prX_prC
    have th6_33_9 := Kh6.2 (33) 9 rfl
    refine sx_ret dX3_readCall_36 ?_
    exact ⟨rfl, Ih6⟩
set_option maxRecDepth 20000 in
set_option maxHeartbeats 4000000 in
theorem c_X3_readOpening_1 {G : sw_G} (d : Nat) {h0 : sw_H} (hJ : cJ h0) (hc : h0 33 9 = 1) (hi : h0 1 1 ≤ 59) : sw_E G NH SH (d + 9) mX3_readOpening 0 [some (sw_r 33)] [] h0 (sw_Qv (fun h' => cK prX h0 h')) := by
  have hI : cK prX h0 h0 := cK.refl hJ
  refine sx_aload_n dX3_readOpening_0 rfl ?_
  refine sx_getI (k := 5) cl_3 fl_X3_147 dX3_readOpening_1 s_33 (by decide) rfl (by decide) ?_
  have r1 : (0 : Int) ≤ h0 33 5 ∧ h0 33 5 ≤ 4 := hI.1.1 33 5
  refine sx_iconst dX3_readOpening_4 ⟨by decide, by decide⟩ ?_
  refine sx_icmp_lt (tgt := 16) dX3_readOpening_5 (by decide) (fun c2 => ?_) (fun c2 => ?_)
  ·
    refine sx_aload_n dX3_readOpening_16 rfl ?_
    refine sx_getS (k := 4) (t := 47) cl_3 fl_X3_36 dX3_readOpening_17 s_33 (by decide) rfl (by decide) ?_
    refine sx_aload_n dX3_readOpening_20 rfl ?_
    refine sx_getI (k := 5) cl_3 fl_X3_147 dX3_readOpening_21 s_33 (by decide) rfl (by decide) ?_
    have r3 : (0 : Int) ≤ h0 33 5 ∧ h0 33 5 ≤ 4 := hI.1.1 33 5
    refine sx_aload_n dX3_readOpening_24 rfl ?_
    refine sx_getR (k := 9) (t := 1) cl_3 fl_X3_40 dX3_readOpening_25 s_33 (by decide) rfl (by decide) (by omega) ?_
    refine sx_getI (k := 1) cl_0 fl_X3_201 dX3_readOpening_28 s_1 (by decide) rfl (by decide) ?_
    have r4 : (0 : Int) ≤ h0 1 1 ∧ h0 1 1 ≤ 60 := hI.1.1 1 1
    refine sy_iastore dX3_readOpening_31 s_47 (by decide) (by decide) ⟨by omega, by omega⟩ (fun h5 eh5 => ?_)
    have Ih5 := hI.up eh5 (show (0 : Int) ≤ _ ∧ _ ≤ (59 : Int) from ⟨by omega, by omega⟩) rfl rfl
    have th5_33_9 := eh5.2 (33) 9 (by omega)
    have th5_33_5 := eh5.2 (33) 5 (by omega)
    have th5_1_1 := eh5.2 (1) 1 (by omega)
    refine sx_aload_n dX3_readOpening_32 rfl ?_
    refine sx_dupr dX3_readOpening_33 ?_
    refine sx_getI (k := 5) cl_3 fl_X3_147 dX3_readOpening_34 s_33 (by decide) rfl (by decide) ?_
    have r6 : (0 : Int) ≤ h5 33 5 ∧ h5 33 5 ≤ 4 := Ih5.1.1 33 5
    refine sx_iconst dX3_readOpening_37 ⟨by decide, by decide⟩ ?_
    refine sx_iadd dX3_readOpening_38 ?_
    refine sy_topw (by omega) ?_
    refine sy_putI (k := 5) cl_3 fl_X3_147 dX3_readOpening_39 s_33 (by decide) rfl (by decide) rfl rfl (fun h7 eh7 => ?_)
    have Ih7 := Ih5.up eh7 (show (0 : Int) ≤ _ ∧ _ ≤ (4 : Int) from ⟨by omega, by omega⟩) rfl rfl
    have th7_33_9 := eh7.2 (33) 9 (by decide)
    have th7_33_5 := eh7.1
    have th7_1_1 := eh7.2 (1) 1 (by decide)
    refine sx_aload_n dX3_readOpening_42 rfl ?_
    refine sx_aload_n dX3_readOpening_43 rfl ?_
    refine sx_getS (k := 0) (t := 34) cl_3 fl_X3_12 dX3_readOpening_44 s_33 (by decide) rfl (by decide) ?_
    refine sx_bipush dX3_readOpening_47 ⟨by decide, by decide, by decide⟩ ?_
    refine sx_callVz lk_X3_61 cl_5 s_34 (by decide) dX3_readOpening_49 (vs := [_]) rfl rfl (Nat.le_of_ble_eq_true rfl) (Nat.le_of_ble_eq_true rfl) rfl (c_X5_isKey _ Ih7.1 _) (fun x9 h8 zx9 ph8 => ?_)
    subst ph8
    refine sx_if_eq (tgt := 59) dX3_readOpening_52 (by decide) (fun c10 => ?_) (fun c10 => ?_)
    ·
      refine sx_bipush dX3_readOpening_59 ⟨by decide, by decide, by decide⟩ ?_
      refine sy_putI (k := 7) cl_3 fl_X3_160 dX3_readOpening_61 s_33 (by decide) rfl (by decide) rfl rfl (fun h11 eh11 => ?_)
      have Ih11 := Ih7.up eh11 trivial rfl rfl
      have th11_33_9 := eh11.2 (33) 9 (by decide)
      have th11_33_5 := eh11.2 (33) 5 (by decide)
      have th11_1_1 := eh11.2 (1) 1 (by decide)
      refine sx_aload_n dX3_readOpening_64 rfl ?_
      refine sx_iconst dX3_readOpening_65 ⟨by decide, by decide⟩ ?_
      refine sy_putI (k := 8) cl_3 fl_X3_163 dX3_readOpening_66 s_33 (by decide) rfl (by decide) rfl rfl (fun h12 eh12 => ?_)
      have Ih12 := Ih11.up eh12 trivial rfl rfl
      have th12_33_9 := eh12.2 (33) 9 (by decide)
      have th12_33_5 := eh12.2 (33) 5 (by decide)
      have th12_1_1 := eh12.2 (1) 1 (by decide)
      refine sx_ret dX3_readOpening_69 ?_
      exact ⟨rfl, Ih12⟩
    ·
      refine sx_iconst dX3_readOpening_55 ⟨by decide, by decide⟩ ?_
      refine sx_goto (tgt := 61) dX3_readOpening_56 (by decide) ?_
      refine sy_putI (k := 7) cl_3 fl_X3_160 dX3_readOpening_61 s_33 (by decide) rfl (by decide) rfl rfl (fun h13 eh13 => ?_)
      have Ih13 := Ih7.up eh13 trivial rfl rfl
      have th13_33_9 := eh13.2 (33) 9 (by decide)
      have th13_33_5 := eh13.2 (33) 5 (by decide)
      have th13_1_1 := eh13.2 (1) 1 (by decide)
      refine sx_aload_n dX3_readOpening_64 rfl ?_
      refine sx_iconst dX3_readOpening_65 ⟨by decide, by decide⟩ ?_
      refine sy_putI (k := 8) cl_3 fl_X3_163 dX3_readOpening_66 s_33 (by decide) rfl (by decide) rfl rfl (fun h14 eh14 => ?_)
      have Ih14 := Ih13.up eh14 trivial rfl rfl
      have th14_33_9 := eh14.2 (33) 9 (by decide)
      have th14_33_5 := eh14.2 (33) 5 (by decide)
      have th14_1_1 := eh14.2 (1) 1 (by decide)
      refine sx_ret dX3_readOpening_69 ?_
      exact ⟨rfl, Ih14⟩
  ·
    refine sx_aload_n dX3_readOpening_8 rfl ?_
    refine sx_getS (k := 0) (t := 34) cl_3 fl_X3_12 dX3_readOpening_9 s_33 (by decide) rfl (by decide) ?_
    refine sx_callVv lk_X3_81 cl_5 s_34 (by decide) dX3_readOpening_12 (vs := []) rfl rfl (Nat.le_of_ble_eq_true rfl) (Nat.le_of_ble_eq_true rfl) rfl (c_X5_refuse _ hI.1) (fun h15 ph15 => ?_)
    obtain ⟨Kh15, f_h15⟩ := ph15
    have Ih15 := hI.tr Kh15 sb_prX_prC
    have th15_33_9 := Kh15.2 (33) 9 rfl
    have th15_33_5 := Kh15.2 (33) 5 rfl
    have th15_1_1 := Kh15.2 (1) 1 rfl
    refine sx_ret dX3_readOpening_15 ?_
    exact ⟨rfl, Ih15⟩
set_option maxRecDepth 20000 in
set_option maxHeartbeats 4000000 in
theorem c_X3_readClosing_1 {G : sw_G} (d : Nat) {h0 : sw_H} (hJ : cJ h0) (hc : h0 33 9 = 1) (hi : h0 1 1 ≤ 59) : sw_E G NH SH (d + 9) mX3_readClosing 0 [some (sw_r 33), none, none] [] h0 (sw_Qv (fun h' => cK prX h0 h')) := by
  have hI : cK prX h0 h0 := cK.refl hJ
  have J23_n1 : ∀ (q : Int) , (q = -1 ∨ (0 < h0 33 5 ∧ 0 ≤ q ∧ q ≤ 59)) → sw_E G NH SH (d + 9) mX3_readClosing 23 [some (sw_r 33), some (sw_i q), none] [] h0 (sw_Qv (fun h' => cK prX h0 h')) := by
    intro q_2 j3
    have J42_n4 : ∀ (u : Int) , (q_2 ≠ -1 ∨ u = -1) → sw_E G NH SH (d + 9) mX3_readClosing 42 [some (sw_r 33), some (sw_i q_2), some (sw_i u)] [] h0 (sw_Qv (fun h' => cK prX h0 h')) := by
      intro u_5 j6
      refine sx_aload_n dX3_readClosing_42 rfl ?_
      refine sx_iconst dX3_readClosing_43 ⟨by decide, by decide⟩ ?_
      refine sy_putI (k := 8) cl_3 fl_X3_163 dX3_readClosing_44 s_33 (by decide) rfl (by decide) rfl rfl (fun h7 eh7 => ?_)
      have Ih7 := hI.up eh7 trivial rfl rfl
      have th7_33_9 := eh7.2 (33) 9 (by decide)
      have th7_33_5 := eh7.2 (33) 5 (by decide)
      have th7_1_1 := eh7.2 (1) 1 (by decide)
      refine sx_aload_n dX3_readClosing_47 rfl ?_
      refine sx_getS (k := 0) (t := 34) cl_3 fl_X3_12 dX3_readClosing_48 s_33 (by decide) rfl (by decide) ?_
      refine sx_bipush dX3_readClosing_51 ⟨by decide, by decide, by decide⟩ ?_
      refine sx_callVz lk_X3_61 cl_5 s_34 (by decide) dX3_readClosing_53 (vs := [_]) rfl rfl (Nat.le_of_ble_eq_true rfl) (Nat.le_of_ble_eq_true rfl) rfl (c_X5_isKey _ Ih7.1 _) (fun x9 h8 zx9 ph8 => ?_)
      subst ph8
      refine sx_if_eq (tgt := 106) dX3_readClosing_56 (by decide) (fun c10 => ?_) (fun c10 => ?_)
      ·
        refine sx_aload_n dX3_readClosing_106 rfl ?_
        refine sx_getS (k := 0) (t := 34) cl_3 fl_X3_12 dX3_readClosing_107 s_33 (by decide) rfl (by decide) ?_
        refine sx_bipush dX3_readClosing_110 ⟨by decide, by decide, by decide⟩ ?_
        refine sx_callVz lk_X3_61 cl_5 s_34 (by decide) dX3_readClosing_112 (vs := [_]) rfl rfl (Nat.le_of_ble_eq_true rfl) (Nat.le_of_ble_eq_true rfl) rfl (c_X5_isKey _ Ih7.1 _) (fun x12 h11 zx12 ph11 => ?_)
        subst ph11
        refine sx_if_eq (tgt := 162) dX3_readClosing_115 (by decide) (fun c13 => ?_) (fun c13 => ?_)
        ·
          refine sx_aload_n dX3_readClosing_162 rfl ?_
          refine sx_getS (k := 0) (t := 34) cl_3 fl_X3_12 dX3_readClosing_163 s_33 (by decide) rfl (by decide) ?_
          refine sx_bipush dX3_readClosing_166 ⟨by decide, by decide, by decide⟩ ?_
          refine sx_callVz lk_X3_61 cl_5 s_34 (by decide) dX3_readClosing_168 (vs := [_]) rfl rfl (Nat.le_of_ble_eq_true rfl) (Nat.le_of_ble_eq_true rfl) rfl (c_X5_isKey _ Ih7.1 _) (fun x15 h14 zx15 ph14 => ?_)
          subst ph14
          refine sx_if_eq (tgt := 215) dX3_readClosing_171 (by decide) (fun c16 => ?_) (fun c16 => ?_)
          ·
            refine sx_aload_n dX3_readClosing_215 rfl ?_
            refine sx_getS (k := 0) (t := 34) cl_3 fl_X3_12 dX3_readClosing_216 s_33 (by decide) rfl (by decide) ?_
            refine sx_callVv lk_X3_81 cl_5 s_34 (by decide) dX3_readClosing_219 (vs := []) rfl rfl (Nat.le_of_ble_eq_true rfl) (Nat.le_of_ble_eq_true rfl) rfl (c_X5_refuse _ Ih7.1) (fun h17 ph17 => ?_)
            obtain ⟨Kh17, f_h17⟩ := ph17
            have Ih17 := Ih7.tr Kh17 sb_prX_prC
            have th17_33_9 := Kh17.2 (33) 9 rfl
            have th17_33_5 := Kh17.2 (33) 5 rfl
            have th17_1_1 := Kh17.2 (1) 1 rfl
            refine sx_ret dX3_readClosing_222 ?_
            exact ⟨rfl, Ih17⟩
          ·
            refine sx_iload_n dX3_readClosing_174 rfl ?_
            refine sx_bipush dX3_readClosing_175 ⟨by decide, by decide, by decide⟩ ?_
            refine sx_icmp_ne (tgt := 215) dX3_readClosing_177 (by decide) (fun c19 => ?_) (fun c19 => ?_)
            ·
              refine sx_aload_n dX3_readClosing_215 rfl ?_
              refine sx_getS (k := 0) (t := 34) cl_3 fl_X3_12 dX3_readClosing_216 s_33 (by decide) rfl (by decide) ?_
              refine sx_callVv lk_X3_81 cl_5 s_34 (by decide) dX3_readClosing_219 (vs := []) rfl rfl (Nat.le_of_ble_eq_true rfl) (Nat.le_of_ble_eq_true rfl) rfl (c_X5_refuse _ Ih7.1) (fun h20 ph20 => ?_)
              obtain ⟨Kh20, f_h20⟩ := ph20
              have Ih20 := Ih7.tr Kh20 sb_prX_prC
              have th20_33_9 := Kh20.2 (33) 9 rfl
              have th20_33_5 := Kh20.2 (33) 5 rfl
              have th20_1_1 := Kh20.2 (1) 1 rfl
              refine sx_ret dX3_readClosing_222 ?_
              exact ⟨rfl, Ih20⟩
            ·
              refine sx_aload_n dX3_readClosing_180 rfl ?_
              refine sx_bipush dX3_readClosing_181 ⟨by decide, by decide, by decide⟩ ?_
              refine sy_putI (k := 7) cl_3 fl_X3_160 dX3_readClosing_183 s_33 (by decide) rfl (by decide) rfl rfl (fun h22 eh22 => ?_)
              have Ih22 := Ih7.up eh22 trivial rfl rfl
              have th22_33_9 := eh22.2 (33) 9 (by decide)
              have th22_33_5 := eh22.2 (33) 5 (by decide)
              have th22_1_1 := eh22.2 (1) 1 (by decide)
              refine sx_aload_n dX3_readClosing_186 rfl ?_
              refine sx_getR (k := 9) (t := 1) cl_3 fl_X3_40 dX3_readClosing_187 s_33 (by decide) rfl (by decide) (by omega) ?_
              refine sx_getS (k := 7) (t := 4) cl_0 fl_X3_215 dX3_readClosing_190 s_1 (by decide) rfl (by decide) ?_
              refine sx_aload_n dX3_readClosing_193 rfl ?_
              refine sx_getR (k := 9) (t := 1) cl_3 fl_X3_40 dX3_readClosing_194 s_33 (by decide) rfl (by decide) (by omega) ?_
              refine sx_getI (k := 1) cl_0 fl_X3_201 dX3_readClosing_197 s_1 (by decide) rfl (by decide) ?_
              have r23 : (0 : Int) ≤ h22 1 1 ∧ h22 1 1 ≤ 60 := Ih22.1.1 1 1
              refine sx_iload_n dX3_readClosing_200 rfl ?_
              refine sy_iastore dX3_readClosing_201 s_4 (by decide) (by decide) ⟨by omega, by omega⟩ (fun h24 eh24 => ?_)
              have Ih24 := Ih22.up eh24 (show (0 : Int) ≤ _ ∧ _ ≤ (59 : Int) from ⟨by omega, by omega⟩) rfl rfl
              have th24_33_9 := eh24.2 (33) 9 (by omega)
              have th24_33_5 := eh24.2 (33) 5 (by omega)
              have th24_1_1 := eh24.2 (1) 1 (by omega)
              refine sx_aload_n dX3_readClosing_202 rfl ?_
              refine sx_dupr dX3_readClosing_203 ?_
              refine sx_getI (k := 5) cl_3 fl_X3_147 dX3_readClosing_204 s_33 (by decide) rfl (by decide) ?_
              have r25 : (0 : Int) ≤ h24 33 5 ∧ h24 33 5 ≤ 4 := Ih24.1.1 33 5
              refine sx_iconst dX3_readClosing_207 ⟨by decide, by decide⟩ ?_
              refine sx_isub dX3_readClosing_208 ?_
              refine sy_topw (by omega) ?_
              refine sy_putI (k := 5) cl_3 fl_X3_147 dX3_readClosing_209 s_33 (by decide) rfl (by decide) rfl rfl (fun h26 eh26 => ?_)
              have Ih26 := Ih24.up eh26 (show (0 : Int) ≤ _ ∧ _ ≤ (4 : Int) from ⟨by omega, by omega⟩) rfl rfl
              have th26_33_9 := eh26.2 (33) 9 (by decide)
              have th26_33_5 := eh26.1
              have th26_1_1 := eh26.2 (1) 1 (by decide)
              refine sx_goto (tgt := 222) dX3_readClosing_212 (by decide) ?_
              refine sx_ret dX3_readClosing_222 ?_
              exact ⟨rfl, Ih26⟩
        ·
          refine sx_iload_n dX3_readClosing_118 rfl ?_
          refine sx_iconst dX3_readClosing_119 ⟨by decide, by decide⟩ ?_
          refine sx_icmp_eq (tgt := 128) dX3_readClosing_120 (by decide) (fun c27 => ?_) (fun c27 => ?_)
          ·
            refine sx_aload_n dX3_readClosing_128 rfl ?_
            refine sx_iconst dX3_readClosing_129 ⟨by decide, by decide⟩ ?_
            refine sy_putI (k := 7) cl_3 fl_X3_160 dX3_readClosing_130 s_33 (by decide) rfl (by decide) rfl rfl (fun h28 eh28 => ?_)
            have Ih28 := Ih7.up eh28 trivial rfl rfl
            have th28_33_9 := eh28.2 (33) 9 (by decide)
            have th28_33_5 := eh28.2 (33) 5 (by decide)
            have th28_1_1 := eh28.2 (1) 1 (by decide)
            refine sx_aload_n dX3_readClosing_133 rfl ?_
            refine sx_getR (k := 9) (t := 1) cl_3 fl_X3_40 dX3_readClosing_134 s_33 (by decide) rfl (by decide) (by omega) ?_
            refine sx_getS (k := 7) (t := 4) cl_0 fl_X3_215 dX3_readClosing_137 s_1 (by decide) rfl (by decide) ?_
            refine sx_iload_n dX3_readClosing_140 rfl ?_
            refine sx_aload_n dX3_readClosing_141 rfl ?_
            refine sx_getR (k := 9) (t := 1) cl_3 fl_X3_40 dX3_readClosing_142 s_33 (by decide) rfl (by decide) (by omega) ?_
            refine sx_getI (k := 1) cl_0 fl_X3_201 dX3_readClosing_145 s_1 (by decide) rfl (by decide) ?_
            have r29 : (0 : Int) ≤ h28 1 1 ∧ h28 1 1 ≤ 60 := Ih28.1.1 1 1
            refine sy_iastore dX3_readClosing_148 s_4 (by decide) (by decide) ⟨by omega, by omega⟩ (fun h30 eh30 => ?_)
            have Ih30 := Ih28.up eh30 (show (0 : Int) ≤ _ ∧ _ ≤ (59 : Int) from ⟨by omega, by omega⟩) rfl rfl
            have th30_33_9 := eh30.2 (33) 9 (by omega)
            have th30_33_5 := eh30.2 (33) 5 (by omega)
            have th30_1_1 := eh30.2 (1) 1 (by omega)
            refine sx_aload_n dX3_readClosing_149 rfl ?_
            refine sx_dupr dX3_readClosing_150 ?_
            refine sx_getI (k := 5) cl_3 fl_X3_147 dX3_readClosing_151 s_33 (by decide) rfl (by decide) ?_
            have r31 : (0 : Int) ≤ h30 33 5 ∧ h30 33 5 ≤ 4 := Ih30.1.1 33 5
            refine sx_iconst dX3_readClosing_154 ⟨by decide, by decide⟩ ?_
            refine sx_isub dX3_readClosing_155 ?_
            refine sy_topw (by omega) ?_
            refine sy_putI (k := 5) cl_3 fl_X3_147 dX3_readClosing_156 s_33 (by decide) rfl (by decide) rfl rfl (fun h32 eh32 => ?_)
            have Ih32 := Ih30.up eh32 (show (0 : Int) ≤ _ ∧ _ ≤ (4 : Int) from ⟨by omega, by omega⟩) rfl rfl
            have th32_33_9 := eh32.2 (33) 9 (by decide)
            have th32_33_5 := eh32.1
            have th32_1_1 := eh32.2 (1) 1 (by decide)
            refine sx_goto (tgt := 222) dX3_readClosing_159 (by decide) ?_
            refine sx_ret dX3_readClosing_222 ?_
            exact ⟨rfl, Ih32⟩
          ·
            refine sx_iload_n dX3_readClosing_123 rfl ?_
            refine sx_iconst dX3_readClosing_124 ⟨by decide, by decide⟩ ?_
            refine sx_icmp_ne (tgt := 162) dX3_readClosing_125 (by decide) (fun c33 => ?_) (fun c33 => ?_)
            ·
              refine sx_aload_n dX3_readClosing_162 rfl ?_
              refine sx_getS (k := 0) (t := 34) cl_3 fl_X3_12 dX3_readClosing_163 s_33 (by decide) rfl (by decide) ?_
              refine sx_bipush dX3_readClosing_166 ⟨by decide, by decide, by decide⟩ ?_
              refine sx_callVz lk_X3_61 cl_5 s_34 (by decide) dX3_readClosing_168 (vs := [_]) rfl rfl (Nat.le_of_ble_eq_true rfl) (Nat.le_of_ble_eq_true rfl) rfl (c_X5_isKey _ Ih7.1 _) (fun x35 h34 zx35 ph34 => ?_)
              subst ph34
              refine sx_if_eq (tgt := 215) dX3_readClosing_171 (by decide) (fun c36 => ?_) (fun c36 => ?_)
              ·
                refine sx_aload_n dX3_readClosing_215 rfl ?_
                refine sx_getS (k := 0) (t := 34) cl_3 fl_X3_12 dX3_readClosing_216 s_33 (by decide) rfl (by decide) ?_
                refine sx_callVv lk_X3_81 cl_5 s_34 (by decide) dX3_readClosing_219 (vs := []) rfl rfl (Nat.le_of_ble_eq_true rfl) (Nat.le_of_ble_eq_true rfl) rfl (c_X5_refuse _ Ih7.1) (fun h37 ph37 => ?_)
                obtain ⟨Kh37, f_h37⟩ := ph37
                have Ih37 := Ih7.tr Kh37 sb_prX_prC
                have th37_33_9 := Kh37.2 (33) 9 rfl
                have th37_33_5 := Kh37.2 (33) 5 rfl
                have th37_1_1 := Kh37.2 (1) 1 rfl
                refine sx_ret dX3_readClosing_222 ?_
                exact ⟨rfl, Ih37⟩
              ·
                refine sx_iload_n dX3_readClosing_174 rfl ?_
                refine sx_bipush dX3_readClosing_175 ⟨by decide, by decide, by decide⟩ ?_
                refine sx_icmp_ne (tgt := 215) dX3_readClosing_177 (by decide) (fun c39 => ?_) (fun c39 => ?_)
                ·
                  refine sx_aload_n dX3_readClosing_215 rfl ?_
                  refine sx_getS (k := 0) (t := 34) cl_3 fl_X3_12 dX3_readClosing_216 s_33 (by decide) rfl (by decide) ?_
                  refine sx_callVv lk_X3_81 cl_5 s_34 (by decide) dX3_readClosing_219 (vs := []) rfl rfl (Nat.le_of_ble_eq_true rfl) (Nat.le_of_ble_eq_true rfl) rfl (c_X5_refuse _ Ih7.1) (fun h40 ph40 => ?_)
                  obtain ⟨Kh40, f_h40⟩ := ph40
                  have Ih40 := Ih7.tr Kh40 sb_prX_prC
                  have th40_33_9 := Kh40.2 (33) 9 rfl
                  have th40_33_5 := Kh40.2 (33) 5 rfl
                  have th40_1_1 := Kh40.2 (1) 1 rfl
                  refine sx_ret dX3_readClosing_222 ?_
                  exact ⟨rfl, Ih40⟩
                ·
                  refine sx_aload_n dX3_readClosing_180 rfl ?_
                  refine sx_bipush dX3_readClosing_181 ⟨by decide, by decide, by decide⟩ ?_
                  refine sy_putI (k := 7) cl_3 fl_X3_160 dX3_readClosing_183 s_33 (by decide) rfl (by decide) rfl rfl (fun h42 eh42 => ?_)
                  have Ih42 := Ih7.up eh42 trivial rfl rfl
                  have th42_33_9 := eh42.2 (33) 9 (by decide)
                  have th42_33_5 := eh42.2 (33) 5 (by decide)
                  have th42_1_1 := eh42.2 (1) 1 (by decide)
                  refine sx_aload_n dX3_readClosing_186 rfl ?_
                  refine sx_getR (k := 9) (t := 1) cl_3 fl_X3_40 dX3_readClosing_187 s_33 (by decide) rfl (by decide) (by omega) ?_
                  refine sx_getS (k := 7) (t := 4) cl_0 fl_X3_215 dX3_readClosing_190 s_1 (by decide) rfl (by decide) ?_
                  refine sx_aload_n dX3_readClosing_193 rfl ?_
                  refine sx_getR (k := 9) (t := 1) cl_3 fl_X3_40 dX3_readClosing_194 s_33 (by decide) rfl (by decide) (by omega) ?_
                  refine sx_getI (k := 1) cl_0 fl_X3_201 dX3_readClosing_197 s_1 (by decide) rfl (by decide) ?_
                  have r43 : (0 : Int) ≤ h42 1 1 ∧ h42 1 1 ≤ 60 := Ih42.1.1 1 1
                  refine sx_iload_n dX3_readClosing_200 rfl ?_
                  refine sy_iastore dX3_readClosing_201 s_4 (by decide) (by decide) ⟨by omega, by omega⟩ (fun h44 eh44 => ?_)
                  have Ih44 := Ih42.up eh44 (show (0 : Int) ≤ _ ∧ _ ≤ (59 : Int) from ⟨by omega, by omega⟩) rfl rfl
                  have th44_33_9 := eh44.2 (33) 9 (by omega)
                  have th44_33_5 := eh44.2 (33) 5 (by omega)
                  have th44_1_1 := eh44.2 (1) 1 (by omega)
                  refine sx_aload_n dX3_readClosing_202 rfl ?_
                  refine sx_dupr dX3_readClosing_203 ?_
                  refine sx_getI (k := 5) cl_3 fl_X3_147 dX3_readClosing_204 s_33 (by decide) rfl (by decide) ?_
                  have r45 : (0 : Int) ≤ h44 33 5 ∧ h44 33 5 ≤ 4 := Ih44.1.1 33 5
                  refine sx_iconst dX3_readClosing_207 ⟨by decide, by decide⟩ ?_
                  refine sx_isub dX3_readClosing_208 ?_
                  refine sy_topw (by omega) ?_
                  refine sy_putI (k := 5) cl_3 fl_X3_147 dX3_readClosing_209 s_33 (by decide) rfl (by decide) rfl rfl (fun h46 eh46 => ?_)
                  have Ih46 := Ih44.up eh46 (show (0 : Int) ≤ _ ∧ _ ≤ (4 : Int) from ⟨by omega, by omega⟩) rfl rfl
                  have th46_33_9 := eh46.2 (33) 9 (by decide)
                  have th46_33_5 := eh46.1
                  have th46_1_1 := eh46.2 (1) 1 (by decide)
                  refine sx_goto (tgt := 222) dX3_readClosing_212 (by decide) ?_
                  refine sx_ret dX3_readClosing_222 ?_
                  exact ⟨rfl, Ih46⟩
            ·
              refine sx_aload_n dX3_readClosing_128 rfl ?_
              refine sx_iconst dX3_readClosing_129 ⟨by decide, by decide⟩ ?_
              refine sy_putI (k := 7) cl_3 fl_X3_160 dX3_readClosing_130 s_33 (by decide) rfl (by decide) rfl rfl (fun h47 eh47 => ?_)
              have Ih47 := Ih7.up eh47 trivial rfl rfl
              have th47_33_9 := eh47.2 (33) 9 (by decide)
              have th47_33_5 := eh47.2 (33) 5 (by decide)
              have th47_1_1 := eh47.2 (1) 1 (by decide)
              refine sx_aload_n dX3_readClosing_133 rfl ?_
              refine sx_getR (k := 9) (t := 1) cl_3 fl_X3_40 dX3_readClosing_134 s_33 (by decide) rfl (by decide) (by omega) ?_
              refine sx_getS (k := 7) (t := 4) cl_0 fl_X3_215 dX3_readClosing_137 s_1 (by decide) rfl (by decide) ?_
              refine sx_iload_n dX3_readClosing_140 rfl ?_
              refine sx_aload_n dX3_readClosing_141 rfl ?_
              refine sx_getR (k := 9) (t := 1) cl_3 fl_X3_40 dX3_readClosing_142 s_33 (by decide) rfl (by decide) (by omega) ?_
              refine sx_getI (k := 1) cl_0 fl_X3_201 dX3_readClosing_145 s_1 (by decide) rfl (by decide) ?_
              have r48 : (0 : Int) ≤ h47 1 1 ∧ h47 1 1 ≤ 60 := Ih47.1.1 1 1
              refine sy_iastore dX3_readClosing_148 s_4 (by decide) (by decide) ⟨by omega, by omega⟩ (fun h49 eh49 => ?_)
              have Ih49 := Ih47.up eh49 (show (0 : Int) ≤ _ ∧ _ ≤ (59 : Int) from ⟨by omega, by omega⟩) rfl rfl
              have th49_33_9 := eh49.2 (33) 9 (by omega)
              have th49_33_5 := eh49.2 (33) 5 (by omega)
              have th49_1_1 := eh49.2 (1) 1 (by omega)
              refine sx_aload_n dX3_readClosing_149 rfl ?_
              refine sx_dupr dX3_readClosing_150 ?_
              refine sx_getI (k := 5) cl_3 fl_X3_147 dX3_readClosing_151 s_33 (by decide) rfl (by decide) ?_
              have r50 : (0 : Int) ≤ h49 33 5 ∧ h49 33 5 ≤ 4 := Ih49.1.1 33 5
              refine sx_iconst dX3_readClosing_154 ⟨by decide, by decide⟩ ?_
              refine sx_isub dX3_readClosing_155 ?_
              refine sy_topw (by omega) ?_
              refine sy_putI (k := 5) cl_3 fl_X3_147 dX3_readClosing_156 s_33 (by decide) rfl (by decide) rfl rfl (fun h51 eh51 => ?_)
              have Ih51 := Ih49.up eh51 (show (0 : Int) ≤ _ ∧ _ ≤ (4 : Int) from ⟨by omega, by omega⟩) rfl rfl
              have th51_33_9 := eh51.2 (33) 9 (by decide)
              have th51_33_5 := eh51.1
              have th51_1_1 := eh51.2 (1) 1 (by decide)
              refine sx_goto (tgt := 222) dX3_readClosing_159 (by decide) ?_
              refine sx_ret dX3_readClosing_222 ?_
              exact ⟨rfl, Ih51⟩
      ·
        refine sx_iload_n dX3_readClosing_59 rfl ?_
        refine sx_iconst dX3_readClosing_60 ⟨by decide, by decide⟩ ?_
        refine sx_icmp_ne (tgt := 106) dX3_readClosing_61 (by decide) (fun c52 => ?_) (fun c52 => ?_)
        ·
          refine sx_aload_n dX3_readClosing_106 rfl ?_
          refine sx_getS (k := 0) (t := 34) cl_3 fl_X3_12 dX3_readClosing_107 s_33 (by decide) rfl (by decide) ?_
          refine sx_bipush dX3_readClosing_110 ⟨by decide, by decide, by decide⟩ ?_
          refine sx_callVz lk_X3_61 cl_5 s_34 (by decide) dX3_readClosing_112 (vs := [_]) rfl rfl (Nat.le_of_ble_eq_true rfl) (Nat.le_of_ble_eq_true rfl) rfl (c_X5_isKey _ Ih7.1 _) (fun x54 h53 zx54 ph53 => ?_)
          subst ph53
          refine sx_if_eq (tgt := 162) dX3_readClosing_115 (by decide) (fun c55 => ?_) (fun c55 => ?_)
          ·
            refine sx_aload_n dX3_readClosing_162 rfl ?_
            refine sx_getS (k := 0) (t := 34) cl_3 fl_X3_12 dX3_readClosing_163 s_33 (by decide) rfl (by decide) ?_
            refine sx_bipush dX3_readClosing_166 ⟨by decide, by decide, by decide⟩ ?_
            refine sx_callVz lk_X3_61 cl_5 s_34 (by decide) dX3_readClosing_168 (vs := [_]) rfl rfl (Nat.le_of_ble_eq_true rfl) (Nat.le_of_ble_eq_true rfl) rfl (c_X5_isKey _ Ih7.1 _) (fun x57 h56 zx57 ph56 => ?_)
            subst ph56
            refine sx_if_eq (tgt := 215) dX3_readClosing_171 (by decide) (fun c58 => ?_) (fun c58 => ?_)
            ·
              refine sx_aload_n dX3_readClosing_215 rfl ?_
              refine sx_getS (k := 0) (t := 34) cl_3 fl_X3_12 dX3_readClosing_216 s_33 (by decide) rfl (by decide) ?_
              refine sx_callVv lk_X3_81 cl_5 s_34 (by decide) dX3_readClosing_219 (vs := []) rfl rfl (Nat.le_of_ble_eq_true rfl) (Nat.le_of_ble_eq_true rfl) rfl (c_X5_refuse _ Ih7.1) (fun h59 ph59 => ?_)
              obtain ⟨Kh59, f_h59⟩ := ph59
              have Ih59 := Ih7.tr Kh59 sb_prX_prC
              have th59_33_9 := Kh59.2 (33) 9 rfl
              have th59_33_5 := Kh59.2 (33) 5 rfl
              have th59_1_1 := Kh59.2 (1) 1 rfl
              refine sx_ret dX3_readClosing_222 ?_
              exact ⟨rfl, Ih59⟩
            ·
              refine sx_iload_n dX3_readClosing_174 rfl ?_
              refine sx_bipush dX3_readClosing_175 ⟨by decide, by decide, by decide⟩ ?_
              refine sx_icmp_ne (tgt := 215) dX3_readClosing_177 (by decide) (fun c61 => ?_) (fun c61 => ?_)
              ·
                refine sx_aload_n dX3_readClosing_215 rfl ?_
                refine sx_getS (k := 0) (t := 34) cl_3 fl_X3_12 dX3_readClosing_216 s_33 (by decide) rfl (by decide) ?_
                refine sx_callVv lk_X3_81 cl_5 s_34 (by decide) dX3_readClosing_219 (vs := []) rfl rfl (Nat.le_of_ble_eq_true rfl) (Nat.le_of_ble_eq_true rfl) rfl (c_X5_refuse _ Ih7.1) (fun h62 ph62 => ?_)
                obtain ⟨Kh62, f_h62⟩ := ph62
                have Ih62 := Ih7.tr Kh62 sb_prX_prC
                have th62_33_9 := Kh62.2 (33) 9 rfl
                have th62_33_5 := Kh62.2 (33) 5 rfl
                have th62_1_1 := Kh62.2 (1) 1 rfl
                refine sx_ret dX3_readClosing_222 ?_
                exact ⟨rfl, Ih62⟩
              ·
                refine sx_aload_n dX3_readClosing_180 rfl ?_
                refine sx_bipush dX3_readClosing_181 ⟨by decide, by decide, by decide⟩ ?_
                refine sy_putI (k := 7) cl_3 fl_X3_160 dX3_readClosing_183 s_33 (by decide) rfl (by decide) rfl rfl (fun h64 eh64 => ?_)
                have Ih64 := Ih7.up eh64 trivial rfl rfl
                have th64_33_9 := eh64.2 (33) 9 (by decide)
                have th64_33_5 := eh64.2 (33) 5 (by decide)
                have th64_1_1 := eh64.2 (1) 1 (by decide)
                refine sx_aload_n dX3_readClosing_186 rfl ?_
                refine sx_getR (k := 9) (t := 1) cl_3 fl_X3_40 dX3_readClosing_187 s_33 (by decide) rfl (by decide) (by omega) ?_
                refine sx_getS (k := 7) (t := 4) cl_0 fl_X3_215 dX3_readClosing_190 s_1 (by decide) rfl (by decide) ?_
                refine sx_aload_n dX3_readClosing_193 rfl ?_
                refine sx_getR (k := 9) (t := 1) cl_3 fl_X3_40 dX3_readClosing_194 s_33 (by decide) rfl (by decide) (by omega) ?_
                refine sx_getI (k := 1) cl_0 fl_X3_201 dX3_readClosing_197 s_1 (by decide) rfl (by decide) ?_
                have r65 : (0 : Int) ≤ h64 1 1 ∧ h64 1 1 ≤ 60 := Ih64.1.1 1 1
                refine sx_iload_n dX3_readClosing_200 rfl ?_
                refine sy_iastore dX3_readClosing_201 s_4 (by decide) (by decide) ⟨by omega, by omega⟩ (fun h66 eh66 => ?_)
                have Ih66 := Ih64.up eh66 (show (0 : Int) ≤ _ ∧ _ ≤ (59 : Int) from ⟨by omega, by omega⟩) rfl rfl
                have th66_33_9 := eh66.2 (33) 9 (by omega)
                have th66_33_5 := eh66.2 (33) 5 (by omega)
                have th66_1_1 := eh66.2 (1) 1 (by omega)
                refine sx_aload_n dX3_readClosing_202 rfl ?_
                refine sx_dupr dX3_readClosing_203 ?_
                refine sx_getI (k := 5) cl_3 fl_X3_147 dX3_readClosing_204 s_33 (by decide) rfl (by decide) ?_
                have r67 : (0 : Int) ≤ h66 33 5 ∧ h66 33 5 ≤ 4 := Ih66.1.1 33 5
                refine sx_iconst dX3_readClosing_207 ⟨by decide, by decide⟩ ?_
                refine sx_isub dX3_readClosing_208 ?_
                refine sy_topw (by omega) ?_
                refine sy_putI (k := 5) cl_3 fl_X3_147 dX3_readClosing_209 s_33 (by decide) rfl (by decide) rfl rfl (fun h68 eh68 => ?_)
                have Ih68 := Ih66.up eh68 (show (0 : Int) ≤ _ ∧ _ ≤ (4 : Int) from ⟨by omega, by omega⟩) rfl rfl
                have th68_33_9 := eh68.2 (33) 9 (by decide)
                have th68_33_5 := eh68.1
                have th68_1_1 := eh68.2 (1) 1 (by decide)
                refine sx_goto (tgt := 222) dX3_readClosing_212 (by decide) ?_
                refine sx_ret dX3_readClosing_222 ?_
                exact ⟨rfl, Ih68⟩
          ·
            refine sx_iload_n dX3_readClosing_118 rfl ?_
            refine sx_iconst dX3_readClosing_119 ⟨by decide, by decide⟩ ?_
            refine sx_icmp_eq (tgt := 128) dX3_readClosing_120 (by decide) (fun c69 => ?_) (fun c69 => ?_)
            ·
              refine sx_aload_n dX3_readClosing_128 rfl ?_
              refine sx_iconst dX3_readClosing_129 ⟨by decide, by decide⟩ ?_
              refine sy_putI (k := 7) cl_3 fl_X3_160 dX3_readClosing_130 s_33 (by decide) rfl (by decide) rfl rfl (fun h70 eh70 => ?_)
              have Ih70 := Ih7.up eh70 trivial rfl rfl
              have th70_33_9 := eh70.2 (33) 9 (by decide)
              have th70_33_5 := eh70.2 (33) 5 (by decide)
              have th70_1_1 := eh70.2 (1) 1 (by decide)
              refine sx_aload_n dX3_readClosing_133 rfl ?_
              refine sx_getR (k := 9) (t := 1) cl_3 fl_X3_40 dX3_readClosing_134 s_33 (by decide) rfl (by decide) (by omega) ?_
              refine sx_getS (k := 7) (t := 4) cl_0 fl_X3_215 dX3_readClosing_137 s_1 (by decide) rfl (by decide) ?_
              refine sx_iload_n dX3_readClosing_140 rfl ?_
              refine sx_aload_n dX3_readClosing_141 rfl ?_
              refine sx_getR (k := 9) (t := 1) cl_3 fl_X3_40 dX3_readClosing_142 s_33 (by decide) rfl (by decide) (by omega) ?_
              refine sx_getI (k := 1) cl_0 fl_X3_201 dX3_readClosing_145 s_1 (by decide) rfl (by decide) ?_
              have r71 : (0 : Int) ≤ h70 1 1 ∧ h70 1 1 ≤ 60 := Ih70.1.1 1 1
              refine sy_iastore dX3_readClosing_148 s_4 (by decide) (by decide) ⟨by omega, by omega⟩ (fun h72 eh72 => ?_)
              have Ih72 := Ih70.up eh72 (show (0 : Int) ≤ _ ∧ _ ≤ (59 : Int) from ⟨by omega, by omega⟩) rfl rfl
              have th72_33_9 := eh72.2 (33) 9 (by omega)
              have th72_33_5 := eh72.2 (33) 5 (by omega)
              have th72_1_1 := eh72.2 (1) 1 (by omega)
              refine sx_aload_n dX3_readClosing_149 rfl ?_
              refine sx_dupr dX3_readClosing_150 ?_
              refine sx_getI (k := 5) cl_3 fl_X3_147 dX3_readClosing_151 s_33 (by decide) rfl (by decide) ?_
              have r73 : (0 : Int) ≤ h72 33 5 ∧ h72 33 5 ≤ 4 := Ih72.1.1 33 5
              refine sx_iconst dX3_readClosing_154 ⟨by decide, by decide⟩ ?_
              refine sx_isub dX3_readClosing_155 ?_
              refine sy_topw (by omega) ?_
              refine sy_putI (k := 5) cl_3 fl_X3_147 dX3_readClosing_156 s_33 (by decide) rfl (by decide) rfl rfl (fun h74 eh74 => ?_)
              have Ih74 := Ih72.up eh74 (show (0 : Int) ≤ _ ∧ _ ≤ (4 : Int) from ⟨by omega, by omega⟩) rfl rfl
              have th74_33_9 := eh74.2 (33) 9 (by decide)
              have th74_33_5 := eh74.1
              have th74_1_1 := eh74.2 (1) 1 (by decide)
              refine sx_goto (tgt := 222) dX3_readClosing_159 (by decide) ?_
              refine sx_ret dX3_readClosing_222 ?_
              exact ⟨rfl, Ih74⟩
            ·
              refine sx_iload_n dX3_readClosing_123 rfl ?_
              refine sx_iconst dX3_readClosing_124 ⟨by decide, by decide⟩ ?_
              refine sx_icmp_ne (tgt := 162) dX3_readClosing_125 (by decide) (fun c75 => ?_) (fun c75 => ?_)
              ·
                refine sx_aload_n dX3_readClosing_162 rfl ?_
                refine sx_getS (k := 0) (t := 34) cl_3 fl_X3_12 dX3_readClosing_163 s_33 (by decide) rfl (by decide) ?_
                refine sx_bipush dX3_readClosing_166 ⟨by decide, by decide, by decide⟩ ?_
                refine sx_callVz lk_X3_61 cl_5 s_34 (by decide) dX3_readClosing_168 (vs := [_]) rfl rfl (Nat.le_of_ble_eq_true rfl) (Nat.le_of_ble_eq_true rfl) rfl (c_X5_isKey _ Ih7.1 _) (fun x77 h76 zx77 ph76 => ?_)
                subst ph76
                refine sx_if_eq (tgt := 215) dX3_readClosing_171 (by decide) (fun c78 => ?_) (fun c78 => ?_)
                ·
                  refine sx_aload_n dX3_readClosing_215 rfl ?_
                  refine sx_getS (k := 0) (t := 34) cl_3 fl_X3_12 dX3_readClosing_216 s_33 (by decide) rfl (by decide) ?_
                  refine sx_callVv lk_X3_81 cl_5 s_34 (by decide) dX3_readClosing_219 (vs := []) rfl rfl (Nat.le_of_ble_eq_true rfl) (Nat.le_of_ble_eq_true rfl) rfl (c_X5_refuse _ Ih7.1) (fun h79 ph79 => ?_)
                  obtain ⟨Kh79, f_h79⟩ := ph79
                  have Ih79 := Ih7.tr Kh79 sb_prX_prC
                  have th79_33_9 := Kh79.2 (33) 9 rfl
                  have th79_33_5 := Kh79.2 (33) 5 rfl
                  have th79_1_1 := Kh79.2 (1) 1 rfl
                  refine sx_ret dX3_readClosing_222 ?_
                  exact ⟨rfl, Ih79⟩
                ·
                  refine sx_iload_n dX3_readClosing_174 rfl ?_
                  refine sx_bipush dX3_readClosing_175 ⟨by decide, by decide, by decide⟩ ?_
                  refine sx_icmp_ne (tgt := 215) dX3_readClosing_177 (by decide) (fun c81 => ?_) (fun c81 => ?_)
                  ·
                    refine sx_aload_n dX3_readClosing_215 rfl ?_
                    refine sx_getS (k := 0) (t := 34) cl_3 fl_X3_12 dX3_readClosing_216 s_33 (by decide) rfl (by decide) ?_
                    refine sx_callVv lk_X3_81 cl_5 s_34 (by decide) dX3_readClosing_219 (vs := []) rfl rfl (Nat.le_of_ble_eq_true rfl) (Nat.le_of_ble_eq_true rfl) rfl (c_X5_refuse _ Ih7.1) (fun h82 ph82 => ?_)
                    obtain ⟨Kh82, f_h82⟩ := ph82
                    have Ih82 := Ih7.tr Kh82 sb_prX_prC
                    have th82_33_9 := Kh82.2 (33) 9 rfl
                    have th82_33_5 := Kh82.2 (33) 5 rfl
                    have th82_1_1 := Kh82.2 (1) 1 rfl
                    refine sx_ret dX3_readClosing_222 ?_
                    exact ⟨rfl, Ih82⟩
                  ·
                    refine sx_aload_n dX3_readClosing_180 rfl ?_
                    refine sx_bipush dX3_readClosing_181 ⟨by decide, by decide, by decide⟩ ?_
                    refine sy_putI (k := 7) cl_3 fl_X3_160 dX3_readClosing_183 s_33 (by decide) rfl (by decide) rfl rfl (fun h84 eh84 => ?_)
                    have Ih84 := Ih7.up eh84 trivial rfl rfl
                    have th84_33_9 := eh84.2 (33) 9 (by decide)
                    have th84_33_5 := eh84.2 (33) 5 (by decide)
                    have th84_1_1 := eh84.2 (1) 1 (by decide)
                    refine sx_aload_n dX3_readClosing_186 rfl ?_
                    refine sx_getR (k := 9) (t := 1) cl_3 fl_X3_40 dX3_readClosing_187 s_33 (by decide) rfl (by decide) (by omega) ?_
                    refine sx_getS (k := 7) (t := 4) cl_0 fl_X3_215 dX3_readClosing_190 s_1 (by decide) rfl (by decide) ?_
                    refine sx_aload_n dX3_readClosing_193 rfl ?_
                    refine sx_getR (k := 9) (t := 1) cl_3 fl_X3_40 dX3_readClosing_194 s_33 (by decide) rfl (by decide) (by omega) ?_
                    refine sx_getI (k := 1) cl_0 fl_X3_201 dX3_readClosing_197 s_1 (by decide) rfl (by decide) ?_
                    have r85 : (0 : Int) ≤ h84 1 1 ∧ h84 1 1 ≤ 60 := Ih84.1.1 1 1
                    refine sx_iload_n dX3_readClosing_200 rfl ?_
                    refine sy_iastore dX3_readClosing_201 s_4 (by decide) (by decide) ⟨by omega, by omega⟩ (fun h86 eh86 => ?_)
                    have Ih86 := Ih84.up eh86 (show (0 : Int) ≤ _ ∧ _ ≤ (59 : Int) from ⟨by omega, by omega⟩) rfl rfl
                    have th86_33_9 := eh86.2 (33) 9 (by omega)
                    have th86_33_5 := eh86.2 (33) 5 (by omega)
                    have th86_1_1 := eh86.2 (1) 1 (by omega)
                    refine sx_aload_n dX3_readClosing_202 rfl ?_
                    refine sx_dupr dX3_readClosing_203 ?_
                    refine sx_getI (k := 5) cl_3 fl_X3_147 dX3_readClosing_204 s_33 (by decide) rfl (by decide) ?_
                    have r87 : (0 : Int) ≤ h86 33 5 ∧ h86 33 5 ≤ 4 := Ih86.1.1 33 5
                    refine sx_iconst dX3_readClosing_207 ⟨by decide, by decide⟩ ?_
                    refine sx_isub dX3_readClosing_208 ?_
                    refine sy_topw (by omega) ?_
                    refine sy_putI (k := 5) cl_3 fl_X3_147 dX3_readClosing_209 s_33 (by decide) rfl (by decide) rfl rfl (fun h88 eh88 => ?_)
                    have Ih88 := Ih86.up eh88 (show (0 : Int) ≤ _ ∧ _ ≤ (4 : Int) from ⟨by omega, by omega⟩) rfl rfl
                    have th88_33_9 := eh88.2 (33) 9 (by decide)
                    have th88_33_5 := eh88.1
                    have th88_1_1 := eh88.2 (1) 1 (by decide)
                    refine sx_goto (tgt := 222) dX3_readClosing_212 (by decide) ?_
                    refine sx_ret dX3_readClosing_222 ?_
                    exact ⟨rfl, Ih88⟩
              ·
                refine sx_aload_n dX3_readClosing_128 rfl ?_
                refine sx_iconst dX3_readClosing_129 ⟨by decide, by decide⟩ ?_
                refine sy_putI (k := 7) cl_3 fl_X3_160 dX3_readClosing_130 s_33 (by decide) rfl (by decide) rfl rfl (fun h89 eh89 => ?_)
                have Ih89 := Ih7.up eh89 trivial rfl rfl
                have th89_33_9 := eh89.2 (33) 9 (by decide)
                have th89_33_5 := eh89.2 (33) 5 (by decide)
                have th89_1_1 := eh89.2 (1) 1 (by decide)
                refine sx_aload_n dX3_readClosing_133 rfl ?_
                refine sx_getR (k := 9) (t := 1) cl_3 fl_X3_40 dX3_readClosing_134 s_33 (by decide) rfl (by decide) (by omega) ?_
                refine sx_getS (k := 7) (t := 4) cl_0 fl_X3_215 dX3_readClosing_137 s_1 (by decide) rfl (by decide) ?_
                refine sx_iload_n dX3_readClosing_140 rfl ?_
                refine sx_aload_n dX3_readClosing_141 rfl ?_
                refine sx_getR (k := 9) (t := 1) cl_3 fl_X3_40 dX3_readClosing_142 s_33 (by decide) rfl (by decide) (by omega) ?_
                refine sx_getI (k := 1) cl_0 fl_X3_201 dX3_readClosing_145 s_1 (by decide) rfl (by decide) ?_
                have r90 : (0 : Int) ≤ h89 1 1 ∧ h89 1 1 ≤ 60 := Ih89.1.1 1 1
                refine sy_iastore dX3_readClosing_148 s_4 (by decide) (by decide) ⟨by omega, by omega⟩ (fun h91 eh91 => ?_)
                have Ih91 := Ih89.up eh91 (show (0 : Int) ≤ _ ∧ _ ≤ (59 : Int) from ⟨by omega, by omega⟩) rfl rfl
                have th91_33_9 := eh91.2 (33) 9 (by omega)
                have th91_33_5 := eh91.2 (33) 5 (by omega)
                have th91_1_1 := eh91.2 (1) 1 (by omega)
                refine sx_aload_n dX3_readClosing_149 rfl ?_
                refine sx_dupr dX3_readClosing_150 ?_
                refine sx_getI (k := 5) cl_3 fl_X3_147 dX3_readClosing_151 s_33 (by decide) rfl (by decide) ?_
                have r92 : (0 : Int) ≤ h91 33 5 ∧ h91 33 5 ≤ 4 := Ih91.1.1 33 5
                refine sx_iconst dX3_readClosing_154 ⟨by decide, by decide⟩ ?_
                refine sx_isub dX3_readClosing_155 ?_
                refine sy_topw (by omega) ?_
                refine sy_putI (k := 5) cl_3 fl_X3_147 dX3_readClosing_156 s_33 (by decide) rfl (by decide) rfl rfl (fun h93 eh93 => ?_)
                have Ih93 := Ih91.up eh93 (show (0 : Int) ≤ _ ∧ _ ≤ (4 : Int) from ⟨by omega, by omega⟩) rfl rfl
                have th93_33_9 := eh93.2 (33) 9 (by decide)
                have th93_33_5 := eh93.1
                have th93_1_1 := eh93.2 (1) 1 (by decide)
                refine sx_goto (tgt := 222) dX3_readClosing_159 (by decide) ?_
                refine sx_ret dX3_readClosing_222 ?_
                exact ⟨rfl, Ih93⟩
        ·
          refine sx_aload_n dX3_readClosing_64 rfl ?_
          refine sx_iconst dX3_readClosing_65 ⟨by decide, by decide⟩ ?_
          refine sy_putI (k := 7) cl_3 fl_X3_160 dX3_readClosing_66 s_33 (by decide) rfl (by decide) rfl rfl (fun h94 eh94 => ?_)
          have Ih94 := Ih7.up eh94 trivial rfl rfl
          have th94_33_9 := eh94.2 (33) 9 (by decide)
          have th94_33_5 := eh94.2 (33) 5 (by decide)
          have th94_1_1 := eh94.2 (1) 1 (by decide)
          refine sx_aload_n dX3_readClosing_69 rfl ?_
          refine sx_getR (k := 9) (t := 1) cl_3 fl_X3_40 dX3_readClosing_70 s_33 (by decide) rfl (by decide) (by omega) ?_
          refine sx_getS (k := 7) (t := 4) cl_0 fl_X3_215 dX3_readClosing_73 s_1 (by decide) rfl (by decide) ?_
          refine sx_iload_n dX3_readClosing_76 rfl ?_
          refine sx_aload_n dX3_readClosing_77 rfl ?_
          refine sx_getR (k := 9) (t := 1) cl_3 fl_X3_40 dX3_readClosing_78 s_33 (by decide) rfl (by decide) (by omega) ?_
          refine sx_getI (k := 1) cl_0 fl_X3_201 dX3_readClosing_81 s_1 (by decide) rfl (by decide) ?_
          have r95 : (0 : Int) ≤ h94 1 1 ∧ h94 1 1 ≤ 60 := Ih94.1.1 1 1
          refine sy_iastore dX3_readClosing_84 s_4 (by decide) (by decide) ⟨by omega, by omega⟩ (fun h96 eh96 => ?_)
          have Ih96 := Ih94.up eh96 (show (0 : Int) ≤ _ ∧ _ ≤ (59 : Int) from ⟨by omega, by omega⟩) rfl rfl
          have th96_33_9 := eh96.2 (33) 9 (by omega)
          have th96_33_5 := eh96.2 (33) 5 (by omega)
          have th96_1_1 := eh96.2 (1) 1 (by omega)
          refine sx_aload_n dX3_readClosing_85 rfl ?_
          refine sx_getS (k := 4) (t := 47) cl_3 fl_X3_36 dX3_readClosing_86 s_33 (by decide) rfl (by decide) ?_
          refine sx_aload_n dX3_readClosing_89 rfl ?_
          refine sx_getI (k := 5) cl_3 fl_X3_147 dX3_readClosing_90 s_33 (by decide) rfl (by decide) ?_
          have r97 : (0 : Int) ≤ h96 33 5 ∧ h96 33 5 ≤ 4 := Ih96.1.1 33 5
          refine sx_iconst dX3_readClosing_93 ⟨by decide, by decide⟩ ?_
          refine sx_isub dX3_readClosing_94 ?_
          refine sy_topw (by omega) ?_
          refine sx_aload_n dX3_readClosing_95 rfl ?_
          refine sx_getR (k := 9) (t := 1) cl_3 fl_X3_40 dX3_readClosing_96 s_33 (by decide) rfl (by decide) (by omega) ?_
          refine sx_getI (k := 1) cl_0 fl_X3_201 dX3_readClosing_99 s_1 (by decide) rfl (by decide) ?_
          have r98 : (0 : Int) ≤ h96 1 1 ∧ h96 1 1 ≤ 60 := Ih96.1.1 1 1
          refine sy_iastore dX3_readClosing_102 s_47 (by decide) (by decide) ⟨by omega, by omega⟩ (fun h99 eh99 => ?_)
          have Ih99 := Ih96.up eh99 (show (0 : Int) ≤ _ ∧ _ ≤ (59 : Int) from ⟨by omega, by omega⟩) rfl rfl
          have th99_33_9 := eh99.2 (33) 9 (by omega)
          have th99_33_5 := eh99.2 (33) 5 (by omega)
          have th99_1_1 := eh99.2 (1) 1 (by omega)
          refine sx_goto (tgt := 222) dX3_readClosing_103 (by decide) ?_
          refine sx_ret dX3_readClosing_222 ?_
          exact ⟨rfl, Ih99⟩
    refine sx_iload_n dX3_readClosing_23 rfl ?_
    refine sx_iconst dX3_readClosing_24 ⟨by decide, by decide⟩ ?_
    refine sx_icmp_ne (tgt := 32) dX3_readClosing_25 (by decide) (fun c100 => ?_) (fun c100 => ?_)
    ·
      refine sx_aload_n dX3_readClosing_32 rfl ?_
      refine sx_getR (k := 9) (t := 1) cl_3 fl_X3_40 dX3_readClosing_33 s_33 (by decide) rfl (by decide) (by omega) ?_
      refine sx_getS (k := 5) (t := 2) cl_0 fl_X3_213 dX3_readClosing_36 s_1 (by decide) rfl (by decide) ?_
      refine sx_iload_n dX3_readClosing_39 rfl ?_
      refine sx_iaload dX3_readClosing_40 s_2 (by decide) (by decide) ⟨by omega, by omega⟩ ?_
      refine sy_top (fun v101 ev101 => ?_)
      refine sx_istore_n dX3_readClosing_41 (by decide) ?_
      exact J42_n4 _ (by omega)
    ·
      refine sx_iconst dX3_readClosing_28 ⟨by decide, by decide⟩ ?_
      refine sx_goto (tgt := 41) dX3_readClosing_29 (by decide) ?_
      refine sx_istore_n dX3_readClosing_41 (by decide) ?_
      exact J42_n4 _ (by omega)
  refine sx_aload_n dX3_readClosing_0 rfl ?_
  refine sx_getI (k := 5) cl_3 fl_X3_147 dX3_readClosing_1 s_33 (by decide) rfl (by decide) ?_
  have r102 : (0 : Int) ≤ h0 33 5 ∧ h0 33 5 ≤ 4 := hI.1.1 33 5
  refine sx_if_le (tgt := 21) dX3_readClosing_4 (by decide) (fun c103 => ?_) (fun c103 => ?_)
  ·
    refine sx_iconst dX3_readClosing_21 ⟨by decide, by decide⟩ ?_
    refine sx_istore_n dX3_readClosing_22 (by decide) ?_
    exact J23_n1 _ (by omega)
  ·
    refine sx_aload_n dX3_readClosing_7 rfl ?_
    refine sx_getS (k := 4) (t := 47) cl_3 fl_X3_36 dX3_readClosing_8 s_33 (by decide) rfl (by decide) ?_
    refine sx_aload_n dX3_readClosing_11 rfl ?_
    refine sx_getI (k := 5) cl_3 fl_X3_147 dX3_readClosing_12 s_33 (by decide) rfl (by decide) ?_
    have r104 : (0 : Int) ≤ h0 33 5 ∧ h0 33 5 ≤ 4 := hI.1.1 33 5
    refine sx_iconst dX3_readClosing_15 ⟨by decide, by decide⟩ ?_
    refine sx_isub dX3_readClosing_16 ?_
    refine sy_topw (by omega) ?_
    refine sy_iaF (F := fun z => (0 : Int) ≤ z ∧ z ≤ 59) dX3_readClosing_17 s_47 (by decide) (by decide) ⟨by omega, by omega⟩ (hI.1.1 47 _) (fun r105 => ?_)
    refine sx_goto (tgt := 22) dX3_readClosing_18 (by decide) ?_
    refine sy_top (fun v106 ev106 => ?_)
    refine sx_istore_n dX3_readClosing_22 (by decide) ?_
    exact J23_n1 _ (by omega)
set_option maxRecDepth 20000 in
set_option maxHeartbeats 4000000 in
theorem c_X3_readItem_1 {G : sw_G} (d : Nat) {h0 : sw_H} (hJ : cJ h0) (hc : h0 33 9 = 1)  : sw_E G NH SH (d + 10) mX3_readItem 0 [some (sw_r 33)] [] h0 (sw_Qv (fun h' => cK prR h0 h' ∧ (h' 34 7 = 0 → h' 1 1 ≤ 59))) := by
  have hI : cK prR h0 h0 := cK.refl hJ
  refine sx_aload_n dX3_readItem_0 rfl ?_
  refine sx_aload_n dX3_readItem_1 rfl ?_
  refine sx_getS (k := 0) (t := 34) cl_3 fl_X3_12 dX3_readItem_2 s_33 (by decide) rfl (by decide) ?_
  refine sx_getI (k := 5) cl_5 fl_X3_115 dX3_readItem_5 s_34 (by decide) rfl (by decide) ?_
  refine sy_putI (k := 8) cl_3 fl_X3_163 dX3_readItem_8 s_33 (by decide) rfl (by decide) rfl rfl (fun h1 eh1 => ?_)
  have Ih1 := hI.up eh1 trivial rfl rfl
  have th1_33_9 := eh1.2 (33) 9 (by decide)
  have th1_1_1 := eh1.2 (1) 1 (by decide)
  have th1_1_0 := eh1.2 (1) 0 (by decide)
  have th1_34_7 := eh1.2 (34) 7 (by decide)
  refine sx_aload_n dX3_readItem_11 rfl ?_
  refine sx_getR (k := 9) (t := 1) cl_3 fl_X3_40 dX3_readItem_12 s_33 (by decide) rfl (by decide) (by omega) ?_
  refine sx_getI (k := 1) cl_0 fl_X3_201 dX3_readItem_15 s_1 (by decide) rfl (by decide) ?_
  have r2 : (0 : Int) ≤ h1 1 1 ∧ h1 1 1 ≤ 60 := Ih1.1.1 1 1
  refine sx_bipush dX3_readItem_18 ⟨by decide, by decide, by decide⟩ ?_
  refine sx_icmp_ge (tgt := 51) dX3_readItem_20 (by decide) (fun c3 => ?_) (fun c3 => ?_)
  ·
    refine sx_aload_n dX3_readItem_51 rfl ?_
    refine sx_getS (k := 0) (t := 34) cl_3 fl_X3_12 dX3_readItem_52 s_33 (by decide) rfl (by decide) ?_
    refine sx_callVv lk_X3_81 cl_5 s_34 (by decide) dX3_readItem_55 (vs := []) rfl rfl (Nat.le_of_ble_eq_true rfl) (Nat.le_of_ble_eq_true rfl) rfl (c_X5_refuse _ Ih1.1) (fun h4 ph4 => ?_)
    obtain ⟨Kh4, f_h4⟩ := ph4
    have Ih4 := Ih1.tr Kh4 sb_prR_prC
    have th4_33_9 := Kh4.2 (33) 9 rfl
    have th4_1_1 := Kh4.2 (1) 1 rfl
    have th4_1_0 := Kh4.2 (1) 0 rfl
    refine sx_goto (tgt := 164) dX3_readItem_58 (by decide) ?_
    refine sx_ret dX3_readItem_164 ?_
    exact ⟨rfl, ⟨Ih4, fun q => by omega⟩⟩
  ·
    refine sx_aload_n dX3_readItem_23 rfl ?_
    refine sx_getR (k := 9) (t := 1) cl_3 fl_X3_40 dX3_readItem_24 s_33 (by decide) rfl (by decide) (by omega) ?_
    refine sx_getI (k := 1) cl_0 fl_X3_201 dX3_readItem_27 s_1 (by decide) rfl (by decide) ?_
    have r6 : (0 : Int) ≤ h1 1 1 ∧ h1 1 1 ≤ 60 := Ih1.1.1 1 1
    refine sx_aload_n dX3_readItem_30 rfl ?_
    refine sx_getR (k := 9) (t := 1) cl_3 fl_X3_40 dX3_readItem_31 s_33 (by decide) rfl (by decide) (by omega) ?_
    refine sx_getS (k := 9) (t := 6) cl_0 fl_X3_198 dX3_readItem_34 s_1 (by decide) rfl (by decide) ?_
    refine sx_aload_n dX3_readItem_37 rfl ?_
    refine sx_getR (k := 9) (t := 1) cl_3 fl_X3_40 dX3_readItem_38 s_33 (by decide) rfl (by decide) (by omega) ?_
    refine sx_getI (k := 0) cl_0 fl_X3_127 dX3_readItem_41 s_1 (by decide) rfl (by decide) ?_
    have r7 : (0 : Int) ≤ h1 1 0 ∧ h1 1 0 ≤ 6 := Ih1.1.1 1 0
    refine sy_iaF (F := fun z => (0 : Int) ≤ z ∧ z ≤ 60) dX3_readItem_44 s_6 (by decide) (by decide) ⟨by omega, by omega⟩ (Ih1.1.1 6 _) (fun r8 => ?_)
    refine sx_isub dX3_readItem_45 ?_
    refine sx_bipush dX3_readItem_46 ⟨by decide, by decide, by decide⟩ ?_
    refine sx_icmp_lt (tgt := 61) dX3_readItem_48 (by decide) (fun c9 => ?_) (fun c9 => ?_)
    ·
      refine sx_aload_n dX3_readItem_61 rfl ?_
      refine sx_getS (k := 0) (t := 34) cl_3 fl_X3_12 dX3_readItem_62 s_33 (by decide) rfl (by decide) ?_
      refine sx_getI (k := 4) cl_5 fl_X3_121 dX3_readItem_65 s_34 (by decide) rfl (by decide) ?_
      refine sx_iconst dX3_readItem_68 ⟨by decide, by decide⟩ ?_
      refine sx_icmp_ne (tgt := 80) dX3_readItem_69 (by decide) (fun c10 => ?_) (fun c10 => ?_)
      ·
        refine sx_aload_n dX3_readItem_80 rfl ?_
        refine sx_getS (k := 0) (t := 34) cl_3 fl_X3_12 dX3_readItem_81 s_33 (by decide) rfl (by decide) ?_
        refine sx_getI (k := 4) cl_5 fl_X3_121 dX3_readItem_84 s_34 (by decide) rfl (by decide) ?_
        refine sx_iconst dX3_readItem_87 ⟨by decide, by decide⟩ ?_
        refine sx_icmp_ne (tgt := 98) dX3_readItem_88 (by decide) (fun c11 => ?_) (fun c11 => ?_)
        ·
          refine sx_aload_n dX3_readItem_98 rfl ?_
          refine sx_getS (k := 0) (t := 34) cl_3 fl_X3_12 dX3_readItem_99 s_33 (by decide) rfl (by decide) ?_
          refine sx_getI (k := 4) cl_5 fl_X3_121 dX3_readItem_102 s_34 (by decide) rfl (by decide) ?_
          refine sx_iconst dX3_readItem_105 ⟨by decide, by decide⟩ ?_
          refine sx_icmp_ne (tgt := 129) dX3_readItem_106 (by decide) (fun c12 => ?_) (fun c12 => ?_)
          ·
            refine sx_aload_n dX3_readItem_129 rfl ?_
            refine sx_getS (k := 0) (t := 34) cl_3 fl_X3_12 dX3_readItem_130 s_33 (by decide) rfl (by decide) ?_
            refine sx_bipush dX3_readItem_133 ⟨by decide, by decide, by decide⟩ ?_
            refine sx_callVz lk_X3_61 cl_5 s_34 (by decide) dX3_readItem_135 (vs := [_]) rfl rfl (Nat.le_of_ble_eq_true rfl) (Nat.le_of_ble_eq_true rfl) rfl (c_X5_isKey _ Ih1.1 _) (fun x14 h13 zx14 ph13 => ?_)
            subst ph13
            refine sx_if_ne (tgt := 153) dX3_readItem_138 (by decide) (fun c15 => ?_) (fun c15 => ?_)
            ·
              refine sx_aload_n dX3_readItem_153 rfl ?_
              refine sx_callVv lk_X3_207 cl_3 s_33 (by decide) dX3_readItem_154 (vs := []) rfl rfl (Nat.le_of_ble_eq_true rfl) (Nat.le_of_ble_eq_true rfl) rfl (c_X3_readOpening_1 _ Ih1.1 (by omega) (by omega)) (fun h16 ph16 => ?_)
              have Kh16 := ph16
              have Ih16 := Ih1.tr Kh16 sb_prR_prX
              have th16_33_9 := Kh16.2 (33) 9 rfl
              have th16_1_1 := Kh16.2 (1) 1 rfl
              have th16_1_0 := Kh16.2 (1) 0 rfl
              refine sx_goto (tgt := 164) dX3_readItem_157 (by decide) ?_
              refine sx_ret dX3_readItem_164 ?_
              exact ⟨rfl, ⟨Ih16, fun q => by omega⟩⟩
            ·
              refine sx_aload_n dX3_readItem_141 rfl ?_
              refine sx_getS (k := 0) (t := 34) cl_3 fl_X3_12 dX3_readItem_142 s_33 (by decide) rfl (by decide) ?_
              refine sx_bipush dX3_readItem_145 ⟨by decide, by decide, by decide⟩ ?_
              refine sx_callVz lk_X3_61 cl_5 s_34 (by decide) dX3_readItem_147 (vs := [_]) rfl rfl (Nat.le_of_ble_eq_true rfl) (Nat.le_of_ble_eq_true rfl) rfl (c_X5_isKey _ Ih1.1 _) (fun x19 h18 zx19 ph18 => ?_)
              subst ph18
              refine sx_if_eq (tgt := 160) dX3_readItem_150 (by decide) (fun c20 => ?_) (fun c20 => ?_)
              ·
                refine sx_aload_n dX3_readItem_160 rfl ?_
                refine sx_callVv lk_X3_210 cl_3 s_33 (by decide) dX3_readItem_161 (vs := []) rfl rfl (Nat.le_of_ble_eq_true rfl) (Nat.le_of_ble_eq_true rfl) rfl (c_X3_readClosing_1 _ Ih1.1 (by omega) (by omega)) (fun h21 ph21 => ?_)
                have Kh21 := ph21
                have Ih21 := Ih1.tr Kh21 sb_prR_prX
                have th21_33_9 := Kh21.2 (33) 9 rfl
                have th21_1_1 := Kh21.2 (1) 1 rfl
                have th21_1_0 := Kh21.2 (1) 0 rfl
                refine sx_ret dX3_readItem_164 ?_
                exact ⟨rfl, ⟨Ih21, fun q => by omega⟩⟩
              ·
                refine sx_aload_n dX3_readItem_153 rfl ?_
                refine sx_callVv lk_X3_207 cl_3 s_33 (by decide) dX3_readItem_154 (vs := []) rfl rfl (Nat.le_of_ble_eq_true rfl) (Nat.le_of_ble_eq_true rfl) rfl (c_X3_readOpening_1 _ Ih1.1 (by omega) (by omega)) (fun h23 ph23 => ?_)
                have Kh23 := ph23
                have Ih23 := Ih1.tr Kh23 sb_prR_prX
                have th23_33_9 := Kh23.2 (33) 9 rfl
                have th23_1_1 := Kh23.2 (1) 1 rfl
                have th23_1_0 := Kh23.2 (1) 0 rfl
                refine sx_goto (tgt := 164) dX3_readItem_157 (by decide) ?_
                refine sx_ret dX3_readItem_164 ?_
                exact ⟨rfl, ⟨Ih23, fun q => by omega⟩⟩
          ·
            refine sx_aload_n dX3_readItem_109 rfl ?_
            refine sx_getS (k := 0) (t := 34) cl_3 fl_X3_12 dX3_readItem_110 s_33 (by decide) rfl (by decide) ?_
            refine sx_getI (k := 5) cl_5 fl_X3_115 dX3_readItem_113 s_34 (by decide) rfl (by decide) ?_
            refine sx_bipush dX3_readItem_116 ⟨by decide, by decide, by decide⟩ ?_
            refine sx_icmp_ge (tgt := 129) dX3_readItem_118 (by decide) (fun c25 => ?_) (fun c25 => ?_)
            ·
              refine sx_aload_n dX3_readItem_129 rfl ?_
              refine sx_getS (k := 0) (t := 34) cl_3 fl_X3_12 dX3_readItem_130 s_33 (by decide) rfl (by decide) ?_
              refine sx_bipush dX3_readItem_133 ⟨by decide, by decide, by decide⟩ ?_
              refine sx_callVz lk_X3_61 cl_5 s_34 (by decide) dX3_readItem_135 (vs := [_]) rfl rfl (Nat.le_of_ble_eq_true rfl) (Nat.le_of_ble_eq_true rfl) rfl (c_X5_isKey _ Ih1.1 _) (fun x27 h26 zx27 ph26 => ?_)
              subst ph26
              refine sx_if_ne (tgt := 153) dX3_readItem_138 (by decide) (fun c28 => ?_) (fun c28 => ?_)
              ·
                refine sx_aload_n dX3_readItem_153 rfl ?_
                refine sx_callVv lk_X3_207 cl_3 s_33 (by decide) dX3_readItem_154 (vs := []) rfl rfl (Nat.le_of_ble_eq_true rfl) (Nat.le_of_ble_eq_true rfl) rfl (c_X3_readOpening_1 _ Ih1.1 (by omega) (by omega)) (fun h29 ph29 => ?_)
                have Kh29 := ph29
                have Ih29 := Ih1.tr Kh29 sb_prR_prX
                have th29_33_9 := Kh29.2 (33) 9 rfl
                have th29_1_1 := Kh29.2 (1) 1 rfl
                have th29_1_0 := Kh29.2 (1) 0 rfl
                refine sx_goto (tgt := 164) dX3_readItem_157 (by decide) ?_
                refine sx_ret dX3_readItem_164 ?_
                exact ⟨rfl, ⟨Ih29, fun q => by omega⟩⟩
              ·
                refine sx_aload_n dX3_readItem_141 rfl ?_
                refine sx_getS (k := 0) (t := 34) cl_3 fl_X3_12 dX3_readItem_142 s_33 (by decide) rfl (by decide) ?_
                refine sx_bipush dX3_readItem_145 ⟨by decide, by decide, by decide⟩ ?_
                refine sx_callVz lk_X3_61 cl_5 s_34 (by decide) dX3_readItem_147 (vs := [_]) rfl rfl (Nat.le_of_ble_eq_true rfl) (Nat.le_of_ble_eq_true rfl) rfl (c_X5_isKey _ Ih1.1 _) (fun x32 h31 zx32 ph31 => ?_)
                subst ph31
                refine sx_if_eq (tgt := 160) dX3_readItem_150 (by decide) (fun c33 => ?_) (fun c33 => ?_)
                ·
                  refine sx_aload_n dX3_readItem_160 rfl ?_
                  refine sx_callVv lk_X3_210 cl_3 s_33 (by decide) dX3_readItem_161 (vs := []) rfl rfl (Nat.le_of_ble_eq_true rfl) (Nat.le_of_ble_eq_true rfl) rfl (c_X3_readClosing_1 _ Ih1.1 (by omega) (by omega)) (fun h34 ph34 => ?_)
                  have Kh34 := ph34
                  have Ih34 := Ih1.tr Kh34 sb_prR_prX
                  have th34_33_9 := Kh34.2 (33) 9 rfl
                  have th34_1_1 := Kh34.2 (1) 1 rfl
                  have th34_1_0 := Kh34.2 (1) 0 rfl
                  refine sx_ret dX3_readItem_164 ?_
                  exact ⟨rfl, ⟨Ih34, fun q => by omega⟩⟩
                ·
                  refine sx_aload_n dX3_readItem_153 rfl ?_
                  refine sx_callVv lk_X3_207 cl_3 s_33 (by decide) dX3_readItem_154 (vs := []) rfl rfl (Nat.le_of_ble_eq_true rfl) (Nat.le_of_ble_eq_true rfl) rfl (c_X3_readOpening_1 _ Ih1.1 (by omega) (by omega)) (fun h36 ph36 => ?_)
                  have Kh36 := ph36
                  have Ih36 := Ih1.tr Kh36 sb_prR_prX
                  have th36_33_9 := Kh36.2 (33) 9 rfl
                  have th36_1_1 := Kh36.2 (1) 1 rfl
                  have th36_1_0 := Kh36.2 (1) 0 rfl
                  refine sx_goto (tgt := 164) dX3_readItem_157 (by decide) ?_
                  refine sx_ret dX3_readItem_164 ?_
                  exact ⟨rfl, ⟨Ih36, fun q => by omega⟩⟩
            ·
              refine sx_aload_n dX3_readItem_121 rfl ?_
              refine sx_iconst dX3_readItem_122 ⟨by decide, by decide⟩ ?_
              refine sy_putI (k := 7) cl_3 fl_X3_160 dX3_readItem_123 s_33 (by decide) rfl (by decide) rfl rfl (fun h38 eh38 => ?_)
              have Ih38 := Ih1.up eh38 trivial rfl rfl
              have th38_33_9 := eh38.2 (33) 9 (by decide)
              have th38_1_1 := eh38.2 (1) 1 (by decide)
              have th38_1_0 := eh38.2 (1) 0 (by decide)
              have th38_34_7 := eh38.2 (34) 7 (by decide)
              refine sx_goto (tgt := 164) dX3_readItem_126 (by decide) ?_
              refine sx_ret dX3_readItem_164 ?_
              exact ⟨rfl, ⟨Ih38, fun q => by omega⟩⟩
        ·
          refine sx_aload_n dX3_readItem_91 rfl ?_
          refine sx_callVv lk_X3_204 cl_3 s_33 (by decide) dX3_readItem_92 (vs := []) rfl rfl (Nat.le_of_ble_eq_true rfl) (Nat.le_of_ble_eq_true rfl) rfl (c_X3_readCall_1 _ Ih1.1 (by omega)) (fun h39 ph39 => ?_)
          have Kh39 := ph39
          have Ih39 := Ih1.tr Kh39 sb_prR_prX
          have th39_33_9 := Kh39.2 (33) 9 rfl
          have th39_1_1 := Kh39.2 (1) 1 rfl
          have th39_1_0 := Kh39.2 (1) 0 rfl
          refine sx_goto (tgt := 164) dX3_readItem_95 (by decide) ?_
          refine sx_ret dX3_readItem_164 ?_
          exact ⟨rfl, ⟨Ih39, fun q => by omega⟩⟩
      ·
        refine sx_aload_n dX3_readItem_72 rfl ?_
        refine sx_iconst dX3_readItem_73 ⟨by decide, by decide⟩ ?_
        refine sy_putI (k := 7) cl_3 fl_X3_160 dX3_readItem_74 s_33 (by decide) rfl (by decide) rfl rfl (fun h41 eh41 => ?_)
        have Ih41 := Ih1.up eh41 trivial rfl rfl
        have th41_33_9 := eh41.2 (33) 9 (by decide)
        have th41_1_1 := eh41.2 (1) 1 (by decide)
        have th41_1_0 := eh41.2 (1) 0 (by decide)
        have th41_34_7 := eh41.2 (34) 7 (by decide)
        refine sx_goto (tgt := 164) dX3_readItem_77 (by decide) ?_
        refine sx_ret dX3_readItem_164 ?_
        exact ⟨rfl, ⟨Ih41, fun q => by omega⟩⟩
    ·
      refine sx_aload_n dX3_readItem_51 rfl ?_
      refine sx_getS (k := 0) (t := 34) cl_3 fl_X3_12 dX3_readItem_52 s_33 (by decide) rfl (by decide) ?_
      refine sx_callVv lk_X3_81 cl_5 s_34 (by decide) dX3_readItem_55 (vs := []) rfl rfl (Nat.le_of_ble_eq_true rfl) (Nat.le_of_ble_eq_true rfl) rfl (c_X5_refuse _ Ih1.1) (fun h42 ph42 => ?_)
      obtain ⟨Kh42, f_h42⟩ := ph42
      have Ih42 := Ih1.tr Kh42 sb_prR_prC
      have th42_33_9 := Kh42.2 (33) 9 rfl
      have th42_1_1 := Kh42.2 (1) 1 rfl
      have th42_1_0 := Kh42.2 (1) 0 rfl
      refine sx_goto (tgt := 164) dX3_readItem_58 (by decide) ?_
      refine sx_ret dX3_readItem_164 ?_
      exact ⟨rfl, ⟨Ih42, fun q => by omega⟩⟩
set_option maxRecDepth 20000 in
set_option maxHeartbeats 4000000 in
theorem c_X3_addItem_1 {G : sw_G} (d : Nat) {h0 : sw_H} (hJ : cJ h0) (hc : h0 33 9 = 1) (ht : h0 36 0 = 1) (hi : h0 1 1 ≤ 59) : sw_E G NH SH (d + 10) mX3_addItem 0 [some (sw_r 33), none] [] h0 (sw_Qv (fun h' => cK prR h0 h')) := by
  have hI : cK prR h0 h0 := cK.refl hJ
  refine sx_aload_n dX3_addItem_0 rfl ?_
  refine sx_getS (k := 1) (t := 36) cl_3 fl_X3_21 dX3_addItem_1 s_33 (by decide) rfl (by decide) ?_
  refine sx_aload_n dX3_addItem_4 rfl ?_
  refine sx_getI (k := 7) cl_3 fl_X3_160 dX3_addItem_5 s_33 (by decide) rfl (by decide) ?_
  refine sx_aload_n dX3_addItem_8 rfl ?_
  refine sx_getI (k := 8) cl_3 fl_X3_163 dX3_addItem_9 s_33 (by decide) rfl (by decide) ?_
  refine sx_callVi lk_X3_218 cl_10 s_36 (by decide) dX3_addItem_12 (vs := [_, _]) rfl rfl (Nat.le_of_ble_eq_true rfl) (Nat.le_of_ble_eq_true rfl) rfl (c_X10_pass_36_1 _ hI.1 (by omega) _ _) (fun x2 h1 ph1 => ?_)
  obtain ⟨Kh1, f_h1⟩ := ph1
  have Ih1 := hI.tr Kh1 sb_prR_prT
  have th1_33_9 := Kh1.2 (33) 9 rfl
  have th1_1_1 := Kh1.2 (1) 1 rfl
  have th1_33_7 := Kh1.2 (33) 7 rfl
  have th1_33_8 := Kh1.2 (33) 8 rfl
  refine sx_istore_n dX3_addItem_15 (by decide) ?_
  refine sx_iload_n dX3_addItem_16 rfl ?_
  refine sx_if_eq (tgt := 29) dX3_addItem_17 (by decide) (fun c3 => ?_) (fun c3 => ?_)
  ·
    refine sx_aload_n dX3_addItem_29 rfl ?_
    refine sx_getR (k := 9) (t := 1) cl_3 fl_X3_40 dX3_addItem_30 s_33 (by decide) rfl (by decide) (by omega) ?_
    refine sx_getS (k := 5) (t := 2) cl_0 fl_X3_213 dX3_addItem_33 s_1 (by decide) rfl (by decide) ?_
    refine sx_aload_n dX3_addItem_36 rfl ?_
    refine sx_getR (k := 9) (t := 1) cl_3 fl_X3_40 dX3_addItem_37 s_33 (by decide) rfl (by decide) (by omega) ?_
    refine sx_getI (k := 1) cl_0 fl_X3_201 dX3_addItem_40 s_1 (by decide) rfl (by decide) ?_
    have r4 : (0 : Int) ≤ h1 1 1 ∧ h1 1 1 ≤ 60 := Ih1.1.1 1 1
    refine sx_aload_n dX3_addItem_43 rfl ?_
    refine sx_getI (k := 7) cl_3 fl_X3_160 dX3_addItem_44 s_33 (by decide) rfl (by decide) ?_
    refine sy_iastore dX3_addItem_47 s_2 (by decide) (by decide) ⟨by omega, by omega⟩ (fun h5 eh5 => ?_)
    have EA := eh5
    have IA := Ih1
    have tA := eh5.2 1 1 (by omega)
    have Ih5 := (Ih1.wide 1).up eh5 trivial (Or.inr rfl) rfl
    have th5_33_9 := eh5.2 (33) 9 (by omega)
    have th5_1_1 := eh5.2 (1) 1 (by omega)
    have th5_33_7 := eh5.2 (33) 7 (by omega)
    have th5_33_8 := eh5.2 (33) 8 (by omega)
    refine sx_aload_n dX3_addItem_48 rfl ?_
    refine sx_getR (k := 9) (t := 1) cl_3 fl_X3_40 dX3_addItem_49 s_33 (by decide) rfl (by decide) (by omega) ?_
    refine sx_getS (k := 6) (t := 3) cl_0 fl_X3_221 dX3_addItem_52 s_1 (by decide) rfl (by decide) ?_
    refine sx_aload_n dX3_addItem_55 rfl ?_
    refine sx_getR (k := 9) (t := 1) cl_3 fl_X3_40 dX3_addItem_56 s_33 (by decide) rfl (by decide) (by omega) ?_
    refine sx_getI (k := 1) cl_0 fl_X3_201 dX3_addItem_59 s_1 (by decide) rfl (by decide) ?_
    have r6 : (0 : Int) ≤ h5 1 1 ∧ h5 1 1 ≤ 60 := Ih5.1.1 1 1
    refine sx_aload_n dX3_addItem_62 rfl ?_
    refine sx_getI (k := 8) cl_3 fl_X3_163 dX3_addItem_63 s_33 (by decide) rfl (by decide) ?_
    refine sy_iastore dX3_addItem_66 s_3 (by decide) (by decide) ⟨by omega, by omega⟩ (fun h7 eh7 => ?_)
    have EB : sw_to h5 h7 3 _ _ := eh7
    rw [tA] at EB
    have Ih7 : cK prR h0 h7 := (Ih5.up eh7 trivial (Or.inr rfl) rfl).shut (R1_add (c := 1) (by decide) (IA.1.2 1 (by decide)) EA EB (fun q => by omega) (fun q => by omega))
    have th7_33_9 := eh7.2 (33) 9 (by omega)
    have th7_1_1 := eh7.2 (1) 1 (by omega)
    have th7_33_7 := eh7.2 (33) 7 (by omega)
    have th7_33_8 := eh7.2 (33) 8 (by omega)
    refine sx_aload_n dX3_addItem_67 rfl ?_
    refine sx_getR (k := 9) (t := 1) cl_3 fl_X3_40 dX3_addItem_68 s_33 (by decide) rfl (by decide) (by omega) ?_
    refine sx_getS (k := 8) (t := 5) cl_0 fl_X3_223 dX3_addItem_71 s_1 (by decide) rfl (by decide) ?_
    refine sx_aload_n dX3_addItem_74 rfl ?_
    refine sx_getR (k := 9) (t := 1) cl_3 fl_X3_40 dX3_addItem_75 s_33 (by decide) rfl (by decide) (by omega) ?_
    refine sx_getI (k := 1) cl_0 fl_X3_201 dX3_addItem_78 s_1 (by decide) rfl (by decide) ?_
    have r8 : (0 : Int) ≤ h7 1 1 ∧ h7 1 1 ≤ 60 := Ih7.1.1 1 1
    refine sx_aload_n dX3_addItem_81 rfl ?_
    refine sx_getS (k := 1) (t := 36) cl_3 fl_X3_21 dX3_addItem_82 s_33 (by decide) rfl (by decide) ?_
    refine sx_getI (k := 1) cl_10 fl_X3_180 dX3_addItem_85 s_36 (by decide) rfl (by decide) ?_
    refine sy_iastore dX3_addItem_88 s_5 (by decide) (by decide) ⟨by omega, by omega⟩ (fun h9 eh9 => ?_)
    have Ih9 := Ih7.up eh9 trivial rfl rfl
    have th9_33_9 := eh9.2 (33) 9 (by omega)
    have th9_1_1 := eh9.2 (1) 1 (by omega)
    have th9_33_7 := eh9.2 (33) 7 (by omega)
    have th9_33_8 := eh9.2 (33) 8 (by omega)
    refine sx_aload_n dX3_addItem_89 rfl ?_
    refine sx_getR (k := 9) (t := 1) cl_3 fl_X3_40 dX3_addItem_90 s_33 (by decide) rfl (by decide) (by omega) ?_
    refine sx_dupr dX3_addItem_93 ?_
    refine sx_getI (k := 1) cl_0 fl_X3_201 dX3_addItem_94 s_1 (by decide) rfl (by decide) ?_
    have r10 : (0 : Int) ≤ h9 1 1 ∧ h9 1 1 ≤ 60 := Ih9.1.1 1 1
    refine sx_iconst dX3_addItem_97 ⟨by decide, by decide⟩ ?_
    refine sx_iadd dX3_addItem_98 ?_
    refine sy_topw (by omega) ?_
    refine sy_putI (k := 1) cl_0 fl_X3_201 dX3_addItem_99 s_1 (by decide) rfl (by decide) rfl rfl (fun h11 eh11 => ?_)
    have Ih11 := Ih9.up eh11 (show (0 : Int) ≤ _ ∧ _ ≤ (60 : Int) from ⟨by omega, by omega⟩) rfl rfl
    have th11_33_9 := eh11.2 (33) 9 (by decide)
    have th11_1_1 := eh11.1
    have th11_33_7 := eh11.2 (33) 7 (by decide)
    have th11_33_8 := eh11.2 (33) 8 (by decide)
    refine sx_ret dX3_addItem_102 ?_
    exact ⟨rfl, Ih11⟩
  ·
    refine sx_aload_n dX3_addItem_20 rfl ?_
    refine sx_getS (k := 0) (t := 34) cl_3 fl_X3_12 dX3_addItem_21 s_33 (by decide) rfl (by decide) ?_
    refine sx_iload_n dX3_addItem_24 rfl ?_
    refine sx_callVv lk_X3_124 cl_5 s_34 (by decide) dX3_addItem_25 (vs := [_]) rfl rfl (Nat.le_of_ble_eq_true rfl) (Nat.le_of_ble_eq_true rfl) rfl (c_X5_fail _ Ih1.1 _) (fun h12 ph12 => ?_)
    obtain ⟨Kh12, f_h12⟩ := ph12
    have Ih12 := Ih1.tr Kh12 sb_prR_prC
    have th12_33_9 := Kh12.2 (33) 9 rfl
    have th12_1_1 := Kh12.2 (1) 1 rfl
    have th12_33_7 := Kh12.2 (33) 7 rfl
    have th12_33_8 := Kh12.2 (33) 8 rfl
    refine sx_ret dX3_addItem_28 ?_
    exact ⟨rfl, Ih12⟩
set_option maxRecDepth 20000 in
set_option maxHeartbeats 4000000 in
theorem c_X3_closeWord_1 {G : sw_G} (d : Nat) {h0 : sw_H} (hJ : cJ h0) (hc : h0 33 9 = 1) (hw : h0 1 0 ≤ 5) : sw_E G NH SH (d + 9) mX3_closeWord 0 [some (sw_r 33), none] [] h0 (sw_Qv (fun h' => cK pr0 h0 h')) := by
  have hI : cK pr0 h0 h0 := cK.refl hJ
  refine sx_aload_n dX3_closeWord_0 rfl ?_
  refine sx_getI (k := 5) cl_3 fl_X3_147 dX3_closeWord_1 s_33 (by decide) rfl (by decide) ?_
  have r1 : (0 : Int) ≤ h0 33 5 ∧ h0 33 5 ≤ 4 := hI.1.1 33 5
  refine sx_if_le (tgt := 15) dX3_closeWord_4 (by decide) (fun c2 => ?_) (fun c2 => ?_)
  ·
    refine sx_aload_n dX3_closeWord_15 rfl ?_
    refine sx_getS (k := 1) (t := 36) cl_3 fl_X3_21 dX3_closeWord_16 s_33 (by decide) rfl (by decide) ?_
    refine sx_callVz lk_X3_169 cl_10 s_36 (by decide) dX3_closeWord_19 (vs := []) rfl rfl (Nat.le_of_ble_eq_true rfl) (Nat.le_of_ble_eq_true rfl) rfl (c_X10_endsWell_36 _ hI.1) (fun x4 h3 zx4 ph3 => ?_)
    subst ph3
    refine sx_if_ne (tgt := 35) dX3_closeWord_22 (by decide) (fun c5 => ?_) (fun c5 => ?_)
    ·
      refine sx_aload_n dX3_closeWord_35 rfl ?_
      refine sx_getR (k := 9) (t := 1) cl_3 fl_X3_40 dX3_closeWord_36 s_33 (by decide) rfl (by decide) (by omega) ?_
      refine sx_getI (k := 0) cl_0 fl_X3_127 dX3_closeWord_39 s_1 (by decide) rfl (by decide) ?_
      have r6 : (0 : Int) ≤ h0 1 0 ∧ h0 1 0 ≤ 6 := hI.1.1 1 0
      refine sy_top (fun v7 ev7 => ?_)
      refine sx_istore_n dX3_closeWord_42 (by decide) ?_
      refine sx_aload_n dX3_closeWord_43 rfl ?_
      refine sx_getR (k := 9) (t := 1) cl_3 fl_X3_40 dX3_closeWord_44 s_33 (by decide) rfl (by decide) (by omega) ?_
      refine sx_getS (k := 10) (t := 7) cl_0 fl_X3_172 dX3_closeWord_47 s_1 (by decide) rfl (by decide) ?_
      refine sx_iload_n dX3_closeWord_50 rfl ?_
      refine sx_aload_n dX3_closeWord_51 rfl ?_
      refine sx_getS (k := 1) (t := 36) cl_3 fl_X3_21 dX3_closeWord_52 s_33 (by decide) rfl (by decide) ?_
      refine sx_getI (k := 3) cl_10 fl_X3_175 dX3_closeWord_55 s_36 (by decide) rfl (by decide) ?_
      have r8 : (0 : Int) ≤ h0 36 3 ∧ h0 36 3 ≤ 2147483647 := hI.1.1 36 3
      refine sy_iastore dX3_closeWord_58 s_7 (by decide) (by decide) ⟨by omega, by omega⟩ (fun h9 eh9 => ?_)
      have Ih9 := hI.up eh9 (show (0 : Int) ≤ _ ∧ _ ≤ (2147483647 : Int) from ⟨by omega, by omega⟩) rfl rfl
      have th9_33_9 := eh9.2 (33) 9 (by omega)
      have th9_1_0 := eh9.2 (1) 0 (by omega)
      refine sx_aload_n dX3_closeWord_59 rfl ?_
      refine sx_getR (k := 9) (t := 1) cl_3 fl_X3_40 dX3_closeWord_60 s_33 (by decide) rfl (by decide) (by omega) ?_
      refine sx_getS (k := 11) (t := 8) cl_0 fl_X3_177 dX3_closeWord_63 s_1 (by decide) rfl (by decide) ?_
      refine sx_iload_n dX3_closeWord_66 rfl ?_
      refine sx_aload_n dX3_closeWord_67 rfl ?_
      refine sx_getS (k := 1) (t := 36) cl_3 fl_X3_21 dX3_closeWord_68 s_33 (by decide) rfl (by decide) ?_
      refine sx_getI (k := 3) cl_10 fl_X3_175 dX3_closeWord_71 s_36 (by decide) rfl (by decide) ?_
      have r10 : (0 : Int) ≤ h9 36 3 ∧ h9 36 3 ≤ 2147483647 := Ih9.1.1 36 3
      refine sx_aload_n dX3_closeWord_74 rfl ?_
      refine sx_getS (k := 1) (t := 36) cl_3 fl_X3_21 dX3_closeWord_75 s_33 (by decide) rfl (by decide) ?_
      refine sx_getI (k := 1) cl_10 fl_X3_180 dX3_closeWord_78 s_36 (by decide) rfl (by decide) ?_
      refine sx_iadd dX3_closeWord_81 ?_
      refine sy_iastore dX3_closeWord_82 s_8 (by decide) (by decide) ⟨by omega, by omega⟩ (fun h11 eh11 => ?_)
      have Ih11 := Ih9.up eh11 trivial rfl rfl
      have th11_33_9 := eh11.2 (33) 9 (by omega)
      have th11_1_0 := eh11.2 (1) 0 (by omega)
      refine sx_aload_n dX3_closeWord_83 rfl ?_
      refine sx_getR (k := 9) (t := 1) cl_3 fl_X3_40 dX3_closeWord_84 s_33 (by decide) rfl (by decide) (by omega) ?_
      refine sx_getS (k := 12) (t := 9) cl_0 fl_X3_183 dX3_closeWord_87 s_1 (by decide) rfl (by decide) ?_
      refine sx_iload_n dX3_closeWord_90 rfl ?_
      refine sx_aload_n dX3_closeWord_91 rfl ?_
      refine sx_getS (k := 1) (t := 36) cl_3 fl_X3_21 dX3_closeWord_92 s_33 (by decide) rfl (by decide) ?_
      refine sx_getI (k := 4) cl_10 fl_X3_186 dX3_closeWord_95 s_36 (by decide) rfl (by decide) ?_
      refine sy_iastore dX3_closeWord_98 s_9 (by decide) (by decide) ⟨by omega, by omega⟩ (fun h12 eh12 => ?_)
      have Ih12 := Ih11.up eh12 trivial rfl rfl
      have th12_33_9 := eh12.2 (33) 9 (by omega)
      have th12_1_0 := eh12.2 (1) 0 (by omega)
      refine sx_aload_n dX3_closeWord_99 rfl ?_
      refine sx_getR (k := 9) (t := 1) cl_3 fl_X3_40 dX3_closeWord_100 s_33 (by decide) rfl (by decide) (by omega) ?_
      refine sx_getS (k := 13) (t := 10) cl_0 fl_X3_188 dX3_closeWord_103 s_1 (by decide) rfl (by decide) ?_
      refine sx_iload_n dX3_closeWord_106 rfl ?_
      refine sx_aload_n dX3_closeWord_107 rfl ?_
      refine sx_getS (k := 1) (t := 36) cl_3 fl_X3_21 dX3_closeWord_108 s_33 (by decide) rfl (by decide) ?_
      refine sx_getI (k := 5) cl_10 fl_X3_191 dX3_closeWord_111 s_36 (by decide) rfl (by decide) ?_
      refine sy_iastore dX3_closeWord_114 s_10 (by decide) (by decide) ⟨by omega, by omega⟩ (fun h13 eh13 => ?_)
      have Ih13 := Ih12.up eh13 trivial rfl rfl
      have th13_33_9 := eh13.2 (33) 9 (by omega)
      have th13_1_0 := eh13.2 (1) 0 (by omega)
      refine sx_aload_n dX3_closeWord_115 rfl ?_
      refine sx_getR (k := 9) (t := 1) cl_3 fl_X3_40 dX3_closeWord_116 s_33 (by decide) rfl (by decide) (by omega) ?_
      refine sx_getS (k := 14) (t := 11) cl_0 fl_X3_193 dX3_closeWord_119 s_1 (by decide) rfl (by decide) ?_
      refine sx_iload_n dX3_closeWord_122 rfl ?_
      refine sx_aload_n dX3_closeWord_123 rfl ?_
      refine sx_getS (k := 1) (t := 36) cl_3 fl_X3_21 dX3_closeWord_124 s_33 (by decide) rfl (by decide) ?_
      refine sx_getI (k := 6) cl_10 fl_X3_196 dX3_closeWord_127 s_36 (by decide) rfl (by decide) ?_
      refine sy_iastore dX3_closeWord_130 s_11 (by decide) (by decide) ⟨by omega, by omega⟩ (fun h14 eh14 => ?_)
      have Ih14 := Ih13.up eh14 trivial rfl rfl
      have th14_33_9 := eh14.2 (33) 9 (by omega)
      have th14_1_0 := eh14.2 (1) 0 (by omega)
      refine sx_aload_n dX3_closeWord_131 rfl ?_
      refine sx_getR (k := 9) (t := 1) cl_3 fl_X3_40 dX3_closeWord_132 s_33 (by decide) rfl (by decide) (by omega) ?_
      refine sx_dupr dX3_closeWord_135 ?_
      refine sx_getI (k := 0) cl_0 fl_X3_127 dX3_closeWord_136 s_1 (by decide) rfl (by decide) ?_
      have r15 : (0 : Int) ≤ h14 1 0 ∧ h14 1 0 ≤ 6 := Ih14.1.1 1 0
      refine sx_iconst dX3_closeWord_139 ⟨by decide, by decide⟩ ?_
      refine sx_iadd dX3_closeWord_140 ?_
      refine sy_topw (by omega) ?_
      refine sy_putI (k := 0) cl_0 fl_X3_127 dX3_closeWord_141 s_1 (by decide) rfl (by decide) rfl rfl (fun h16 eh16 => ?_)
      have Ih16 := Ih14.up eh16 (show (0 : Int) ≤ _ ∧ _ ≤ (6 : Int) from ⟨by omega, by omega⟩) rfl rfl
      have th16_33_9 := eh16.2 (33) 9 (by decide)
      have th16_1_0 := eh16.1
      refine sx_aload_n dX3_closeWord_144 rfl ?_
      refine sx_getR (k := 9) (t := 1) cl_3 fl_X3_40 dX3_closeWord_145 s_33 (by decide) rfl (by decide) (by omega) ?_
      refine sx_getS (k := 9) (t := 6) cl_0 fl_X3_198 dX3_closeWord_148 s_1 (by decide) rfl (by decide) ?_
      refine sx_aload_n dX3_closeWord_151 rfl ?_
      refine sx_getR (k := 9) (t := 1) cl_3 fl_X3_40 dX3_closeWord_152 s_33 (by decide) rfl (by decide) (by omega) ?_
      refine sx_getI (k := 0) cl_0 fl_X3_127 dX3_closeWord_155 s_1 (by decide) rfl (by decide) ?_
      have r17 : (0 : Int) ≤ h16 1 0 ∧ h16 1 0 ≤ 6 := Ih16.1.1 1 0
      refine sx_aload_n dX3_closeWord_158 rfl ?_
      refine sx_getR (k := 9) (t := 1) cl_3 fl_X3_40 dX3_closeWord_159 s_33 (by decide) rfl (by decide) (by omega) ?_
      refine sx_getI (k := 1) cl_0 fl_X3_201 dX3_closeWord_162 s_1 (by decide) rfl (by decide) ?_
      have r18 : (0 : Int) ≤ h16 1 1 ∧ h16 1 1 ≤ 60 := Ih16.1.1 1 1
      refine sy_iastore dX3_closeWord_165 s_6 (by decide) (by decide) ⟨by omega, by omega⟩ (fun h19 eh19 => ?_)
      have Ih19 := Ih16.up eh19 (show (0 : Int) ≤ _ ∧ _ ≤ (60 : Int) from ⟨by omega, by omega⟩) rfl rfl
      have th19_33_9 := eh19.2 (33) 9 (by omega)
      have th19_1_0 := eh19.2 (1) 0 (by omega)
      refine sx_ret dX3_closeWord_166 ?_
      exact ⟨rfl, Ih19⟩
    ·
      refine sx_aload_n dX3_closeWord_25 rfl ?_
      refine sx_getS (k := 0) (t := 34) cl_3 fl_X3_12 dX3_closeWord_26 s_33 (by decide) rfl (by decide) ?_
      refine sx_bipush dX3_closeWord_29 ⟨by decide, by decide, by decide⟩ ?_
      refine sx_callVv lk_X3_124 cl_5 s_34 (by decide) dX3_closeWord_31 (vs := [_]) rfl rfl (Nat.le_of_ble_eq_true rfl) (Nat.le_of_ble_eq_true rfl) rfl (c_X5_fail _ hI.1 _) (fun h20 ph20 => ?_)
      obtain ⟨Kh20, f_h20⟩ := ph20
      have Ih20 := hI.tr Kh20 sb_pr0_prC
      have th20_33_9 := Kh20.2 (33) 9 rfl
      have th20_1_0 := Kh20.2 (1) 0 rfl
      refine sx_ret dX3_closeWord_34 ?_
      exact ⟨rfl, Ih20⟩
  ·
    refine sx_aload_n dX3_closeWord_7 rfl ?_
    refine sx_getS (k := 0) (t := 34) cl_3 fl_X3_12 dX3_closeWord_8 s_33 (by decide) rfl (by decide) ?_
    refine sx_callVv lk_X3_81 cl_5 s_34 (by decide) dX3_closeWord_11 (vs := []) rfl rfl (Nat.le_of_ble_eq_true rfl) (Nat.le_of_ble_eq_true rfl) rfl (c_X5_refuse _ hI.1) (fun h22 ph22 => ?_)
    obtain ⟨Kh22, f_h22⟩ := ph22
    have Ih22 := hI.tr Kh22 sb_pr0_prC
    have th22_33_9 := Kh22.2 (33) 9 rfl
    have th22_1_0 := Kh22.2 (1) 0 rfl
    refine sx_ret dX3_closeWord_14 ?_
    exact ⟨rfl, Ih22⟩
set_option maxRecDepth 20000 in
set_option maxHeartbeats 4000000 in
theorem c_X3_readItems_1 {G : sw_G} (d : Nat) {h0 : sw_H} (hJ : cJ h0) (hc : h0 33 9 = 1) (hw : h0 1 0 ≤ 5) : sw_E G NH SH (d + 11) mX3_readItems 0 [some (sw_r 33), none] [] h0 (sw_Qv (fun h' => cK prQ h0 h')) := by
  have hI : cK prQ h0 h0 := cK.refl hJ
  refine sx_aload_n dX3_readItems_0 rfl ?_
  refine sx_iconst dX3_readItems_1 ⟨by decide, by decide⟩ ?_
  refine sy_putI (k := 5) cl_3 fl_X3_147 dX3_readItems_2 s_33 (by decide) rfl (by decide) rfl rfl (fun h1 eh1 => ?_)
  have Ih1 := hI.up eh1 (show (0 : Int) ≤ _ ∧ _ ≤ (4 : Int) from ⟨by omega, by omega⟩) rfl rfl
  have th1_33_9 := eh1.2 (33) 9 (by decide)
  have th1_36_0 := eh1.2 (36) 0 (by decide)
  have th1_1_0 := eh1.2 (1) 0 (by decide)
  have th1_1_1 := eh1.2 (1) 1 (by decide)
  have th1_34_7 := eh1.2 (34) 7 (by decide)
  refine sx_aload_n dX3_readItems_5 rfl ?_
  refine sx_getS (k := 1) (t := 36) cl_3 fl_X3_21 dX3_readItems_6 s_33 (by decide) rfl (by decide) ?_
  refine sx_aload_n dX3_readItems_9 rfl ?_
  refine sx_getR (k := 9) (t := 1) cl_3 fl_X3_40 dX3_readItems_10 s_33 (by decide) rfl (by decide) (by omega) ?_
  refine sx_callVv lk_X3_150 cl_10 s_36 (by decide) dX3_readItems_13 (vs := [_]) rfl rfl (Nat.le_of_ble_eq_true rfl) (Nat.le_of_ble_eq_true rfl) rfl (c_X10_begin_36_1 _ Ih1.1) (fun h2 ph2 => ?_)
  obtain ⟨Kh2, c_h2⟩ := ph2
  have Ih2 := Ih1.tr Kh2 sb_prQ_prU
  have th2_33_9 := Kh2.2 (33) 9 rfl
  have th2_1_0 := Kh2.2 (1) 0 rfl
  have th2_1_1 := Kh2.2 (1) 1 rfl
  have th2_34_7 := Kh2.2 (34) 7 rfl
  refine sx_iconst dX3_readItems_16 ⟨by decide, by decide⟩ ?_
  refine sx_istore_n dX3_readItems_17 (by decide) ?_
  refine sx_loop1 (fun (h : sw_H) (n : Int) => (cK prQ h0 h) ∧ (h 33 9 = 1) ∧ (h 36 0 = 1) ∧ (0 ≤ n)) (fun (h : sw_H) (n : Int) => (21 - n).toNat) (fun (h : sw_H) (n : Int) => sw_E G NH SH (d + 11) mX3_readItems 18 [some (sw_r 33), some (sw_i n)] [] h (sw_Qv (fun h' => cK prQ h0 h'))) ?_ _ _ ?_
  · rintro h4 n_5 ⟨Ih4, j6, j7, j8⟩ ihh4
    try dsimp only at ihh4
    refine sx_iload_n dX3_readItems_18 rfl ?_
    refine sx_bipush dX3_readItems_19 ⟨by decide, by decide, by decide⟩ ?_
    refine sx_icmp_gt (tgt := 122) dX3_readItems_21 (by decide) (fun c9 => ?_) (fun c9 => ?_)
    ·
      refine sx_ret dX3_readItems_122 ?_
      exact ⟨rfl, Ih4⟩
    ·
      refine sx_aload_n dX3_readItems_24 rfl ?_
      refine sx_getS (k := 0) (t := 34) cl_3 fl_X3_12 dX3_readItems_25 s_33 (by decide) rfl (by decide) ?_
      refine sx_getI (k := 7) cl_5 fl_X3_84 dX3_readItems_28 s_34 (by decide) rfl (by decide) ?_
      refine sx_if_ne (tgt := 122) dX3_readItems_31 (by decide) (fun c10 => ?_) (fun c10 => ?_)
      ·
        refine sx_ret dX3_readItems_122 ?_
        exact ⟨rfl, Ih4⟩
      ·
        refine sx_aload_n dX3_readItems_34 rfl ?_
        refine sx_getS (k := 0) (t := 34) cl_3 fl_X3_12 dX3_readItems_35 s_33 (by decide) rfl (by decide) ?_
        refine sx_callVv lk_X3_87 cl_5 s_34 (by decide) dX3_readItems_38 (vs := []) rfl rfl (Nat.le_of_ble_eq_true rfl) (Nat.le_of_ble_eq_true rfl) rfl (c_X5_advance _ Ih4.1) (fun h11 ph11 => ?_)
        have Kh11 := ph11
        have Ih11 := Ih4.tr Kh11 sb_prQ_prC
        have th11_33_9 := Kh11.2 (33) 9 rfl
        have th11_36_0 := Kh11.2 (36) 0 rfl
        have th11_1_0 := Kh11.2 (1) 0 rfl
        have th11_1_1 := Kh11.2 (1) 1 rfl
        refine sx_aload_n dX3_readItems_41 rfl ?_
        refine sx_getS (k := 0) (t := 34) cl_3 fl_X3_12 dX3_readItems_42 s_33 (by decide) rfl (by decide) ?_
        refine sx_bipush dX3_readItems_45 ⟨by decide, by decide, by decide⟩ ?_
        refine sx_callVz lk_X3_153 cl_5 s_34 (by decide) dX3_readItems_47 (vs := [_]) rfl rfl (Nat.le_of_ble_eq_true rfl) (Nat.le_of_ble_eq_true rfl) rfl (c_X5_isSign _ Ih11.1 _) (fun x14 h13 zx14 ph13 => ?_)
        subst ph13
        refine sx_if_eq (tgt := 54) dX3_readItems_50 (by decide) (fun c15 => ?_) (fun c15 => ?_)
        ·
          refine sx_aload_n dX3_readItems_54 rfl ?_
          refine sx_callVv lk_X3_157 cl_3 s_33 (by decide) dX3_readItems_55 (vs := []) rfl rfl (Nat.le_of_ble_eq_true rfl) (Nat.le_of_ble_eq_true rfl) rfl (c_X3_readItem_1 _ Ih11.1 (by omega)) (fun h16 ph16 => ?_)
          obtain ⟨Kh16, i_h16⟩ := ph16
          have Ih16 := Ih11.tr Kh16 sb_prQ_prR
          have th16_33_9 := Kh16.2 (33) 9 rfl
          have th16_36_0 := Kh16.2 (36) 0 rfl
          have th16_1_0 := Kh16.2 (1) 0 rfl
          refine sx_aload_n dX3_readItems_58 rfl ?_
          refine sx_getS (k := 0) (t := 34) cl_3 fl_X3_12 dX3_readItems_59 s_33 (by decide) rfl (by decide) ?_
          refine sx_getI (k := 7) cl_5 fl_X3_84 dX3_readItems_62 s_34 (by decide) rfl (by decide) ?_
          refine sx_if_ne (tgt := 102) dX3_readItems_65 (by decide) (fun c18 => ?_) (fun c18 => ?_)
          ·
            refine sx_aload_n dX3_readItems_102 rfl ?_
            refine sx_getS (k := 0) (t := 34) cl_3 fl_X3_12 dX3_readItems_103 s_33 (by decide) rfl (by decide) ?_
            refine sx_getI (k := 7) cl_5 fl_X3_84 dX3_readItems_106 s_34 (by decide) rfl (by decide) ?_
            refine sx_if_ne (tgt := 116) dX3_readItems_109 (by decide) (fun c19 => ?_) (fun c19 => ?_)
            ·
              refine sx_iinc dX3_readItems_116 (by decide) rfl ?_
              rw [sw_w_id (by omega) (by omega)]
              refine sx_goto (tgt := 18) dX3_readItems_119 (by decide) ?_
              exact ihh4 _ _ ⟨Ih16, by omega, by omega, by omega⟩ (by exact sy_dec (by omega) (by omega))
            ·
              refine sx_aload_n dX3_readItems_112 rfl ?_
              refine sx_callVv lk_X3_166 cl_3 s_33 (by decide) dX3_readItems_113 (vs := []) rfl rfl (Nat.le_of_ble_eq_true rfl) (Nat.le_of_ble_eq_true rfl) rfl (c_X3_addItem_1 _ Ih16.1 (by omega) (by omega) (by omega)) (fun h20 ph20 => ?_)
              have Kh20 := ph20
              have Ih20 := Ih16.tr Kh20 sb_prQ_prR
              have th20_33_9 := Kh20.2 (33) 9 rfl
              have th20_36_0 := Kh20.2 (36) 0 rfl
              have th20_1_0 := Kh20.2 (1) 0 rfl
              refine sx_iinc dX3_readItems_116 (by decide) rfl ?_
              rw [sw_w_id (by omega) (by omega)]
              refine sx_goto (tgt := 18) dX3_readItems_119 (by decide) ?_
              exact ihh4 _ _ ⟨Ih20, by omega, by omega, by omega⟩ (by exact sy_dec (by omega) (by omega))
          ·
            refine sx_aload_n dX3_readItems_68 rfl ?_
            refine sx_getI (k := 7) cl_3 fl_X3_160 dX3_readItems_69 s_33 (by decide) rfl (by decide) ?_
            refine sx_bipush dX3_readItems_72 ⟨by decide, by decide, by decide⟩ ?_
            refine sx_icmp_ne (tgt := 102) dX3_readItems_74 (by decide) (fun c22 => ?_) (fun c22 => ?_)
            ·
              refine sx_aload_n dX3_readItems_102 rfl ?_
              refine sx_getS (k := 0) (t := 34) cl_3 fl_X3_12 dX3_readItems_103 s_33 (by decide) rfl (by decide) ?_
              refine sx_getI (k := 7) cl_5 fl_X3_84 dX3_readItems_106 s_34 (by decide) rfl (by decide) ?_
              refine sx_if_ne (tgt := 116) dX3_readItems_109 (by decide) (fun c23 => ?_) (fun c23 => ?_)
              ·
                refine sx_iinc dX3_readItems_116 (by decide) rfl ?_
                rw [sw_w_id (by omega) (by omega)]
                refine sx_goto (tgt := 18) dX3_readItems_119 (by decide) ?_
                exact ihh4 _ _ ⟨Ih16, by omega, by omega, by omega⟩ (by exact sy_dec (by omega) (by omega))
              ·
                refine sx_aload_n dX3_readItems_112 rfl ?_
                refine sx_callVv lk_X3_166 cl_3 s_33 (by decide) dX3_readItems_113 (vs := []) rfl rfl (Nat.le_of_ble_eq_true rfl) (Nat.le_of_ble_eq_true rfl) rfl (c_X3_addItem_1 _ Ih16.1 (by omega) (by omega) (by omega)) (fun h24 ph24 => ?_)
                have Kh24 := ph24
                have Ih24 := Ih16.tr Kh24 sb_prQ_prR
                have th24_33_9 := Kh24.2 (33) 9 rfl
                have th24_36_0 := Kh24.2 (36) 0 rfl
                have th24_1_0 := Kh24.2 (1) 0 rfl
                refine sx_iinc dX3_readItems_116 (by decide) rfl ?_
                rw [sw_w_id (by omega) (by omega)]
                refine sx_goto (tgt := 18) dX3_readItems_119 (by decide) ?_
                exact ihh4 _ _ ⟨Ih24, by omega, by omega, by omega⟩ (by exact sy_dec (by omega) (by omega))
            ·
              refine sx_aload_n dX3_readItems_77 rfl ?_
              refine sx_getS (k := 0) (t := 34) cl_3 fl_X3_12 dX3_readItems_78 s_33 (by decide) rfl (by decide) ?_
              refine sx_callVv lk_X3_87 cl_5 s_34 (by decide) dX3_readItems_81 (vs := []) rfl rfl (Nat.le_of_ble_eq_true rfl) (Nat.le_of_ble_eq_true rfl) rfl (c_X5_advance _ Ih16.1) (fun h26 ph26 => ?_)
              have Kh26 := ph26
              have Ih26 := Ih16.tr Kh26 sb_prQ_prC
              have th26_33_9 := Kh26.2 (33) 9 rfl
              have th26_36_0 := Kh26.2 (36) 0 rfl
              have th26_1_0 := Kh26.2 (1) 0 rfl
              have th26_1_1 := Kh26.2 (1) 1 rfl
              refine sx_aload_n dX3_readItems_84 rfl ?_
              refine sx_iconst dX3_readItems_85 ⟨by decide, by decide⟩ ?_
              refine sx_bipush dX3_readItems_86 ⟨by decide, by decide, by decide⟩ ?_
              refine sx_callVv lk_X3_118 cl_3 s_33 (by decide) dX3_readItems_88 (vs := [_, _]) rfl rfl (Nat.le_of_ble_eq_true rfl) (Nat.le_of_ble_eq_true rfl) rfl (c_X3_requireNumber _ Ih26.1 _ _) (fun h28 ph28 => ?_)
              have Kh28 := ph28
              have Ih28 := Ih26.tr Kh28 sb_prQ_prC
              have th28_33_9 := Kh28.2 (33) 9 rfl
              have th28_36_0 := Kh28.2 (36) 0 rfl
              have th28_1_0 := Kh28.2 (1) 0 rfl
              have th28_1_1 := Kh28.2 (1) 1 rfl
              refine sx_aload_n dX3_readItems_91 rfl ?_
              refine sx_aload_n dX3_readItems_92 rfl ?_
              refine sx_getS (k := 0) (t := 34) cl_3 fl_X3_12 dX3_readItems_93 s_33 (by decide) rfl (by decide) ?_
              refine sx_getI (k := 5) cl_5 fl_X3_115 dX3_readItems_96 s_34 (by decide) rfl (by decide) ?_
              refine sy_putI (k := 8) cl_3 fl_X3_163 dX3_readItems_99 s_33 (by decide) rfl (by decide) rfl rfl (fun h30 eh30 => ?_)
              have Ih30 := Ih28.up eh30 trivial rfl rfl
              have th30_33_9 := eh30.2 (33) 9 (by decide)
              have th30_36_0 := eh30.2 (36) 0 (by decide)
              have th30_1_0 := eh30.2 (1) 0 (by decide)
              have th30_1_1 := eh30.2 (1) 1 (by decide)
              have th30_34_7 := eh30.2 (34) 7 (by decide)
              refine sx_aload_n dX3_readItems_102 rfl ?_
              refine sx_getS (k := 0) (t := 34) cl_3 fl_X3_12 dX3_readItems_103 s_33 (by decide) rfl (by decide) ?_
              refine sx_getI (k := 7) cl_5 fl_X3_84 dX3_readItems_106 s_34 (by decide) rfl (by decide) ?_
              refine sx_if_ne (tgt := 116) dX3_readItems_109 (by decide) (fun c31 => ?_) (fun c31 => ?_)
              ·
                refine sx_iinc dX3_readItems_116 (by decide) rfl ?_
                rw [sw_w_id (by omega) (by omega)]
                refine sx_goto (tgt := 18) dX3_readItems_119 (by decide) ?_
                exact ihh4 _ _ ⟨Ih30, by omega, by omega, by omega⟩ (by exact sy_dec (by omega) (by omega))
              ·
                refine sx_aload_n dX3_readItems_112 rfl ?_
                refine sx_callVv lk_X3_166 cl_3 s_33 (by decide) dX3_readItems_113 (vs := []) rfl rfl (Nat.le_of_ble_eq_true rfl) (Nat.le_of_ble_eq_true rfl) rfl (c_X3_addItem_1 _ Ih30.1 (by omega) (by omega) (by omega)) (fun h32 ph32 => ?_)
                have Kh32 := ph32
                have Ih32 := Ih30.tr Kh32 sb_prQ_prR
                have th32_33_9 := Kh32.2 (33) 9 rfl
                have th32_36_0 := Kh32.2 (36) 0 rfl
                have th32_1_0 := Kh32.2 (1) 0 rfl
                refine sx_iinc dX3_readItems_116 (by decide) rfl ?_
                rw [sw_w_id (by omega) (by omega)]
                refine sx_goto (tgt := 18) dX3_readItems_119 (by decide) ?_
                exact ihh4 _ _ ⟨Ih32, by omega, by omega, by omega⟩ (by exact sy_dec (by omega) (by omega))
        ·
          refine sx_ret dX3_readItems_53 ?_
          exact ⟨rfl, Ih11⟩
  · exact ⟨Ih2, by omega, by omega, by omega⟩
set_option maxRecDepth 20000 in
set_option maxHeartbeats 4000000 in
theorem c_X3_readNumberLine_1 {G : sw_G} (d : Nat) {h0 : sw_H} (hJ : cJ h0) (hc : h0 33 9 = 1) (k m : Int) : sw_E G NH SH (d + 10) mX3_readNumberLine 0 [some (sw_r 33), some (sw_i k), some (sw_i m), none] [] h0 (sw_Qi (fun z h' => cK prR h0 h')) := by
  have hI : cK prR h0 h0 := cK.refl hJ
  refine sx_aload_n dX3_readNumberLine_0 rfl ?_
  refine sx_iload_n dX3_readNumberLine_1 rfl ?_
  refine sx_callVz lk_X3_90 cl_3 s_33 (by decide) dX3_readNumberLine_2 (vs := [_]) rfl rfl (Nat.le_of_ble_eq_true rfl) (Nat.le_of_ble_eq_true rfl) rfl (c_X3_isToldAgain _ hI.1 _) (fun x2 h1 zx2 ph1 => ?_)
  have Kh1 := ph1
  have Ih1 := hI.tr Kh1 sb_prR_prR
  have th1_33_9 := Kh1.2 (33) 9 rfl
  refine sx_if_eq (tgt := 17) dX3_readNumberLine_5 (by decide) (fun c3 => ?_) (fun c3 => ?_)
  ·
    refine sx_aload_n dX3_readNumberLine_17 rfl ?_
    refine sx_getS (k := 0) (t := 34) cl_3 fl_X3_12 dX3_readNumberLine_18 s_33 (by decide) rfl (by decide) ?_
    refine sx_callVv lk_X3_87 cl_5 s_34 (by decide) dX3_readNumberLine_21 (vs := []) rfl rfl (Nat.le_of_ble_eq_true rfl) (Nat.le_of_ble_eq_true rfl) rfl (c_X5_advance _ Ih1.1) (fun h4 ph4 => ?_)
    have Kh4 := ph4
    have Ih4 := Ih1.tr Kh4 sb_prR_prC
    have th4_33_9 := Kh4.2 (33) 9 rfl
    refine sx_aload_n dX3_readNumberLine_24 rfl ?_
    refine sx_getS (k := 0) (t := 34) cl_3 fl_X3_12 dX3_readNumberLine_25 s_33 (by decide) rfl (by decide) ?_
    refine sx_getI (k := 5) cl_5 fl_X3_115 dX3_readNumberLine_28 s_34 (by decide) rfl (by decide) ?_
    refine sy_top (fun v6 ev6 => ?_)
    refine sx_istore_n dX3_readNumberLine_31 (by decide) ?_
    refine sx_aload_n dX3_readNumberLine_32 rfl ?_
    refine sx_iconst dX3_readNumberLine_33 ⟨by decide, by decide⟩ ?_
    refine sx_iload_n dX3_readNumberLine_34 rfl ?_
    refine sx_callVv lk_X3_118 cl_3 s_33 (by decide) dX3_readNumberLine_35 (vs := [_, _]) rfl rfl (Nat.le_of_ble_eq_true rfl) (Nat.le_of_ble_eq_true rfl) rfl (c_X3_requireNumber _ Ih4.1 _ _) (fun h7 ph7 => ?_)
    have Kh7 := ph7
    have Ih7 := Ih4.tr Kh7 sb_prR_prC
    have th7_33_9 := Kh7.2 (33) 9 rfl
    refine sx_aload_n dX3_readNumberLine_38 rfl ?_
    refine sx_getS (k := 0) (t := 34) cl_3 fl_X3_12 dX3_readNumberLine_39 s_33 (by decide) rfl (by decide) ?_
    refine sx_getI (k := 7) cl_5 fl_X3_84 dX3_readNumberLine_42 s_34 (by decide) rfl (by decide) ?_
    refine sx_if_ne (tgt := 64) dX3_readNumberLine_45 (by decide) (fun c9 => ?_) (fun c9 => ?_)
    ·
      refine sx_iload_n dX3_readNumberLine_64 rfl ?_
      refine sx_ireturn dX3_readNumberLine_65 ?_
      exact ⟨_, rfl, Ih7⟩
    ·
      refine sx_aload_n dX3_readNumberLine_48 rfl ?_
      refine sx_getS (k := 0) (t := 34) cl_3 fl_X3_12 dX3_readNumberLine_49 s_33 (by decide) rfl (by decide) ?_
      refine sx_callVv lk_X3_87 cl_5 s_34 (by decide) dX3_readNumberLine_52 (vs := []) rfl rfl (Nat.le_of_ble_eq_true rfl) (Nat.le_of_ble_eq_true rfl) rfl (c_X5_advance _ Ih7.1) (fun h10 ph10 => ?_)
      have Kh10 := ph10
      have Ih10 := Ih7.tr Kh10 sb_prR_prC
      have th10_33_9 := Kh10.2 (33) 9 rfl
      refine sx_aload_n dX3_readNumberLine_55 rfl ?_
      refine sx_getS (k := 0) (t := 34) cl_3 fl_X3_12 dX3_readNumberLine_56 s_33 (by decide) rfl (by decide) ?_
      refine sx_bipush dX3_readNumberLine_59 ⟨by decide, by decide, by decide⟩ ?_
      refine sx_callVv lk_X3_100 cl_5 s_34 (by decide) dX3_readNumberLine_61 (vs := [_]) rfl rfl (Nat.le_of_ble_eq_true rfl) (Nat.le_of_ble_eq_true rfl) rfl (c_X5_require _ Ih10.1 _) (fun h12 ph12 => ?_)
      have Kh12 := ph12
      have Ih12 := Ih10.tr Kh12 sb_prR_prC
      have th12_33_9 := Kh12.2 (33) 9 rfl
      refine sx_iload_n dX3_readNumberLine_64 rfl ?_
      refine sx_ireturn dX3_readNumberLine_65 ?_
      exact ⟨_, rfl, Ih12⟩
  ·
    refine sx_aload_n dX3_readNumberLine_8 rfl ?_
    refine sx_getS (k := 0) (t := 34) cl_3 fl_X3_12 dX3_readNumberLine_9 s_33 (by decide) rfl (by decide) ?_
    refine sx_callVv lk_X3_81 cl_5 s_34 (by decide) dX3_readNumberLine_12 (vs := []) rfl rfl (Nat.le_of_ble_eq_true rfl) (Nat.le_of_ble_eq_true rfl) rfl (c_X5_refuse _ Ih1.1) (fun h14 ph14 => ?_)
    obtain ⟨Kh14, f_h14⟩ := ph14
    have Ih14 := Ih1.tr Kh14 sb_prR_prC
    have th14_33_9 := Kh14.2 (33) 9 rfl
    refine sx_iconst dX3_readNumberLine_15 ⟨by decide, by decide⟩ ?_
    refine sx_ireturn dX3_readNumberLine_16 ?_
    exact ⟨_, rfl, Ih14⟩
set_option maxRecDepth 20000 in
set_option maxHeartbeats 4000000 in
theorem c_X3_readWord_1 {G : sw_G} (d : Nat) {h0 : sw_H} (hJ : cJ h0) (hc : h0 33 9 = 1)  : sw_E G NH SH (d + 12) mX3_readWord 0 [some (sw_r 33)] [] h0 (sw_Qv (fun h' => cK pr2 h0 h')) := by
  have hI : cK pr2 h0 h0 := cK.refl hJ
  refine sx_aload_n dX3_readWord_0 rfl ?_
  refine sx_getR (k := 9) (t := 1) cl_3 fl_X3_40 dX3_readWord_1 s_33 (by decide) rfl (by decide) (by omega) ?_
  refine sx_getI (k := 0) cl_0 fl_X3_127 dX3_readWord_4 s_1 (by decide) rfl (by decide) ?_
  have r1 : (0 : Int) ≤ h0 1 0 ∧ h0 1 0 ≤ 6 := hI.1.1 1 0
  refine sx_bipush dX3_readWord_7 ⟨by decide, by decide, by decide⟩ ?_
  refine sx_icmp_lt (tgt := 20) dX3_readWord_9 (by decide) (fun c2 => ?_) (fun c2 => ?_)
  ·
    refine sx_aload_n dX3_readWord_20 rfl ?_
    refine sx_getS (k := 0) (t := 34) cl_3 fl_X3_12 dX3_readWord_21 s_33 (by decide) rfl (by decide) ?_
    refine sx_callVv lk_X3_87 cl_5 s_34 (by decide) dX3_readWord_24 (vs := []) rfl rfl (Nat.le_of_ble_eq_true rfl) (Nat.le_of_ble_eq_true rfl) rfl (c_X5_advance _ hI.1) (fun h3 ph3 => ?_)
    have Kh3 := ph3
    have Ih3 := hI.tr Kh3 sb_pr2_prC
    have th3_33_9 := Kh3.2 (33) 9 rfl
    have th3_1_0 := Kh3.2 (1) 0 rfl
    refine sx_aload_n dX3_readWord_27 rfl ?_
    refine sx_callVv lk_X3_130 cl_3 s_33 (by decide) dX3_readWord_28 (vs := []) rfl rfl (Nat.le_of_ble_eq_true rfl) (Nat.le_of_ble_eq_true rfl) rfl (c_X3_readName_1 _ Ih3.1 (by omega) (by omega)) (fun h5 ph5 => ?_)
    have Kh5 := ph5
    have Ih5 := Ih3.tr Kh5 sb_pr2_prR
    have th5_33_9 := Kh5.2 (33) 9 rfl
    have th5_1_0 := Kh5.2 (1) 0 rfl
    refine sx_aload_n dX3_readWord_31 rfl ?_
    refine sx_getS (k := 0) (t := 34) cl_3 fl_X3_12 dX3_readWord_32 s_33 (by decide) rfl (by decide) ?_
    refine sx_getI (k := 7) cl_5 fl_X3_84 dX3_readWord_35 s_34 (by decide) rfl (by decide) ?_
    refine sx_if_ne (tgt := 57) dX3_readWord_38 (by decide) (fun c7 => ?_) (fun c7 => ?_)
    ·
      refine sx_aload_n dX3_readWord_57 rfl ?_
      refine sx_callVv lk_X3_133 cl_3 s_33 (by decide) dX3_readWord_58 (vs := []) rfl rfl (Nat.le_of_ble_eq_true rfl) (Nat.le_of_ble_eq_true rfl) rfl (c_X3_readItems_1 _ Ih5.1 (by omega) (by omega)) (fun h8 ph8 => ?_)
      have Kh8 := ph8
      have Ih8 := Ih5.tr Kh8 sb_pr2_prQ
      have th8_33_9 := Kh8.2 (33) 9 rfl
      have th8_1_0 := Kh8.2 (1) 0 rfl
      refine sx_aload_n dX3_readWord_61 rfl ?_
      refine sx_getS (k := 0) (t := 34) cl_3 fl_X3_12 dX3_readWord_62 s_33 (by decide) rfl (by decide) ?_
      refine sx_getI (k := 7) cl_5 fl_X3_84 dX3_readWord_65 s_34 (by decide) rfl (by decide) ?_
      refine sx_if_ne (tgt := 75) dX3_readWord_68 (by decide) (fun c10 => ?_) (fun c10 => ?_)
      ·
        refine sx_ret dX3_readWord_75 ?_
        exact ⟨rfl, Ih8⟩
      ·
        refine sx_aload_n dX3_readWord_71 rfl ?_
        refine sx_callVv lk_X3_136 cl_3 s_33 (by decide) dX3_readWord_72 (vs := []) rfl rfl (Nat.le_of_ble_eq_true rfl) (Nat.le_of_ble_eq_true rfl) rfl (c_X3_closeWord_1 _ Ih8.1 (by omega) (by omega)) (fun h11 ph11 => ?_)
        have Kh11 := ph11
        have Ih11 := Ih8.tr Kh11 sb_pr2_pr0
        have th11_33_9 := Kh11.2 (33) 9 rfl
        refine sx_ret dX3_readWord_75 ?_
        exact ⟨rfl, Ih11⟩
    ·
      refine sx_aload_n dX3_readWord_41 rfl ?_
      refine sx_getS (k := 0) (t := 34) cl_3 fl_X3_12 dX3_readWord_42 s_33 (by decide) rfl (by decide) ?_
      refine sx_callVv lk_X3_87 cl_5 s_34 (by decide) dX3_readWord_45 (vs := []) rfl rfl (Nat.le_of_ble_eq_true rfl) (Nat.le_of_ble_eq_true rfl) rfl (c_X5_advance _ Ih5.1) (fun h13 ph13 => ?_)
      have Kh13 := ph13
      have Ih13 := Ih5.tr Kh13 sb_pr2_prC
      have th13_33_9 := Kh13.2 (33) 9 rfl
      have th13_1_0 := Kh13.2 (1) 0 rfl
      refine sx_aload_n dX3_readWord_48 rfl ?_
      refine sx_getS (k := 0) (t := 34) cl_3 fl_X3_12 dX3_readWord_49 s_33 (by decide) rfl (by decide) ?_
      refine sx_bipush dX3_readWord_52 ⟨by decide, by decide, by decide⟩ ?_
      refine sx_callVv lk_X3_100 cl_5 s_34 (by decide) dX3_readWord_54 (vs := [_]) rfl rfl (Nat.le_of_ble_eq_true rfl) (Nat.le_of_ble_eq_true rfl) rfl (c_X5_require _ Ih13.1 _) (fun h15 ph15 => ?_)
      have Kh15 := ph15
      have Ih15 := Ih13.tr Kh15 sb_pr2_prC
      have th15_33_9 := Kh15.2 (33) 9 rfl
      have th15_1_0 := Kh15.2 (1) 0 rfl
      refine sx_aload_n dX3_readWord_57 rfl ?_
      refine sx_callVv lk_X3_133 cl_3 s_33 (by decide) dX3_readWord_58 (vs := []) rfl rfl (Nat.le_of_ble_eq_true rfl) (Nat.le_of_ble_eq_true rfl) rfl (c_X3_readItems_1 _ Ih15.1 (by omega) (by omega)) (fun h17 ph17 => ?_)
      have Kh17 := ph17
      have Ih17 := Ih15.tr Kh17 sb_pr2_prQ
      have th17_33_9 := Kh17.2 (33) 9 rfl
      have th17_1_0 := Kh17.2 (1) 0 rfl
      refine sx_aload_n dX3_readWord_61 rfl ?_
      refine sx_getS (k := 0) (t := 34) cl_3 fl_X3_12 dX3_readWord_62 s_33 (by decide) rfl (by decide) ?_
      refine sx_getI (k := 7) cl_5 fl_X3_84 dX3_readWord_65 s_34 (by decide) rfl (by decide) ?_
      refine sx_if_ne (tgt := 75) dX3_readWord_68 (by decide) (fun c19 => ?_) (fun c19 => ?_)
      ·
        refine sx_ret dX3_readWord_75 ?_
        exact ⟨rfl, Ih17⟩
      ·
        refine sx_aload_n dX3_readWord_71 rfl ?_
        refine sx_callVv lk_X3_136 cl_3 s_33 (by decide) dX3_readWord_72 (vs := []) rfl rfl (Nat.le_of_ble_eq_true rfl) (Nat.le_of_ble_eq_true rfl) rfl (c_X3_closeWord_1 _ Ih17.1 (by omega) (by omega)) (fun h20 ph20 => ?_)
        have Kh20 := ph20
        have Ih20 := Ih17.tr Kh20 sb_pr2_pr0
        have th20_33_9 := Kh20.2 (33) 9 rfl
        refine sx_ret dX3_readWord_75 ?_
        exact ⟨rfl, Ih20⟩
  ·
    refine sx_aload_n dX3_readWord_12 rfl ?_
    refine sx_getS (k := 0) (t := 34) cl_3 fl_X3_12 dX3_readWord_13 s_33 (by decide) rfl (by decide) ?_
    refine sx_callVv lk_X3_81 cl_5 s_34 (by decide) dX3_readWord_16 (vs := []) rfl rfl (Nat.le_of_ble_eq_true rfl) (Nat.le_of_ble_eq_true rfl) rfl (c_X5_refuse _ hI.1) (fun h22 ph22 => ?_)
    obtain ⟨Kh22, f_h22⟩ := ph22
    have Ih22 := hI.tr Kh22 sb_pr2_prC
    have th22_33_9 := Kh22.2 (33) 9 rfl
    have th22_1_0 := Kh22.2 (1) 0 rfl
    refine sx_ret dX3_readWord_19 ?_
    exact ⟨rfl, Ih22⟩
set_option maxRecDepth 20000 in
set_option maxHeartbeats 4000000 in
theorem c_X3_readTakes_1 {G : sw_G} (d : Nat) {h0 : sw_H} (hJ : cJ h0) (hc : h0 33 9 = 1)  : sw_E G NH SH (d + 155) mX3_readTakes 0 [some (sw_r 33)] [] h0 (sw_Qv (fun h' => cK pr2 h0 h')) := by
  have hI : cK pr2 h0 h0 := cK.refl hJ
  refine sx_aload_n dX3_readTakes_0 rfl ?_
  refine sx_bipush dX3_readTakes_1 ⟨by decide, by decide, by decide⟩ ?_
  refine sx_callVz lk_X3_90 cl_3 s_33 (by decide) dX3_readTakes_3 (vs := [_]) rfl rfl (Nat.le_of_ble_eq_true rfl) (Nat.le_of_ble_eq_true rfl) rfl (c_X3_isToldAgain _ hI.1 _) (fun x2 h1 zx2 ph1 => ?_)
  have Kh1 := ph1
  have Ih1 := hI.tr Kh1 sb_pr2_prR
  have th1_33_9 := Kh1.2 (33) 9 rfl
  have th1_43_0 := Kh1.2 (43) 0 rfl
  refine sx_if_eq (tgt := 17) dX3_readTakes_6 (by decide) (fun c3 => ?_) (fun c3 => ?_)
  ·
    refine sx_aload_n dX3_readTakes_17 rfl ?_
    refine sx_getS (k := 0) (t := 34) cl_3 fl_X3_12 dX3_readTakes_18 s_33 (by decide) rfl (by decide) ?_
    refine sx_callVv lk_X3_87 cl_5 s_34 (by decide) dX3_readTakes_21 (vs := []) rfl rfl (Nat.le_of_ble_eq_true rfl) (Nat.le_of_ble_eq_true rfl) rfl (c_X5_advance _ Ih1.1) (fun h4 ph4 => ?_)
    have Kh4 := ph4
    have Ih4 := Ih1.tr Kh4 sb_pr2_prC
    have th4_33_9 := Kh4.2 (33) 9 rfl
    have th4_43_0 := Kh4.2 (43) 0 rfl
    refine sx_aload_n dX3_readTakes_24 rfl ?_
    refine sx_getS (k := 2) (t := 43) cl_3 fl_X3_28 dX3_readTakes_25 s_33 (by decide) rfl (by decide) ?_
    refine sx_aload_n dX3_readTakes_28 rfl ?_
    refine sx_getS (k := 0) (t := 34) cl_3 fl_X3_12 dX3_readTakes_29 s_33 (by decide) rfl (by decide) ?_
    refine sx_callVv lk_X3_93 cl_2 s_43 (by decide) dX3_readTakes_32 (vs := [_]) rfl rfl (Nat.le_of_ble_eq_true rfl) (Nat.le_of_ble_eq_true rfl) rfl (c_X2_begin _ Ih4.1) (fun h6 ph6 => ?_)
    obtain ⟨Kh6, c_h6⟩ := ph6
    have Ih6 := Ih4.tr Kh6 sb_pr2_pr2
    have th6_33_9 := Kh6.2 (33) 9 rfl
    refine sx_aload_n dX3_readTakes_35 rfl ?_
    refine sx_getS (k := 2) (t := 43) cl_3 fl_X3_28 dX3_readTakes_36 s_33 (by decide) rfl (by decide) ?_
    refine sx_iconst dX3_readTakes_39 ⟨by decide, by decide⟩ ?_
    refine sx_iconst dX3_readTakes_40 ⟨by decide, by decide⟩ ?_
    refine sx_callNv lk_X3_96 cl_2 s_43 (by decide) dX3_readTakes_41 (vs := [_, _]) rfl rfl (Nat.le_of_ble_eq_true rfl) (Nat.le_of_ble_eq_true rfl) rfl (c_X2_readLevel 71 _ Ih6.1 (by omega) 0 0 (by decide) (by decide) (by decide)) (fun h8 ph8 => ?_)
    have Kh8 := ph8
    have Ih8 := Ih6.tr Kh8 sb_pr2_prF
    have th8_33_9 := Kh8.2 (33) 9 rfl
    have th8_43_0 := Kh8.2 (43) 0 rfl
    refine sx_aload_n dX3_readTakes_44 rfl ?_
    refine sx_getS (k := 0) (t := 34) cl_3 fl_X3_12 dX3_readTakes_45 s_33 (by decide) rfl (by decide) ?_
    refine sx_bipush dX3_readTakes_48 ⟨by decide, by decide, by decide⟩ ?_
    refine sx_callVv lk_X3_100 cl_5 s_34 (by decide) dX3_readTakes_50 (vs := [_]) rfl rfl (Nat.le_of_ble_eq_true rfl) (Nat.le_of_ble_eq_true rfl) rfl (c_X5_require _ Ih8.1 _) (fun h10 ph10 => ?_)
    have Kh10 := ph10
    have Ih10 := Ih8.tr Kh10 sb_pr2_prC
    have th10_33_9 := Kh10.2 (33) 9 rfl
    have th10_43_0 := Kh10.2 (43) 0 rfl
    refine sx_aload_n dX3_readTakes_53 rfl ?_
    refine sx_getS (k := 0) (t := 34) cl_3 fl_X3_12 dX3_readTakes_54 s_33 (by decide) rfl (by decide) ?_
    refine sx_getI (k := 7) cl_5 fl_X3_84 dX3_readTakes_57 s_34 (by decide) rfl (by decide) ?_
    refine sx_if_ne (tgt := 91) dX3_readTakes_60 (by decide) (fun c12 => ?_) (fun c12 => ?_)
    ·
      refine sx_ret dX3_readTakes_91 ?_
      exact ⟨rfl, Ih10⟩
    ·
      refine sx_aload_n dX3_readTakes_63 rfl ?_
      refine sx_getR (k := 9) (t := 1) cl_3 fl_X3_40 dX3_readTakes_64 s_33 (by decide) rfl (by decide) (by omega) ?_
      refine sx_aload_n dX3_readTakes_67 rfl ?_
      refine sx_getS (k := 2) (t := 43) cl_3 fl_X3_28 dX3_readTakes_68 s_33 (by decide) rfl (by decide) ?_
      refine sx_getI (k := 4) cl_2 fl_X3_104 dX3_readTakes_71 s_43 (by decide) rfl (by decide) ?_
      have r13 : (0 : Int) ≤ h10 43 4 ∧ h10 43 4 ≤ 30 := Ih10.1.1 43 4
      refine sy_putI (k := 2) cl_0 fl_X3_107 dX3_readTakes_74 s_1 (by decide) rfl (by decide) rfl rfl (fun h14 eh14 => ?_)
      have Ih14 := Ih10.up eh14 trivial rfl rfl
      have th14_33_9 := eh14.2 (33) 9 (by decide)
      have th14_43_0 := eh14.2 (43) 0 (by decide)
      refine sx_aload_n dX3_readTakes_77 rfl ?_
      refine sx_getS (k := 2) (t := 43) cl_3 fl_X3_28 dX3_readTakes_78 s_33 (by decide) rfl (by decide) ?_
      refine sx_aload_n dX3_readTakes_81 rfl ?_
      refine sx_getR (k := 9) (t := 1) cl_3 fl_X3_40 dX3_readTakes_82 s_33 (by decide) rfl (by decide) (by omega) ?_
      refine sx_getS (k := 15) (t := 12) cl_0 fl_X3_108 dX3_readTakes_85 s_1 (by decide) rfl (by decide) ?_
      refine sx_callVv lk_X3_111 cl_2 s_43 (by decide) dX3_readTakes_88 (vs := [_]) rfl rfl (Nat.le_of_ble_eq_true rfl) (Nat.le_of_ble_eq_true rfl) rfl (c_X2_fill_1 _ Ih14.1) (fun h15 ph15 => ?_)
      have Kh15 := ph15
      have Ih15 := Ih14.tr Kh15 sb_pr2_pr0
      have th15_33_9 := Kh15.2 (33) 9 rfl
      have th15_43_0 := Kh15.2 (43) 0 rfl
      refine sx_ret dX3_readTakes_91 ?_
      exact ⟨rfl, Ih15⟩
  ·
    refine sx_aload_n dX3_readTakes_9 rfl ?_
    refine sx_getS (k := 0) (t := 34) cl_3 fl_X3_12 dX3_readTakes_10 s_33 (by decide) rfl (by decide) ?_
    refine sx_callVv lk_X3_81 cl_5 s_34 (by decide) dX3_readTakes_13 (vs := []) rfl rfl (Nat.le_of_ble_eq_true rfl) (Nat.le_of_ble_eq_true rfl) rfl (c_X5_refuse _ Ih1.1) (fun h17 ph17 => ?_)
    obtain ⟨Kh17, f_h17⟩ := ph17
    have Ih17 := Ih1.tr Kh17 sb_pr2_prC
    have th17_33_9 := Kh17.2 (33) 9 rfl
    have th17_43_0 := Kh17.2 (43) 0 rfl
    refine sx_ret dX3_readTakes_16 ?_
    exact ⟨rfl, Ih17⟩
set_option maxRecDepth 20000 in
set_option maxHeartbeats 4000000 in
theorem c_X3_readAll_1 {G : sw_G} (d : Nat) {h0 : sw_H} (hJ : cJ h0) (n : Int) (hn : 0 ≤ n) : sw_E G NH SH (d + 156) mX3_readAll 0 [some (sw_r 33), some (sw_r 1), some (sw_i n), none] [] h0 (sw_Qz (fun z h' => cK pr1 h0 h')) := by
  have hI : cK pr1 h0 h0 := cK.refl hJ
  refine sx_aload_n dX3_readAll_0 rfl ?_
  refine sx_aload_n dX3_readAll_1 rfl ?_
  refine sy_putR (k := 9) cl_3 fl_X3_40 dX3_readAll_2 s_33 (by decide) rfl (by decide) rfl rfl (by decide) (fun h1 eh1 => ?_)
  have Ih1 := hI.up eh1 trivial rfl rfl
  have th1_33_9 := eh1.1
  refine sx_aload_n dX3_readAll_5 rfl ?_
  refine sx_getR (k := 9) (t := 1) cl_3 fl_X3_40 dX3_readAll_6 s_33 (by decide) rfl (by decide) (by omega) ?_
  refine sx_callVv lk_X3_44 cl_0 s_1 (by decide) dX3_readAll_9 (vs := []) rfl rfl (Nat.le_of_ble_eq_true rfl) (Nat.le_of_ble_eq_true rfl) rfl (c_X0_empty_1 _ Ih1.1) (fun h2 ph2 => ?_)
  have Kh2 := ph2
  have Ih2 := Ih1.tr Kh2 sb_pr1_pr0
  have th2_33_9 := Kh2.2 (33) 9 rfl
  refine sx_aload_n dX3_readAll_12 rfl ?_
  refine sx_iconst dX3_readAll_13 ⟨by decide, by decide⟩ ?_
  refine sy_putI (k := 6) cl_3 fl_X3_49 dX3_readAll_14 s_33 (by decide) rfl (by decide) rfl rfl (fun h4 eh4 => ?_)
  have Ih4 := Ih2.up eh4 trivial rfl rfl
  have th4_33_9 := eh4.2 (33) 9 (by decide)
  refine sx_aload_n dX3_readAll_17 rfl ?_
  refine sx_getS (k := 0) (t := 34) cl_3 fl_X3_12 dX3_readAll_18 s_33 (by decide) rfl (by decide) ?_
  refine sx_iload_n dX3_readAll_21 rfl ?_
  refine sx_callVv lk_X3_53 cl_5 s_34 (by decide) dX3_readAll_22 (vs := [_]) rfl rfl (Nat.le_of_ble_eq_true rfl) (Nat.le_of_ble_eq_true rfl) rfl (c_X5_begin _ Ih4.1 _ (by omega)) (fun h5 ph5 => ?_)
  have Kh5 := ph5
  have Ih5 := Ih4.tr Kh5 sb_pr1_prC
  have th5_33_9 := Kh5.2 (33) 9 rfl
  refine sx_iconst dX3_readAll_25 ⟨by decide, by decide⟩ ?_
  refine sx_istore_n dX3_readAll_26 (by decide) ?_
  refine sx_loop1 (fun (h : sw_H) (i : Int) => (cK pr1 h0 h) ∧ (h 33 9 = 1) ∧ (0 ≤ i)) (fun (h : sw_H) (i : Int) => (1601 - i).toNat) (fun (h : sw_H) (i : Int) => sw_E G NH SH (d + 156) mX3_readAll 27 [some (sw_r 33), some (sw_r 1), some (sw_i n), some (sw_i i)] [] h (sw_Qz (fun z h' => cK pr1 h0 h'))) ?_ _ _ ?_
  · rintro h7 i_8 ⟨Ih7, j9, j10⟩ ihh7
    try dsimp only at ihh7
    refine sx_iload_n dX3_readAll_27 rfl ?_
    refine sx_sipush dX3_readAll_28 ⟨by decide, by decide, by decide⟩ ?_
    refine sx_icmp_gt (tgt := 173) dX3_readAll_31 (by decide) (fun c11 => ?_) (fun c11 => ?_)
    ·
      refine sx_aload_n dX3_readAll_173 rfl ?_
      refine sx_getS (k := 0) (t := 34) cl_3 fl_X3_12 dX3_readAll_174 s_33 (by decide) rfl (by decide) ?_
      refine sx_getI (k := 7) cl_5 fl_X3_84 dX3_readAll_177 s_34 (by decide) rfl (by decide) ?_
      refine sx_if_ne (tgt := 187) dX3_readAll_180 (by decide) (fun c12 => ?_) (fun c12 => ?_)
      ·
        refine sx_iconst dX3_readAll_187 ⟨by decide, by decide⟩ ?_
        refine sx_ireturn dX3_readAll_188 ?_
        exact ⟨_, rfl, by omega, Ih7⟩
      ·
        refine sx_iconst dX3_readAll_183 ⟨by decide, by decide⟩ ?_
        refine sx_goto (tgt := 188) dX3_readAll_184 (by decide) ?_
        refine sx_ireturn dX3_readAll_188 ?_
        exact ⟨_, rfl, by omega, Ih7⟩
    ·
      refine sx_aload_n dX3_readAll_34 rfl ?_
      refine sx_getS (k := 0) (t := 34) cl_3 fl_X3_12 dX3_readAll_35 s_33 (by decide) rfl (by decide) ?_
      refine sx_callVz lk_X3_57 cl_5 s_34 (by decide) dX3_readAll_38 (vs := []) rfl rfl (Nat.le_of_ble_eq_true rfl) (Nat.le_of_ble_eq_true rfl) rfl (c_X5_goesOn _ Ih7.1) (fun x14 h13 zx14 ph13 => ?_)
      subst ph13
      refine sx_if_eq (tgt := 173) dX3_readAll_41 (by decide) (fun c15 => ?_) (fun c15 => ?_)
      ·
        refine sx_aload_n dX3_readAll_173 rfl ?_
        refine sx_getS (k := 0) (t := 34) cl_3 fl_X3_12 dX3_readAll_174 s_33 (by decide) rfl (by decide) ?_
        refine sx_getI (k := 7) cl_5 fl_X3_84 dX3_readAll_177 s_34 (by decide) rfl (by decide) ?_
        refine sx_if_ne (tgt := 187) dX3_readAll_180 (by decide) (fun c16 => ?_) (fun c16 => ?_)
        ·
          refine sx_iconst dX3_readAll_187 ⟨by decide, by decide⟩ ?_
          refine sx_ireturn dX3_readAll_188 ?_
          exact ⟨_, rfl, by omega, Ih7⟩
        ·
          refine sx_iconst dX3_readAll_183 ⟨by decide, by decide⟩ ?_
          refine sx_goto (tgt := 188) dX3_readAll_184 (by decide) ?_
          refine sx_ireturn dX3_readAll_188 ?_
          exact ⟨_, rfl, by omega, Ih7⟩
      ·
        refine sx_aload_n dX3_readAll_44 rfl ?_
        refine sx_getS (k := 0) (t := 34) cl_3 fl_X3_12 dX3_readAll_45 s_33 (by decide) rfl (by decide) ?_
        refine sx_bipush dX3_readAll_48 ⟨by decide, by decide, by decide⟩ ?_
        refine sx_callVz lk_X3_61 cl_5 s_34 (by decide) dX3_readAll_50 (vs := [_]) rfl rfl (Nat.le_of_ble_eq_true rfl) (Nat.le_of_ble_eq_true rfl) rfl (c_X5_isKey _ Ih7.1 _) (fun x18 h17 zx18 ph17 => ?_)
        subst ph17
        refine sx_if_eq (tgt := 63) dX3_readAll_53 (by decide) (fun c19 => ?_) (fun c19 => ?_)
        ·
          refine sx_aload_n dX3_readAll_63 rfl ?_
          refine sx_getS (k := 0) (t := 34) cl_3 fl_X3_12 dX3_readAll_64 s_33 (by decide) rfl (by decide) ?_
          refine sx_bipush dX3_readAll_67 ⟨by decide, by decide, by decide⟩ ?_
          refine sx_callVz lk_X3_61 cl_5 s_34 (by decide) dX3_readAll_69 (vs := [_]) rfl rfl (Nat.le_of_ble_eq_true rfl) (Nat.le_of_ble_eq_true rfl) rfl (c_X5_isKey _ Ih7.1 _) (fun x21 h20 zx21 ph20 => ?_)
          subst ph20
          refine sx_if_eq (tgt := 82) dX3_readAll_72 (by decide) (fun c22 => ?_) (fun c22 => ?_)
          ·
            refine sx_aload_n dX3_readAll_82 rfl ?_
            refine sx_getS (k := 0) (t := 34) cl_3 fl_X3_12 dX3_readAll_83 s_33 (by decide) rfl (by decide) ?_
            refine sx_bipush dX3_readAll_86 ⟨by decide, by decide, by decide⟩ ?_
            refine sx_callVz lk_X3_61 cl_5 s_34 (by decide) dX3_readAll_88 (vs := [_]) rfl rfl (Nat.le_of_ble_eq_true rfl) (Nat.le_of_ble_eq_true rfl) rfl (c_X5_isKey _ Ih7.1 _) (fun x24 h23 zx24 ph23 => ?_)
            subst ph23
            refine sx_if_eq (tgt := 112) dX3_readAll_91 (by decide) (fun c25 => ?_) (fun c25 => ?_)
            ·
              refine sx_aload_n dX3_readAll_112 rfl ?_
              refine sx_getS (k := 0) (t := 34) cl_3 fl_X3_12 dX3_readAll_113 s_33 (by decide) rfl (by decide) ?_
              refine sx_bipush dX3_readAll_116 ⟨by decide, by decide, by decide⟩ ?_
              refine sx_callVz lk_X3_61 cl_5 s_34 (by decide) dX3_readAll_118 (vs := [_]) rfl rfl (Nat.le_of_ble_eq_true rfl) (Nat.le_of_ble_eq_true rfl) rfl (c_X5_isKey _ Ih7.1 _) (fun x27 h26 zx27 ph26 => ?_)
              subst ph26
              refine sx_if_eq (tgt := 143) dX3_readAll_121 (by decide) (fun c28 => ?_) (fun c28 => ?_)
              ·
                refine sx_aload_n dX3_readAll_143 rfl ?_
                refine sx_getS (k := 0) (t := 34) cl_3 fl_X3_12 dX3_readAll_144 s_33 (by decide) rfl (by decide) ?_
                refine sx_callVv lk_X3_81 cl_5 s_34 (by decide) dX3_readAll_147 (vs := []) rfl rfl (Nat.le_of_ble_eq_true rfl) (Nat.le_of_ble_eq_true rfl) rfl (c_X5_refuse _ Ih7.1) (fun h29 ph29 => ?_)
                obtain ⟨Kh29, f_h29⟩ := ph29
                have Ih29 := Ih7.tr Kh29 sb_pr1_prC
                have th29_33_9 := Kh29.2 (33) 9 rfl
                refine sx_aload_n dX3_readAll_150 rfl ?_
                refine sx_getS (k := 0) (t := 34) cl_3 fl_X3_12 dX3_readAll_151 s_33 (by decide) rfl (by decide) ?_
                refine sx_getI (k := 7) cl_5 fl_X3_84 dX3_readAll_154 s_34 (by decide) rfl (by decide) ?_
                refine sx_if_ne (tgt := 167) dX3_readAll_157 (by decide) (fun c31 => ?_) (fun c31 => ?_)
                ·
                  refine sx_iinc dX3_readAll_167 (by decide) rfl ?_
                  rw [sw_w_id (by omega) (by omega)]
                  refine sx_goto (tgt := 27) dX3_readAll_170 (by decide) ?_
                  exact ihh7 _ _ ⟨Ih29, by omega, by omega⟩ (by exact sy_dec (by omega) (by omega))
                ·
                  refine sx_aload_n dX3_readAll_160 rfl ?_
                  refine sx_getS (k := 0) (t := 34) cl_3 fl_X3_12 dX3_readAll_161 s_33 (by decide) rfl (by decide) ?_
                  refine sx_callVv lk_X3_87 cl_5 s_34 (by decide) dX3_readAll_164 (vs := []) rfl rfl (Nat.le_of_ble_eq_true rfl) (Nat.le_of_ble_eq_true rfl) rfl (c_X5_advance _ Ih29.1) (fun h32 ph32 => ?_)
                  have Kh32 := ph32
                  have Ih32 := Ih29.tr Kh32 sb_pr1_prC
                  have th32_33_9 := Kh32.2 (33) 9 rfl
                  refine sx_iinc dX3_readAll_167 (by decide) rfl ?_
                  rw [sw_w_id (by omega) (by omega)]
                  refine sx_goto (tgt := 27) dX3_readAll_170 (by decide) ?_
                  exact ihh7 _ _ ⟨Ih32, by omega, by omega⟩ (by exact sy_dec (by omega) (by omega))
              ·
                refine sx_aload_n dX3_readAll_124 rfl ?_
                refine sx_getR (k := 9) (t := 1) cl_3 fl_X3_40 dX3_readAll_125 s_33 (by decide) rfl (by decide) (by omega) ?_
                refine sx_aload_n dX3_readAll_128 rfl ?_
                refine sx_bipush dX3_readAll_129 ⟨by decide, by decide, by decide⟩ ?_
                refine sx_sipush dX3_readAll_131 ⟨by decide, by decide, by decide⟩ ?_
                refine sx_callVi lk_X3_71 cl_3 s_33 (by decide) dX3_readAll_134 (vs := [_, _]) rfl rfl (Nat.le_of_ble_eq_true rfl) (Nat.le_of_ble_eq_true rfl) rfl (c_X3_readNumberLine_1 _ Ih7.1 (by omega) _ _) (fun x35 h34 ph34 => ?_)
                have Kh34 := ph34
                have Ih34 := Ih7.tr Kh34 sb_pr1_prR
                have th34_33_9 := Kh34.2 (33) 9 rfl
                refine sy_putI (k := 4) cl_0 fl_X3_78 dX3_readAll_137 s_1 (by decide) rfl (by decide) rfl rfl (fun h36 eh36 => ?_)
                have Ih36 := Ih34.up eh36 trivial rfl rfl
                have th36_33_9 := eh36.2 (33) 9 (by decide)
                refine sx_goto (tgt := 150) dX3_readAll_140 (by decide) ?_
                refine sx_aload_n dX3_readAll_150 rfl ?_
                refine sx_getS (k := 0) (t := 34) cl_3 fl_X3_12 dX3_readAll_151 s_33 (by decide) rfl (by decide) ?_
                refine sx_getI (k := 7) cl_5 fl_X3_84 dX3_readAll_154 s_34 (by decide) rfl (by decide) ?_
                refine sx_if_ne (tgt := 167) dX3_readAll_157 (by decide) (fun c37 => ?_) (fun c37 => ?_)
                ·
                  refine sx_iinc dX3_readAll_167 (by decide) rfl ?_
                  rw [sw_w_id (by omega) (by omega)]
                  refine sx_goto (tgt := 27) dX3_readAll_170 (by decide) ?_
                  exact ihh7 _ _ ⟨Ih36, by omega, by omega⟩ (by exact sy_dec (by omega) (by omega))
                ·
                  refine sx_aload_n dX3_readAll_160 rfl ?_
                  refine sx_getS (k := 0) (t := 34) cl_3 fl_X3_12 dX3_readAll_161 s_33 (by decide) rfl (by decide) ?_
                  refine sx_callVv lk_X3_87 cl_5 s_34 (by decide) dX3_readAll_164 (vs := []) rfl rfl (Nat.le_of_ble_eq_true rfl) (Nat.le_of_ble_eq_true rfl) rfl (c_X5_advance _ Ih36.1) (fun h38 ph38 => ?_)
                  have Kh38 := ph38
                  have Ih38 := Ih36.tr Kh38 sb_pr1_prC
                  have th38_33_9 := Kh38.2 (33) 9 rfl
                  refine sx_iinc dX3_readAll_167 (by decide) rfl ?_
                  rw [sw_w_id (by omega) (by omega)]
                  refine sx_goto (tgt := 27) dX3_readAll_170 (by decide) ?_
                  exact ihh7 _ _ ⟨Ih38, by omega, by omega⟩ (by exact sy_dec (by omega) (by omega))
            ·
              refine sx_aload_n dX3_readAll_94 rfl ?_
              refine sx_getR (k := 9) (t := 1) cl_3 fl_X3_40 dX3_readAll_95 s_33 (by decide) rfl (by decide) (by omega) ?_
              refine sx_aload_n dX3_readAll_98 rfl ?_
              refine sx_bipush dX3_readAll_99 ⟨by decide, by decide, by decide⟩ ?_
              refine sx_bipush dX3_readAll_101 ⟨by decide, by decide, by decide⟩ ?_
              refine sx_callVi lk_X3_71 cl_3 s_33 (by decide) dX3_readAll_103 (vs := [_, _]) rfl rfl (Nat.le_of_ble_eq_true rfl) (Nat.le_of_ble_eq_true rfl) rfl (c_X3_readNumberLine_1 _ Ih7.1 (by omega) _ _) (fun x41 h40 ph40 => ?_)
              have Kh40 := ph40
              have Ih40 := Ih7.tr Kh40 sb_pr1_prR
              have th40_33_9 := Kh40.2 (33) 9 rfl
              refine sy_putI (k := 3) cl_0 fl_X3_75 dX3_readAll_106 s_1 (by decide) rfl (by decide) rfl rfl (fun h42 eh42 => ?_)
              have Ih42 := Ih40.up eh42 trivial rfl rfl
              have th42_33_9 := eh42.2 (33) 9 (by decide)
              refine sx_goto (tgt := 150) dX3_readAll_109 (by decide) ?_
              refine sx_aload_n dX3_readAll_150 rfl ?_
              refine sx_getS (k := 0) (t := 34) cl_3 fl_X3_12 dX3_readAll_151 s_33 (by decide) rfl (by decide) ?_
              refine sx_getI (k := 7) cl_5 fl_X3_84 dX3_readAll_154 s_34 (by decide) rfl (by decide) ?_
              refine sx_if_ne (tgt := 167) dX3_readAll_157 (by decide) (fun c43 => ?_) (fun c43 => ?_)
              ·
                refine sx_iinc dX3_readAll_167 (by decide) rfl ?_
                rw [sw_w_id (by omega) (by omega)]
                refine sx_goto (tgt := 27) dX3_readAll_170 (by decide) ?_
                exact ihh7 _ _ ⟨Ih42, by omega, by omega⟩ (by exact sy_dec (by omega) (by omega))
              ·
                refine sx_aload_n dX3_readAll_160 rfl ?_
                refine sx_getS (k := 0) (t := 34) cl_3 fl_X3_12 dX3_readAll_161 s_33 (by decide) rfl (by decide) ?_
                refine sx_callVv lk_X3_87 cl_5 s_34 (by decide) dX3_readAll_164 (vs := []) rfl rfl (Nat.le_of_ble_eq_true rfl) (Nat.le_of_ble_eq_true rfl) rfl (c_X5_advance _ Ih42.1) (fun h44 ph44 => ?_)
                have Kh44 := ph44
                have Ih44 := Ih42.tr Kh44 sb_pr1_prC
                have th44_33_9 := Kh44.2 (33) 9 rfl
                refine sx_iinc dX3_readAll_167 (by decide) rfl ?_
                rw [sw_w_id (by omega) (by omega)]
                refine sx_goto (tgt := 27) dX3_readAll_170 (by decide) ?_
                exact ihh7 _ _ ⟨Ih44, by omega, by omega⟩ (by exact sy_dec (by omega) (by omega))
          ·
            refine sx_aload_n dX3_readAll_75 rfl ?_
            refine sx_callVv lk_X3_68 cl_3 s_33 (by decide) dX3_readAll_76 (vs := []) rfl rfl (Nat.le_of_ble_eq_true rfl) (Nat.le_of_ble_eq_true rfl) rfl (c_X3_readTakes_1 _ Ih7.1 (by omega)) (fun h46 ph46 => ?_)
            have Kh46 := ph46
            have Ih46 := Ih7.tr Kh46 sb_pr1_pr2
            have th46_33_9 := Kh46.2 (33) 9 rfl
            refine sx_goto (tgt := 150) dX3_readAll_79 (by decide) ?_
            refine sx_aload_n dX3_readAll_150 rfl ?_
            refine sx_getS (k := 0) (t := 34) cl_3 fl_X3_12 dX3_readAll_151 s_33 (by decide) rfl (by decide) ?_
            refine sx_getI (k := 7) cl_5 fl_X3_84 dX3_readAll_154 s_34 (by decide) rfl (by decide) ?_
            refine sx_if_ne (tgt := 167) dX3_readAll_157 (by decide) (fun c48 => ?_) (fun c48 => ?_)
            ·
              refine sx_iinc dX3_readAll_167 (by decide) rfl ?_
              rw [sw_w_id (by omega) (by omega)]
              refine sx_goto (tgt := 27) dX3_readAll_170 (by decide) ?_
              exact ihh7 _ _ ⟨Ih46, by omega, by omega⟩ (by exact sy_dec (by omega) (by omega))
            ·
              refine sx_aload_n dX3_readAll_160 rfl ?_
              refine sx_getS (k := 0) (t := 34) cl_3 fl_X3_12 dX3_readAll_161 s_33 (by decide) rfl (by decide) ?_
              refine sx_callVv lk_X3_87 cl_5 s_34 (by decide) dX3_readAll_164 (vs := []) rfl rfl (Nat.le_of_ble_eq_true rfl) (Nat.le_of_ble_eq_true rfl) rfl (c_X5_advance _ Ih46.1) (fun h49 ph49 => ?_)
              have Kh49 := ph49
              have Ih49 := Ih46.tr Kh49 sb_pr1_prC
              have th49_33_9 := Kh49.2 (33) 9 rfl
              refine sx_iinc dX3_readAll_167 (by decide) rfl ?_
              rw [sw_w_id (by omega) (by omega)]
              refine sx_goto (tgt := 27) dX3_readAll_170 (by decide) ?_
              exact ihh7 _ _ ⟨Ih49, by omega, by omega⟩ (by exact sy_dec (by omega) (by omega))
        ·
          refine sx_aload_n dX3_readAll_56 rfl ?_
          refine sx_callVv lk_X3_65 cl_3 s_33 (by decide) dX3_readAll_57 (vs := []) rfl rfl (Nat.le_of_ble_eq_true rfl) (Nat.le_of_ble_eq_true rfl) rfl (c_X3_readWord_1 _ Ih7.1 (by omega)) (fun h51 ph51 => ?_)
          have Kh51 := ph51
          have Ih51 := Ih7.tr Kh51 sb_pr1_pr2
          have th51_33_9 := Kh51.2 (33) 9 rfl
          refine sx_goto (tgt := 150) dX3_readAll_60 (by decide) ?_
          refine sx_aload_n dX3_readAll_150 rfl ?_
          refine sx_getS (k := 0) (t := 34) cl_3 fl_X3_12 dX3_readAll_151 s_33 (by decide) rfl (by decide) ?_
          refine sx_getI (k := 7) cl_5 fl_X3_84 dX3_readAll_154 s_34 (by decide) rfl (by decide) ?_
          refine sx_if_ne (tgt := 167) dX3_readAll_157 (by decide) (fun c53 => ?_) (fun c53 => ?_)
          ·
            refine sx_iinc dX3_readAll_167 (by decide) rfl ?_
            rw [sw_w_id (by omega) (by omega)]
            refine sx_goto (tgt := 27) dX3_readAll_170 (by decide) ?_
            exact ihh7 _ _ ⟨Ih51, by omega, by omega⟩ (by exact sy_dec (by omega) (by omega))
          ·
            refine sx_aload_n dX3_readAll_160 rfl ?_
            refine sx_getS (k := 0) (t := 34) cl_3 fl_X3_12 dX3_readAll_161 s_33 (by decide) rfl (by decide) ?_
            refine sx_callVv lk_X3_87 cl_5 s_34 (by decide) dX3_readAll_164 (vs := []) rfl rfl (Nat.le_of_ble_eq_true rfl) (Nat.le_of_ble_eq_true rfl) rfl (c_X5_advance _ Ih51.1) (fun h54 ph54 => ?_)
            have Kh54 := ph54
            have Ih54 := Ih51.tr Kh54 sb_pr1_prC
            have th54_33_9 := Kh54.2 (33) 9 rfl
            refine sx_iinc dX3_readAll_167 (by decide) rfl ?_
            rw [sw_w_id (by omega) (by omega)]
            refine sx_goto (tgt := 27) dX3_readAll_170 (by decide) ?_
            exact ihh7 _ _ ⟨Ih54, by omega, by omega⟩ (by exact sy_dec (by omega) (by omega))
  · exact ⟨Ih5, by omega, by omega⟩
set_option maxRecDepth 20000 in
set_option maxHeartbeats 4000000 in
theorem c_X3_numberOf_13 {G : sw_G} (d : Nat) {h0 : sw_H} (hJ : cJ h0) (hc : h0 33 9 = 13) (n : Int) : sw_E G NH SH (d) mX3_numberOf 0 [some (sw_r 33), some (sw_l n), none, none] [] h0 (sw_Qi (fun z h' => h0 = h')) := by
  have hI : cK prR h0 h0 := cK.refl hJ
  refine sx_iconst dX3_numberOf_0 ⟨by decide, by decide⟩ ?_
  refine sx_istore_n dX3_numberOf_1 (by decide) ?_
  refine sx_loop1 (fun (h : sw_H) (i : Int) => (h0 = h) ∧ (0 ≤ i)) (fun (h : sw_H) (i : Int) => (6 - i).toNat) (fun (h : sw_H) (i : Int) => sw_E G NH SH (d) mX3_numberOf 2 [some (sw_r 33), some (sw_l n), none, some (sw_i i)] [] h (sw_Qi (fun z h' => h0 = h'))) ?_ _ _ ?_
  · rintro h1 i_2 ⟨rfl, j3⟩ ihh1
    try dsimp only at ihh1
    refine sx_iload_n dX3_numberOf_2 rfl ?_
    refine sx_aload_n dX3_numberOf_3 rfl ?_
    refine sx_getR (k := 9) (t := 13) cl_3 fl_X3_40 dX3_numberOf_4 s_33 (by decide) rfl (by decide) (by omega) ?_
    refine sx_getI (k := 0) cl_0 fl_X3_127 dX3_numberOf_7 s_13 (by decide) rfl (by decide) ?_
    have r4 : (0 : Int) ≤ h0 13 0 ∧ h0 13 0 ≤ 6 := hI.1.1 13 0
    refine sx_icmp_ge (tgt := 32) dX3_numberOf_10 (by decide) (fun c5 => ?_) (fun c5 => ?_)
    ·
      refine sx_iconst dX3_numberOf_32 ⟨by decide, by decide⟩ ?_
      refine sx_ireturn dX3_numberOf_33 ?_
      exact ⟨_, rfl, rfl⟩
    ·
      refine sx_aload_n dX3_numberOf_13 rfl ?_
      refine sx_getS (k := 3) (t := 46) cl_3 fl_X3_32 dX3_numberOf_14 s_33 (by decide) rfl (by decide) ?_
      refine sx_iload_n dX3_numberOf_17 rfl ?_
      refine sx_laload dX3_numberOf_18 s_46 (by decide) (by decide) ⟨by omega, by omega⟩ ?_
      refine sx_lload_n dX3_numberOf_19 rfl ?_
      refine sx_lcmp dX3_numberOf_20 ?_
      refine sx_if_ne (tgt := 26) dX3_numberOf_21 (by decide) (fun c6 => ?_) (fun c6 => ?_)
      ·
        refine sx_iinc dX3_numberOf_26 (by decide) rfl ?_
        rw [sw_w_id (by omega) (by omega)]
        refine sx_goto (tgt := 2) dX3_numberOf_29 (by decide) ?_
        exact ihh1 _ _ ⟨rfl, by omega⟩ (by exact sy_dec (by omega) (by omega))
      ·
        refine sx_iload_n dX3_numberOf_24 rfl ?_
        refine sx_ireturn dX3_numberOf_25 ?_
        exact ⟨_, rfl, rfl⟩
  · exact ⟨rfl, by omega⟩
set_option maxRecDepth 20000 in
set_option maxHeartbeats 4000000 in
theorem c_X3_readName_13 {G : sw_G} (d : Nat) {h0 : sw_H} (hJ : cJ h0) (hc : h0 33 9 = 13) (hw : h0 13 0 ≤ 5) : sw_E G NH SH (d + 9) mX3_readName 0 [some (sw_r 33)] [] h0 (sw_Qv (fun h' => cK prR h0 h')) := by
  have hI : cK prR h0 h0 := cK.refl hJ
  refine sx_aload_n dX3_readName_0 rfl ?_
  refine sx_getS (k := 0) (t := 34) cl_3 fl_X3_12 dX3_readName_1 s_33 (by decide) rfl (by decide) ?_
  refine sx_getI (k := 4) cl_5 fl_X3_121 dX3_readName_4 s_34 (by decide) rfl (by decide) ?_
  refine sx_iconst dX3_readName_7 ⟨by decide, by decide⟩ ?_
  refine sx_icmp_eq (tgt := 21) dX3_readName_8 (by decide) (fun c1 => ?_) (fun c1 => ?_)
  ·
    refine sx_aload_n dX3_readName_21 rfl ?_
    refine sx_aload_n dX3_readName_22 rfl ?_
    refine sx_getS (k := 0) (t := 34) cl_3 fl_X3_12 dX3_readName_23 s_33 (by decide) rfl (by decide) ?_
    refine sx_getL (k := 6) cl_5 fl_X3_139 dX3_readName_26 s_34 (by decide) rfl (by decide) ?_
    refine sx_callVi lk_X3_143 cl_3 s_33 (by decide) dX3_readName_29 (vs := [_]) rfl rfl (Nat.le_of_ble_eq_true rfl) (Nat.le_of_ble_eq_true rfl) rfl (c_X3_numberOf_13 _ hI.1 (by omega) _) (fun x3 h2 ph2 => ?_)
    subst ph2
    refine sx_iconst dX3_readName_32 ⟨by decide, by decide⟩ ?_
    refine sx_icmp_eq (tgt := 47) dX3_readName_33 (by decide) (fun c4 => ?_) (fun c4 => ?_)
    ·
      refine sx_aload_n dX3_readName_47 rfl ?_
      refine sx_getS (k := 3) (t := 46) cl_3 fl_X3_32 dX3_readName_48 s_33 (by decide) rfl (by decide) ?_
      refine sx_aload_n dX3_readName_51 rfl ?_
      refine sx_getR (k := 9) (t := 13) cl_3 fl_X3_40 dX3_readName_52 s_33 (by decide) rfl (by decide) (by omega) ?_
      refine sx_getI (k := 0) cl_0 fl_X3_127 dX3_readName_55 s_13 (by decide) rfl (by decide) ?_
      have r5 : (0 : Int) ≤ h0 13 0 ∧ h0 13 0 ≤ 6 := hI.1.1 13 0
      refine sx_aload_n dX3_readName_58 rfl ?_
      refine sx_getS (k := 0) (t := 34) cl_3 fl_X3_12 dX3_readName_59 s_33 (by decide) rfl (by decide) ?_
      refine sx_getL (k := 6) cl_5 fl_X3_139 dX3_readName_62 s_34 (by decide) rfl (by decide) ?_
      refine sy_lastore dX3_readName_65 s_46 (by decide) (by decide) ⟨by omega, by omega⟩ (fun h6 eh6 => ?_)
      have Ih6 := hI.up eh6 trivial rfl rfl
      have th6_33_9 := eh6.2 (33) 9 (by omega)
      have th6_13_0 := eh6.2 (13) 0 (by omega)
      refine sx_ret dX3_readName_66 ?_
      exact ⟨rfl, Ih6⟩
    ·
      refine sx_aload_n dX3_readName_36 rfl ?_
      refine sx_getS (k := 0) (t := 34) cl_3 fl_X3_12 dX3_readName_37 s_33 (by decide) rfl (by decide) ?_
      refine sx_iconst dX3_readName_40 ⟨by decide, by decide⟩ ?_
      refine sx_callVv lk_X3_124 cl_5 s_34 (by decide) dX3_readName_41 (vs := [_]) rfl rfl (Nat.le_of_ble_eq_true rfl) (Nat.le_of_ble_eq_true rfl) rfl (c_X5_fail _ hI.1 _) (fun h7 ph7 => ?_)
      obtain ⟨Kh7, f_h7⟩ := ph7
      have Ih7 := hI.tr Kh7 sb_prR_prC
      have th7_33_9 := Kh7.2 (33) 9 rfl
      have th7_13_0 := Kh7.2 (13) 0 rfl
      refine sx_goto (tgt := 66) dX3_readName_44 (by decide) ?_
      refine sx_ret dX3_readName_66 ?_
      exact ⟨rfl, Ih7⟩
  ·
    refine sx_aload_n dX3_readName_11 rfl ?_
    refine sx_getS (k := 0) (t := 34) cl_3 fl_X3_12 dX3_readName_12 s_33 (by decide) rfl (by decide) ?_
    refine sx_callVv lk_X3_81 cl_5 s_34 (by decide) dX3_readName_15 (vs := []) rfl rfl (Nat.le_of_ble_eq_true rfl) (Nat.le_of_ble_eq_true rfl) rfl (c_X5_refuse _ hI.1) (fun h9 ph9 => ?_)
    obtain ⟨Kh9, f_h9⟩ := ph9
    have Ih9 := hI.tr Kh9 sb_prR_prC
    have th9_33_9 := Kh9.2 (33) 9 rfl
    have th9_13_0 := Kh9.2 (13) 0 rfl
    refine sx_goto (tgt := 66) dX3_readName_18 (by decide) ?_
    refine sx_ret dX3_readName_66 ?_
    exact ⟨rfl, Ih9⟩
set_option maxRecDepth 20000 in
set_option maxHeartbeats 4000000 in
theorem c_X3_readCall_13 {G : sw_G} (d : Nat) {h0 : sw_H} (hJ : cJ h0) (hc : h0 33 9 = 13)  : sw_E G NH SH (d + 8) mX3_readCall 0 [some (sw_r 33)] [] h0 (sw_Qv (fun h' => cK prX h0 h')) := by
  have hI : cK prX h0 h0 := cK.refl hJ
  refine sx_aload_n dX3_readCall_0 rfl ?_
  refine sx_iconst dX3_readCall_1 ⟨by decide, by decide⟩ ?_
  refine sy_putI (k := 7) cl_3 fl_X3_160 dX3_readCall_2 s_33 (by decide) rfl (by decide) rfl rfl (fun h1 eh1 => ?_)
  have Ih1 := hI.up eh1 trivial rfl rfl
  have th1_33_9 := eh1.2 (33) 9 (by decide)
  refine sx_aload_n dX3_readCall_5 rfl ?_
  refine sx_aload_n dX3_readCall_6 rfl ?_
  refine sx_aload_n dX3_readCall_7 rfl ?_
  refine sx_getS (k := 0) (t := 34) cl_3 fl_X3_12 dX3_readCall_8 s_33 (by decide) rfl (by decide) ?_
  refine sx_getL (k := 6) cl_5 fl_X3_139 dX3_readCall_11 s_34 (by decide) rfl (by decide) ?_
  refine sx_callVi lk_X3_143 cl_3 s_33 (by decide) dX3_readCall_14 (vs := [_]) rfl rfl (Nat.le_of_ble_eq_true rfl) (Nat.le_of_ble_eq_true rfl) rfl (c_X3_numberOf_13 _ Ih1.1 (by omega) _) (fun x3 h2 ph2 => ?_)
  subst ph2
  refine sy_putI (k := 8) cl_3 fl_X3_163 dX3_readCall_17 s_33 (by decide) rfl (by decide) rfl rfl (fun h4 eh4 => ?_)
  have Ih4 := Ih1.up eh4 trivial rfl rfl
  have th4_33_9 := eh4.2 (33) 9 (by decide)
  refine sx_aload_n dX3_readCall_20 rfl ?_
  refine sx_getI (k := 8) cl_3 fl_X3_163 dX3_readCall_21 s_33 (by decide) rfl (by decide) ?_
  refine sx_iconst dX3_readCall_24 ⟨by decide, by decide⟩ ?_
  refine sx_icmp_ne (tgt := 36) dX3_readCall_25 (by decide) (fun c5 => ?_) (fun c5 => ?_)
  ·
    refine sx_ret dX3_readCall_36 ?_
    exact ⟨rfl, Ih4⟩
  ·
    refine sx_aload_n dX3_readCall_28 rfl ?_
    refine sx_getS (k := 0) (t := 34) cl_3 fl_X3_12 dX3_readCall_29 s_33 (by decide) rfl (by decide) ?_
    refine sx_iconst dX3_readCall_32 ⟨by decide, by decide⟩ ?_
    refine sx_callVv lk_X3_124 cl_5 s_34 (by decide) dX3_readCall_33 (vs := [_]) rfl rfl (Nat.le_of_ble_eq_true rfl) (Nat.le_of_ble_eq_true rfl) rfl (c_X5_fail _ Ih4.1 _) (fun h6 ph6 => ?_)
    obtain ⟨Kh6, f_h6⟩ := ph6
    have Ih6 := Ih4.tr Kh6 sb_prX_prC
    have th6_33_9 := Kh6.2 (33) 9 rfl
    refine sx_ret dX3_readCall_36 ?_
    exact ⟨rfl, Ih6⟩
set_option maxRecDepth 20000 in
set_option maxHeartbeats 4000000 in
theorem c_X3_readOpening_13 {G : sw_G} (d : Nat) {h0 : sw_H} (hJ : cJ h0) (hc : h0 33 9 = 13) (hi : h0 13 1 ≤ 59) : sw_E G NH SH (d + 9) mX3_readOpening 0 [some (sw_r 33)] [] h0 (sw_Qv (fun h' => cK prX h0 h')) := by
  have hI : cK prX h0 h0 := cK.refl hJ
  refine sx_aload_n dX3_readOpening_0 rfl ?_
  refine sx_getI (k := 5) cl_3 fl_X3_147 dX3_readOpening_1 s_33 (by decide) rfl (by decide) ?_
  have r1 : (0 : Int) ≤ h0 33 5 ∧ h0 33 5 ≤ 4 := hI.1.1 33 5
  refine sx_iconst dX3_readOpening_4 ⟨by decide, by decide⟩ ?_
  refine sx_icmp_lt (tgt := 16) dX3_readOpening_5 (by decide) (fun c2 => ?_) (fun c2 => ?_)
  ·
    refine sx_aload_n dX3_readOpening_16 rfl ?_
    refine sx_getS (k := 4) (t := 47) cl_3 fl_X3_36 dX3_readOpening_17 s_33 (by decide) rfl (by decide) ?_
    refine sx_aload_n dX3_readOpening_20 rfl ?_
    refine sx_getI (k := 5) cl_3 fl_X3_147 dX3_readOpening_21 s_33 (by decide) rfl (by decide) ?_
    have r3 : (0 : Int) ≤ h0 33 5 ∧ h0 33 5 ≤ 4 := hI.1.1 33 5
    refine sx_aload_n dX3_readOpening_24 rfl ?_
    refine sx_getR (k := 9) (t := 13) cl_3 fl_X3_40 dX3_readOpening_25 s_33 (by decide) rfl (by decide) (by omega) ?_
    refine sx_getI (k := 1) cl_0 fl_X3_201 dX3_readOpening_28 s_13 (by decide) rfl (by decide) ?_
    have r4 : (0 : Int) ≤ h0 13 1 ∧ h0 13 1 ≤ 60 := hI.1.1 13 1
    refine sy_iastore dX3_readOpening_31 s_47 (by decide) (by decide) ⟨by omega, by omega⟩ (fun h5 eh5 => ?_)
    have Ih5 := hI.up eh5 (show (0 : Int) ≤ _ ∧ _ ≤ (59 : Int) from ⟨by omega, by omega⟩) rfl rfl
    have th5_33_9 := eh5.2 (33) 9 (by omega)
    have th5_33_5 := eh5.2 (33) 5 (by omega)
    have th5_13_1 := eh5.2 (13) 1 (by omega)
    refine sx_aload_n dX3_readOpening_32 rfl ?_
    refine sx_dupr dX3_readOpening_33 ?_
    refine sx_getI (k := 5) cl_3 fl_X3_147 dX3_readOpening_34 s_33 (by decide) rfl (by decide) ?_
    have r6 : (0 : Int) ≤ h5 33 5 ∧ h5 33 5 ≤ 4 := Ih5.1.1 33 5
    refine sx_iconst dX3_readOpening_37 ⟨by decide, by decide⟩ ?_
    refine sx_iadd dX3_readOpening_38 ?_
    refine sy_topw (by omega) ?_
    refine sy_putI (k := 5) cl_3 fl_X3_147 dX3_readOpening_39 s_33 (by decide) rfl (by decide) rfl rfl (fun h7 eh7 => ?_)
    have Ih7 := Ih5.up eh7 (show (0 : Int) ≤ _ ∧ _ ≤ (4 : Int) from ⟨by omega, by omega⟩) rfl rfl
    have th7_33_9 := eh7.2 (33) 9 (by decide)
    have th7_33_5 := eh7.1
    have th7_13_1 := eh7.2 (13) 1 (by decide)
    refine sx_aload_n dX3_readOpening_42 rfl ?_
    refine sx_aload_n dX3_readOpening_43 rfl ?_
    refine sx_getS (k := 0) (t := 34) cl_3 fl_X3_12 dX3_readOpening_44 s_33 (by decide) rfl (by decide) ?_
    refine sx_bipush dX3_readOpening_47 ⟨by decide, by decide, by decide⟩ ?_
    refine sx_callVz lk_X3_61 cl_5 s_34 (by decide) dX3_readOpening_49 (vs := [_]) rfl rfl (Nat.le_of_ble_eq_true rfl) (Nat.le_of_ble_eq_true rfl) rfl (c_X5_isKey _ Ih7.1 _) (fun x9 h8 zx9 ph8 => ?_)
    subst ph8
    refine sx_if_eq (tgt := 59) dX3_readOpening_52 (by decide) (fun c10 => ?_) (fun c10 => ?_)
    ·
      refine sx_bipush dX3_readOpening_59 ⟨by decide, by decide, by decide⟩ ?_
      refine sy_putI (k := 7) cl_3 fl_X3_160 dX3_readOpening_61 s_33 (by decide) rfl (by decide) rfl rfl (fun h11 eh11 => ?_)
      have Ih11 := Ih7.up eh11 trivial rfl rfl
      have th11_33_9 := eh11.2 (33) 9 (by decide)
      have th11_33_5 := eh11.2 (33) 5 (by decide)
      have th11_13_1 := eh11.2 (13) 1 (by decide)
      refine sx_aload_n dX3_readOpening_64 rfl ?_
      refine sx_iconst dX3_readOpening_65 ⟨by decide, by decide⟩ ?_
      refine sy_putI (k := 8) cl_3 fl_X3_163 dX3_readOpening_66 s_33 (by decide) rfl (by decide) rfl rfl (fun h12 eh12 => ?_)
      have Ih12 := Ih11.up eh12 trivial rfl rfl
      have th12_33_9 := eh12.2 (33) 9 (by decide)
      have th12_33_5 := eh12.2 (33) 5 (by decide)
      have th12_13_1 := eh12.2 (13) 1 (by decide)
      refine sx_ret dX3_readOpening_69 ?_
      exact ⟨rfl, Ih12⟩
    ·
      refine sx_iconst dX3_readOpening_55 ⟨by decide, by decide⟩ ?_
      refine sx_goto (tgt := 61) dX3_readOpening_56 (by decide) ?_
      refine sy_putI (k := 7) cl_3 fl_X3_160 dX3_readOpening_61 s_33 (by decide) rfl (by decide) rfl rfl (fun h13 eh13 => ?_)
      have Ih13 := Ih7.up eh13 trivial rfl rfl
      have th13_33_9 := eh13.2 (33) 9 (by decide)
      have th13_33_5 := eh13.2 (33) 5 (by decide)
      have th13_13_1 := eh13.2 (13) 1 (by decide)
      refine sx_aload_n dX3_readOpening_64 rfl ?_
      refine sx_iconst dX3_readOpening_65 ⟨by decide, by decide⟩ ?_
      refine sy_putI (k := 8) cl_3 fl_X3_163 dX3_readOpening_66 s_33 (by decide) rfl (by decide) rfl rfl (fun h14 eh14 => ?_)
      have Ih14 := Ih13.up eh14 trivial rfl rfl
      have th14_33_9 := eh14.2 (33) 9 (by decide)
      have th14_33_5 := eh14.2 (33) 5 (by decide)
      have th14_13_1 := eh14.2 (13) 1 (by decide)
      refine sx_ret dX3_readOpening_69 ?_
      exact ⟨rfl, Ih14⟩
  ·
    refine sx_aload_n dX3_readOpening_8 rfl ?_
    refine sx_getS (k := 0) (t := 34) cl_3 fl_X3_12 dX3_readOpening_9 s_33 (by decide) rfl (by decide) ?_
    refine sx_callVv lk_X3_81 cl_5 s_34 (by decide) dX3_readOpening_12 (vs := []) rfl rfl (Nat.le_of_ble_eq_true rfl) (Nat.le_of_ble_eq_true rfl) rfl (c_X5_refuse _ hI.1) (fun h15 ph15 => ?_)
    obtain ⟨Kh15, f_h15⟩ := ph15
    have Ih15 := hI.tr Kh15 sb_prX_prC
    have th15_33_9 := Kh15.2 (33) 9 rfl
    have th15_33_5 := Kh15.2 (33) 5 rfl
    have th15_13_1 := Kh15.2 (13) 1 rfl
    refine sx_ret dX3_readOpening_15 ?_
    exact ⟨rfl, Ih15⟩
set_option maxRecDepth 20000 in
set_option maxHeartbeats 4000000 in
theorem c_X3_readClosing_13 {G : sw_G} (d : Nat) {h0 : sw_H} (hJ : cJ h0) (hc : h0 33 9 = 13) (hi : h0 13 1 ≤ 59) : sw_E G NH SH (d + 9) mX3_readClosing 0 [some (sw_r 33), none, none] [] h0 (sw_Qv (fun h' => cK prX h0 h')) := by
  have hI : cK prX h0 h0 := cK.refl hJ
  have J23_n1 : ∀ (q : Int) , (q = -1 ∨ (0 < h0 33 5 ∧ 0 ≤ q ∧ q ≤ 59)) → sw_E G NH SH (d + 9) mX3_readClosing 23 [some (sw_r 33), some (sw_i q), none] [] h0 (sw_Qv (fun h' => cK prX h0 h')) := by
    intro q_2 j3
    have J42_n4 : ∀ (u : Int) , (q_2 ≠ -1 ∨ u = -1) → sw_E G NH SH (d + 9) mX3_readClosing 42 [some (sw_r 33), some (sw_i q_2), some (sw_i u)] [] h0 (sw_Qv (fun h' => cK prX h0 h')) := by
      intro u_5 j6
      refine sx_aload_n dX3_readClosing_42 rfl ?_
      refine sx_iconst dX3_readClosing_43 ⟨by decide, by decide⟩ ?_
      refine sy_putI (k := 8) cl_3 fl_X3_163 dX3_readClosing_44 s_33 (by decide) rfl (by decide) rfl rfl (fun h7 eh7 => ?_)
      have Ih7 := hI.up eh7 trivial rfl rfl
      have th7_33_9 := eh7.2 (33) 9 (by decide)
      have th7_33_5 := eh7.2 (33) 5 (by decide)
      have th7_13_1 := eh7.2 (13) 1 (by decide)
      refine sx_aload_n dX3_readClosing_47 rfl ?_
      refine sx_getS (k := 0) (t := 34) cl_3 fl_X3_12 dX3_readClosing_48 s_33 (by decide) rfl (by decide) ?_
      refine sx_bipush dX3_readClosing_51 ⟨by decide, by decide, by decide⟩ ?_
      refine sx_callVz lk_X3_61 cl_5 s_34 (by decide) dX3_readClosing_53 (vs := [_]) rfl rfl (Nat.le_of_ble_eq_true rfl) (Nat.le_of_ble_eq_true rfl) rfl (c_X5_isKey _ Ih7.1 _) (fun x9 h8 zx9 ph8 => ?_)
      subst ph8
      refine sx_if_eq (tgt := 106) dX3_readClosing_56 (by decide) (fun c10 => ?_) (fun c10 => ?_)
      ·
        refine sx_aload_n dX3_readClosing_106 rfl ?_
        refine sx_getS (k := 0) (t := 34) cl_3 fl_X3_12 dX3_readClosing_107 s_33 (by decide) rfl (by decide) ?_
        refine sx_bipush dX3_readClosing_110 ⟨by decide, by decide, by decide⟩ ?_
        refine sx_callVz lk_X3_61 cl_5 s_34 (by decide) dX3_readClosing_112 (vs := [_]) rfl rfl (Nat.le_of_ble_eq_true rfl) (Nat.le_of_ble_eq_true rfl) rfl (c_X5_isKey _ Ih7.1 _) (fun x12 h11 zx12 ph11 => ?_)
        subst ph11
        refine sx_if_eq (tgt := 162) dX3_readClosing_115 (by decide) (fun c13 => ?_) (fun c13 => ?_)
        ·
          refine sx_aload_n dX3_readClosing_162 rfl ?_
          refine sx_getS (k := 0) (t := 34) cl_3 fl_X3_12 dX3_readClosing_163 s_33 (by decide) rfl (by decide) ?_
          refine sx_bipush dX3_readClosing_166 ⟨by decide, by decide, by decide⟩ ?_
          refine sx_callVz lk_X3_61 cl_5 s_34 (by decide) dX3_readClosing_168 (vs := [_]) rfl rfl (Nat.le_of_ble_eq_true rfl) (Nat.le_of_ble_eq_true rfl) rfl (c_X5_isKey _ Ih7.1 _) (fun x15 h14 zx15 ph14 => ?_)
          subst ph14
          refine sx_if_eq (tgt := 215) dX3_readClosing_171 (by decide) (fun c16 => ?_) (fun c16 => ?_)
          ·
            refine sx_aload_n dX3_readClosing_215 rfl ?_
            refine sx_getS (k := 0) (t := 34) cl_3 fl_X3_12 dX3_readClosing_216 s_33 (by decide) rfl (by decide) ?_
            refine sx_callVv lk_X3_81 cl_5 s_34 (by decide) dX3_readClosing_219 (vs := []) rfl rfl (Nat.le_of_ble_eq_true rfl) (Nat.le_of_ble_eq_true rfl) rfl (c_X5_refuse _ Ih7.1) (fun h17 ph17 => ?_)
            obtain ⟨Kh17, f_h17⟩ := ph17
            have Ih17 := Ih7.tr Kh17 sb_prX_prC
            have th17_33_9 := Kh17.2 (33) 9 rfl
            have th17_33_5 := Kh17.2 (33) 5 rfl
            have th17_13_1 := Kh17.2 (13) 1 rfl
            refine sx_ret dX3_readClosing_222 ?_
            exact ⟨rfl, Ih17⟩
          ·
            refine sx_iload_n dX3_readClosing_174 rfl ?_
            refine sx_bipush dX3_readClosing_175 ⟨by decide, by decide, by decide⟩ ?_
            refine sx_icmp_ne (tgt := 215) dX3_readClosing_177 (by decide) (fun c19 => ?_) (fun c19 => ?_)
            ·
              refine sx_aload_n dX3_readClosing_215 rfl ?_
              refine sx_getS (k := 0) (t := 34) cl_3 fl_X3_12 dX3_readClosing_216 s_33 (by decide) rfl (by decide) ?_
              refine sx_callVv lk_X3_81 cl_5 s_34 (by decide) dX3_readClosing_219 (vs := []) rfl rfl (Nat.le_of_ble_eq_true rfl) (Nat.le_of_ble_eq_true rfl) rfl (c_X5_refuse _ Ih7.1) (fun h20 ph20 => ?_)
              obtain ⟨Kh20, f_h20⟩ := ph20
              have Ih20 := Ih7.tr Kh20 sb_prX_prC
              have th20_33_9 := Kh20.2 (33) 9 rfl
              have th20_33_5 := Kh20.2 (33) 5 rfl
              have th20_13_1 := Kh20.2 (13) 1 rfl
              refine sx_ret dX3_readClosing_222 ?_
              exact ⟨rfl, Ih20⟩
            ·
              refine sx_aload_n dX3_readClosing_180 rfl ?_
              refine sx_bipush dX3_readClosing_181 ⟨by decide, by decide, by decide⟩ ?_
              refine sy_putI (k := 7) cl_3 fl_X3_160 dX3_readClosing_183 s_33 (by decide) rfl (by decide) rfl rfl (fun h22 eh22 => ?_)
              have Ih22 := Ih7.up eh22 trivial rfl rfl
              have th22_33_9 := eh22.2 (33) 9 (by decide)
              have th22_33_5 := eh22.2 (33) 5 (by decide)
              have th22_13_1 := eh22.2 (13) 1 (by decide)
              refine sx_aload_n dX3_readClosing_186 rfl ?_
              refine sx_getR (k := 9) (t := 13) cl_3 fl_X3_40 dX3_readClosing_187 s_33 (by decide) rfl (by decide) (by omega) ?_
              refine sx_getS (k := 7) (t := 16) cl_0 fl_X3_215 dX3_readClosing_190 s_13 (by decide) rfl (by decide) ?_
              refine sx_aload_n dX3_readClosing_193 rfl ?_
              refine sx_getR (k := 9) (t := 13) cl_3 fl_X3_40 dX3_readClosing_194 s_33 (by decide) rfl (by decide) (by omega) ?_
              refine sx_getI (k := 1) cl_0 fl_X3_201 dX3_readClosing_197 s_13 (by decide) rfl (by decide) ?_
              have r23 : (0 : Int) ≤ h22 13 1 ∧ h22 13 1 ≤ 60 := Ih22.1.1 13 1
              refine sx_iload_n dX3_readClosing_200 rfl ?_
              refine sy_iastore dX3_readClosing_201 s_16 (by decide) (by decide) ⟨by omega, by omega⟩ (fun h24 eh24 => ?_)
              have Ih24 := Ih22.up eh24 (show (0 : Int) ≤ _ ∧ _ ≤ (59 : Int) from ⟨by omega, by omega⟩) rfl rfl
              have th24_33_9 := eh24.2 (33) 9 (by omega)
              have th24_33_5 := eh24.2 (33) 5 (by omega)
              have th24_13_1 := eh24.2 (13) 1 (by omega)
              refine sx_aload_n dX3_readClosing_202 rfl ?_
              refine sx_dupr dX3_readClosing_203 ?_
              refine sx_getI (k := 5) cl_3 fl_X3_147 dX3_readClosing_204 s_33 (by decide) rfl (by decide) ?_
              have r25 : (0 : Int) ≤ h24 33 5 ∧ h24 33 5 ≤ 4 := Ih24.1.1 33 5
              refine sx_iconst dX3_readClosing_207 ⟨by decide, by decide⟩ ?_
              refine sx_isub dX3_readClosing_208 ?_
              refine sy_topw (by omega) ?_
              refine sy_putI (k := 5) cl_3 fl_X3_147 dX3_readClosing_209 s_33 (by decide) rfl (by decide) rfl rfl (fun h26 eh26 => ?_)
              have Ih26 := Ih24.up eh26 (show (0 : Int) ≤ _ ∧ _ ≤ (4 : Int) from ⟨by omega, by omega⟩) rfl rfl
              have th26_33_9 := eh26.2 (33) 9 (by decide)
              have th26_33_5 := eh26.1
              have th26_13_1 := eh26.2 (13) 1 (by decide)
              refine sx_goto (tgt := 222) dX3_readClosing_212 (by decide) ?_
              refine sx_ret dX3_readClosing_222 ?_
              exact ⟨rfl, Ih26⟩
        ·
          refine sx_iload_n dX3_readClosing_118 rfl ?_
          refine sx_iconst dX3_readClosing_119 ⟨by decide, by decide⟩ ?_
          refine sx_icmp_eq (tgt := 128) dX3_readClosing_120 (by decide) (fun c27 => ?_) (fun c27 => ?_)
          ·
            refine sx_aload_n dX3_readClosing_128 rfl ?_
            refine sx_iconst dX3_readClosing_129 ⟨by decide, by decide⟩ ?_
            refine sy_putI (k := 7) cl_3 fl_X3_160 dX3_readClosing_130 s_33 (by decide) rfl (by decide) rfl rfl (fun h28 eh28 => ?_)
            have Ih28 := Ih7.up eh28 trivial rfl rfl
            have th28_33_9 := eh28.2 (33) 9 (by decide)
            have th28_33_5 := eh28.2 (33) 5 (by decide)
            have th28_13_1 := eh28.2 (13) 1 (by decide)
            refine sx_aload_n dX3_readClosing_133 rfl ?_
            refine sx_getR (k := 9) (t := 13) cl_3 fl_X3_40 dX3_readClosing_134 s_33 (by decide) rfl (by decide) (by omega) ?_
            refine sx_getS (k := 7) (t := 16) cl_0 fl_X3_215 dX3_readClosing_137 s_13 (by decide) rfl (by decide) ?_
            refine sx_iload_n dX3_readClosing_140 rfl ?_
            refine sx_aload_n dX3_readClosing_141 rfl ?_
            refine sx_getR (k := 9) (t := 13) cl_3 fl_X3_40 dX3_readClosing_142 s_33 (by decide) rfl (by decide) (by omega) ?_
            refine sx_getI (k := 1) cl_0 fl_X3_201 dX3_readClosing_145 s_13 (by decide) rfl (by decide) ?_
            have r29 : (0 : Int) ≤ h28 13 1 ∧ h28 13 1 ≤ 60 := Ih28.1.1 13 1
            refine sy_iastore dX3_readClosing_148 s_16 (by decide) (by decide) ⟨by omega, by omega⟩ (fun h30 eh30 => ?_)
            have Ih30 := Ih28.up eh30 (show (0 : Int) ≤ _ ∧ _ ≤ (59 : Int) from ⟨by omega, by omega⟩) rfl rfl
            have th30_33_9 := eh30.2 (33) 9 (by omega)
            have th30_33_5 := eh30.2 (33) 5 (by omega)
            have th30_13_1 := eh30.2 (13) 1 (by omega)
            refine sx_aload_n dX3_readClosing_149 rfl ?_
            refine sx_dupr dX3_readClosing_150 ?_
            refine sx_getI (k := 5) cl_3 fl_X3_147 dX3_readClosing_151 s_33 (by decide) rfl (by decide) ?_
            have r31 : (0 : Int) ≤ h30 33 5 ∧ h30 33 5 ≤ 4 := Ih30.1.1 33 5
            refine sx_iconst dX3_readClosing_154 ⟨by decide, by decide⟩ ?_
            refine sx_isub dX3_readClosing_155 ?_
            refine sy_topw (by omega) ?_
            refine sy_putI (k := 5) cl_3 fl_X3_147 dX3_readClosing_156 s_33 (by decide) rfl (by decide) rfl rfl (fun h32 eh32 => ?_)
            have Ih32 := Ih30.up eh32 (show (0 : Int) ≤ _ ∧ _ ≤ (4 : Int) from ⟨by omega, by omega⟩) rfl rfl
            have th32_33_9 := eh32.2 (33) 9 (by decide)
            have th32_33_5 := eh32.1
            have th32_13_1 := eh32.2 (13) 1 (by decide)
            refine sx_goto (tgt := 222) dX3_readClosing_159 (by decide) ?_
            refine sx_ret dX3_readClosing_222 ?_
            exact ⟨rfl, Ih32⟩
          ·
            refine sx_iload_n dX3_readClosing_123 rfl ?_
            refine sx_iconst dX3_readClosing_124 ⟨by decide, by decide⟩ ?_
            refine sx_icmp_ne (tgt := 162) dX3_readClosing_125 (by decide) (fun c33 => ?_) (fun c33 => ?_)
            ·
              refine sx_aload_n dX3_readClosing_162 rfl ?_
              refine sx_getS (k := 0) (t := 34) cl_3 fl_X3_12 dX3_readClosing_163 s_33 (by decide) rfl (by decide) ?_
              refine sx_bipush dX3_readClosing_166 ⟨by decide, by decide, by decide⟩ ?_
              refine sx_callVz lk_X3_61 cl_5 s_34 (by decide) dX3_readClosing_168 (vs := [_]) rfl rfl (Nat.le_of_ble_eq_true rfl) (Nat.le_of_ble_eq_true rfl) rfl (c_X5_isKey _ Ih7.1 _) (fun x35 h34 zx35 ph34 => ?_)
              subst ph34
              refine sx_if_eq (tgt := 215) dX3_readClosing_171 (by decide) (fun c36 => ?_) (fun c36 => ?_)
              ·
                refine sx_aload_n dX3_readClosing_215 rfl ?_
                refine sx_getS (k := 0) (t := 34) cl_3 fl_X3_12 dX3_readClosing_216 s_33 (by decide) rfl (by decide) ?_
                refine sx_callVv lk_X3_81 cl_5 s_34 (by decide) dX3_readClosing_219 (vs := []) rfl rfl (Nat.le_of_ble_eq_true rfl) (Nat.le_of_ble_eq_true rfl) rfl (c_X5_refuse _ Ih7.1) (fun h37 ph37 => ?_)
                obtain ⟨Kh37, f_h37⟩ := ph37
                have Ih37 := Ih7.tr Kh37 sb_prX_prC
                have th37_33_9 := Kh37.2 (33) 9 rfl
                have th37_33_5 := Kh37.2 (33) 5 rfl
                have th37_13_1 := Kh37.2 (13) 1 rfl
                refine sx_ret dX3_readClosing_222 ?_
                exact ⟨rfl, Ih37⟩
              ·
                refine sx_iload_n dX3_readClosing_174 rfl ?_
                refine sx_bipush dX3_readClosing_175 ⟨by decide, by decide, by decide⟩ ?_
                refine sx_icmp_ne (tgt := 215) dX3_readClosing_177 (by decide) (fun c39 => ?_) (fun c39 => ?_)
                ·
                  refine sx_aload_n dX3_readClosing_215 rfl ?_
                  refine sx_getS (k := 0) (t := 34) cl_3 fl_X3_12 dX3_readClosing_216 s_33 (by decide) rfl (by decide) ?_
                  refine sx_callVv lk_X3_81 cl_5 s_34 (by decide) dX3_readClosing_219 (vs := []) rfl rfl (Nat.le_of_ble_eq_true rfl) (Nat.le_of_ble_eq_true rfl) rfl (c_X5_refuse _ Ih7.1) (fun h40 ph40 => ?_)
                  obtain ⟨Kh40, f_h40⟩ := ph40
                  have Ih40 := Ih7.tr Kh40 sb_prX_prC
                  have th40_33_9 := Kh40.2 (33) 9 rfl
                  have th40_33_5 := Kh40.2 (33) 5 rfl
                  have th40_13_1 := Kh40.2 (13) 1 rfl
                  refine sx_ret dX3_readClosing_222 ?_
                  exact ⟨rfl, Ih40⟩
                ·
                  refine sx_aload_n dX3_readClosing_180 rfl ?_
                  refine sx_bipush dX3_readClosing_181 ⟨by decide, by decide, by decide⟩ ?_
                  refine sy_putI (k := 7) cl_3 fl_X3_160 dX3_readClosing_183 s_33 (by decide) rfl (by decide) rfl rfl (fun h42 eh42 => ?_)
                  have Ih42 := Ih7.up eh42 trivial rfl rfl
                  have th42_33_9 := eh42.2 (33) 9 (by decide)
                  have th42_33_5 := eh42.2 (33) 5 (by decide)
                  have th42_13_1 := eh42.2 (13) 1 (by decide)
                  refine sx_aload_n dX3_readClosing_186 rfl ?_
                  refine sx_getR (k := 9) (t := 13) cl_3 fl_X3_40 dX3_readClosing_187 s_33 (by decide) rfl (by decide) (by omega) ?_
                  refine sx_getS (k := 7) (t := 16) cl_0 fl_X3_215 dX3_readClosing_190 s_13 (by decide) rfl (by decide) ?_
                  refine sx_aload_n dX3_readClosing_193 rfl ?_
                  refine sx_getR (k := 9) (t := 13) cl_3 fl_X3_40 dX3_readClosing_194 s_33 (by decide) rfl (by decide) (by omega) ?_
                  refine sx_getI (k := 1) cl_0 fl_X3_201 dX3_readClosing_197 s_13 (by decide) rfl (by decide) ?_
                  have r43 : (0 : Int) ≤ h42 13 1 ∧ h42 13 1 ≤ 60 := Ih42.1.1 13 1
                  refine sx_iload_n dX3_readClosing_200 rfl ?_
                  refine sy_iastore dX3_readClosing_201 s_16 (by decide) (by decide) ⟨by omega, by omega⟩ (fun h44 eh44 => ?_)
                  have Ih44 := Ih42.up eh44 (show (0 : Int) ≤ _ ∧ _ ≤ (59 : Int) from ⟨by omega, by omega⟩) rfl rfl
                  have th44_33_9 := eh44.2 (33) 9 (by omega)
                  have th44_33_5 := eh44.2 (33) 5 (by omega)
                  have th44_13_1 := eh44.2 (13) 1 (by omega)
                  refine sx_aload_n dX3_readClosing_202 rfl ?_
                  refine sx_dupr dX3_readClosing_203 ?_
                  refine sx_getI (k := 5) cl_3 fl_X3_147 dX3_readClosing_204 s_33 (by decide) rfl (by decide) ?_
                  have r45 : (0 : Int) ≤ h44 33 5 ∧ h44 33 5 ≤ 4 := Ih44.1.1 33 5
                  refine sx_iconst dX3_readClosing_207 ⟨by decide, by decide⟩ ?_
                  refine sx_isub dX3_readClosing_208 ?_
                  refine sy_topw (by omega) ?_
                  refine sy_putI (k := 5) cl_3 fl_X3_147 dX3_readClosing_209 s_33 (by decide) rfl (by decide) rfl rfl (fun h46 eh46 => ?_)
                  have Ih46 := Ih44.up eh46 (show (0 : Int) ≤ _ ∧ _ ≤ (4 : Int) from ⟨by omega, by omega⟩) rfl rfl
                  have th46_33_9 := eh46.2 (33) 9 (by decide)
                  have th46_33_5 := eh46.1
                  have th46_13_1 := eh46.2 (13) 1 (by decide)
                  refine sx_goto (tgt := 222) dX3_readClosing_212 (by decide) ?_
                  refine sx_ret dX3_readClosing_222 ?_
                  exact ⟨rfl, Ih46⟩
            ·
              refine sx_aload_n dX3_readClosing_128 rfl ?_
              refine sx_iconst dX3_readClosing_129 ⟨by decide, by decide⟩ ?_
              refine sy_putI (k := 7) cl_3 fl_X3_160 dX3_readClosing_130 s_33 (by decide) rfl (by decide) rfl rfl (fun h47 eh47 => ?_)
              have Ih47 := Ih7.up eh47 trivial rfl rfl
              have th47_33_9 := eh47.2 (33) 9 (by decide)
              have th47_33_5 := eh47.2 (33) 5 (by decide)
              have th47_13_1 := eh47.2 (13) 1 (by decide)
              refine sx_aload_n dX3_readClosing_133 rfl ?_
              refine sx_getR (k := 9) (t := 13) cl_3 fl_X3_40 dX3_readClosing_134 s_33 (by decide) rfl (by decide) (by omega) ?_
              refine sx_getS (k := 7) (t := 16) cl_0 fl_X3_215 dX3_readClosing_137 s_13 (by decide) rfl (by decide) ?_
              refine sx_iload_n dX3_readClosing_140 rfl ?_
              refine sx_aload_n dX3_readClosing_141 rfl ?_
              refine sx_getR (k := 9) (t := 13) cl_3 fl_X3_40 dX3_readClosing_142 s_33 (by decide) rfl (by decide) (by omega) ?_
              refine sx_getI (k := 1) cl_0 fl_X3_201 dX3_readClosing_145 s_13 (by decide) rfl (by decide) ?_
              have r48 : (0 : Int) ≤ h47 13 1 ∧ h47 13 1 ≤ 60 := Ih47.1.1 13 1
              refine sy_iastore dX3_readClosing_148 s_16 (by decide) (by decide) ⟨by omega, by omega⟩ (fun h49 eh49 => ?_)
              have Ih49 := Ih47.up eh49 (show (0 : Int) ≤ _ ∧ _ ≤ (59 : Int) from ⟨by omega, by omega⟩) rfl rfl
              have th49_33_9 := eh49.2 (33) 9 (by omega)
              have th49_33_5 := eh49.2 (33) 5 (by omega)
              have th49_13_1 := eh49.2 (13) 1 (by omega)
              refine sx_aload_n dX3_readClosing_149 rfl ?_
              refine sx_dupr dX3_readClosing_150 ?_
              refine sx_getI (k := 5) cl_3 fl_X3_147 dX3_readClosing_151 s_33 (by decide) rfl (by decide) ?_
              have r50 : (0 : Int) ≤ h49 33 5 ∧ h49 33 5 ≤ 4 := Ih49.1.1 33 5
              refine sx_iconst dX3_readClosing_154 ⟨by decide, by decide⟩ ?_
              refine sx_isub dX3_readClosing_155 ?_
              refine sy_topw (by omega) ?_
              refine sy_putI (k := 5) cl_3 fl_X3_147 dX3_readClosing_156 s_33 (by decide) rfl (by decide) rfl rfl (fun h51 eh51 => ?_)
              have Ih51 := Ih49.up eh51 (show (0 : Int) ≤ _ ∧ _ ≤ (4 : Int) from ⟨by omega, by omega⟩) rfl rfl
              have th51_33_9 := eh51.2 (33) 9 (by decide)
              have th51_33_5 := eh51.1
              have th51_13_1 := eh51.2 (13) 1 (by decide)
              refine sx_goto (tgt := 222) dX3_readClosing_159 (by decide) ?_
              refine sx_ret dX3_readClosing_222 ?_
              exact ⟨rfl, Ih51⟩
      ·
        refine sx_iload_n dX3_readClosing_59 rfl ?_
        refine sx_iconst dX3_readClosing_60 ⟨by decide, by decide⟩ ?_
        refine sx_icmp_ne (tgt := 106) dX3_readClosing_61 (by decide) (fun c52 => ?_) (fun c52 => ?_)
        ·
          refine sx_aload_n dX3_readClosing_106 rfl ?_
          refine sx_getS (k := 0) (t := 34) cl_3 fl_X3_12 dX3_readClosing_107 s_33 (by decide) rfl (by decide) ?_
          refine sx_bipush dX3_readClosing_110 ⟨by decide, by decide, by decide⟩ ?_
          refine sx_callVz lk_X3_61 cl_5 s_34 (by decide) dX3_readClosing_112 (vs := [_]) rfl rfl (Nat.le_of_ble_eq_true rfl) (Nat.le_of_ble_eq_true rfl) rfl (c_X5_isKey _ Ih7.1 _) (fun x54 h53 zx54 ph53 => ?_)
          subst ph53
          refine sx_if_eq (tgt := 162) dX3_readClosing_115 (by decide) (fun c55 => ?_) (fun c55 => ?_)
          ·
            refine sx_aload_n dX3_readClosing_162 rfl ?_
            refine sx_getS (k := 0) (t := 34) cl_3 fl_X3_12 dX3_readClosing_163 s_33 (by decide) rfl (by decide) ?_
            refine sx_bipush dX3_readClosing_166 ⟨by decide, by decide, by decide⟩ ?_
            refine sx_callVz lk_X3_61 cl_5 s_34 (by decide) dX3_readClosing_168 (vs := [_]) rfl rfl (Nat.le_of_ble_eq_true rfl) (Nat.le_of_ble_eq_true rfl) rfl (c_X5_isKey _ Ih7.1 _) (fun x57 h56 zx57 ph56 => ?_)
            subst ph56
            refine sx_if_eq (tgt := 215) dX3_readClosing_171 (by decide) (fun c58 => ?_) (fun c58 => ?_)
            ·
              refine sx_aload_n dX3_readClosing_215 rfl ?_
              refine sx_getS (k := 0) (t := 34) cl_3 fl_X3_12 dX3_readClosing_216 s_33 (by decide) rfl (by decide) ?_
              refine sx_callVv lk_X3_81 cl_5 s_34 (by decide) dX3_readClosing_219 (vs := []) rfl rfl (Nat.le_of_ble_eq_true rfl) (Nat.le_of_ble_eq_true rfl) rfl (c_X5_refuse _ Ih7.1) (fun h59 ph59 => ?_)
              obtain ⟨Kh59, f_h59⟩ := ph59
              have Ih59 := Ih7.tr Kh59 sb_prX_prC
              have th59_33_9 := Kh59.2 (33) 9 rfl
              have th59_33_5 := Kh59.2 (33) 5 rfl
              have th59_13_1 := Kh59.2 (13) 1 rfl
              refine sx_ret dX3_readClosing_222 ?_
              exact ⟨rfl, Ih59⟩
            ·
              refine sx_iload_n dX3_readClosing_174 rfl ?_
              refine sx_bipush dX3_readClosing_175 ⟨by decide, by decide, by decide⟩ ?_
              refine sx_icmp_ne (tgt := 215) dX3_readClosing_177 (by decide) (fun c61 => ?_) (fun c61 => ?_)
              ·
                refine sx_aload_n dX3_readClosing_215 rfl ?_
                refine sx_getS (k := 0) (t := 34) cl_3 fl_X3_12 dX3_readClosing_216 s_33 (by decide) rfl (by decide) ?_
                refine sx_callVv lk_X3_81 cl_5 s_34 (by decide) dX3_readClosing_219 (vs := []) rfl rfl (Nat.le_of_ble_eq_true rfl) (Nat.le_of_ble_eq_true rfl) rfl (c_X5_refuse _ Ih7.1) (fun h62 ph62 => ?_)
                obtain ⟨Kh62, f_h62⟩ := ph62
                have Ih62 := Ih7.tr Kh62 sb_prX_prC
                have th62_33_9 := Kh62.2 (33) 9 rfl
                have th62_33_5 := Kh62.2 (33) 5 rfl
                have th62_13_1 := Kh62.2 (13) 1 rfl
                refine sx_ret dX3_readClosing_222 ?_
                exact ⟨rfl, Ih62⟩
              ·
                refine sx_aload_n dX3_readClosing_180 rfl ?_
                refine sx_bipush dX3_readClosing_181 ⟨by decide, by decide, by decide⟩ ?_
                refine sy_putI (k := 7) cl_3 fl_X3_160 dX3_readClosing_183 s_33 (by decide) rfl (by decide) rfl rfl (fun h64 eh64 => ?_)
                have Ih64 := Ih7.up eh64 trivial rfl rfl
                have th64_33_9 := eh64.2 (33) 9 (by decide)
                have th64_33_5 := eh64.2 (33) 5 (by decide)
                have th64_13_1 := eh64.2 (13) 1 (by decide)
                refine sx_aload_n dX3_readClosing_186 rfl ?_
                refine sx_getR (k := 9) (t := 13) cl_3 fl_X3_40 dX3_readClosing_187 s_33 (by decide) rfl (by decide) (by omega) ?_
                refine sx_getS (k := 7) (t := 16) cl_0 fl_X3_215 dX3_readClosing_190 s_13 (by decide) rfl (by decide) ?_
                refine sx_aload_n dX3_readClosing_193 rfl ?_
                refine sx_getR (k := 9) (t := 13) cl_3 fl_X3_40 dX3_readClosing_194 s_33 (by decide) rfl (by decide) (by omega) ?_
                refine sx_getI (k := 1) cl_0 fl_X3_201 dX3_readClosing_197 s_13 (by decide) rfl (by decide) ?_
                have r65 : (0 : Int) ≤ h64 13 1 ∧ h64 13 1 ≤ 60 := Ih64.1.1 13 1
                refine sx_iload_n dX3_readClosing_200 rfl ?_
                refine sy_iastore dX3_readClosing_201 s_16 (by decide) (by decide) ⟨by omega, by omega⟩ (fun h66 eh66 => ?_)
                have Ih66 := Ih64.up eh66 (show (0 : Int) ≤ _ ∧ _ ≤ (59 : Int) from ⟨by omega, by omega⟩) rfl rfl
                have th66_33_9 := eh66.2 (33) 9 (by omega)
                have th66_33_5 := eh66.2 (33) 5 (by omega)
                have th66_13_1 := eh66.2 (13) 1 (by omega)
                refine sx_aload_n dX3_readClosing_202 rfl ?_
                refine sx_dupr dX3_readClosing_203 ?_
                refine sx_getI (k := 5) cl_3 fl_X3_147 dX3_readClosing_204 s_33 (by decide) rfl (by decide) ?_
                have r67 : (0 : Int) ≤ h66 33 5 ∧ h66 33 5 ≤ 4 := Ih66.1.1 33 5
                refine sx_iconst dX3_readClosing_207 ⟨by decide, by decide⟩ ?_
                refine sx_isub dX3_readClosing_208 ?_
                refine sy_topw (by omega) ?_
                refine sy_putI (k := 5) cl_3 fl_X3_147 dX3_readClosing_209 s_33 (by decide) rfl (by decide) rfl rfl (fun h68 eh68 => ?_)
                have Ih68 := Ih66.up eh68 (show (0 : Int) ≤ _ ∧ _ ≤ (4 : Int) from ⟨by omega, by omega⟩) rfl rfl
                have th68_33_9 := eh68.2 (33) 9 (by decide)
                have th68_33_5 := eh68.1
                have th68_13_1 := eh68.2 (13) 1 (by decide)
                refine sx_goto (tgt := 222) dX3_readClosing_212 (by decide) ?_
                refine sx_ret dX3_readClosing_222 ?_
                exact ⟨rfl, Ih68⟩
          ·
            refine sx_iload_n dX3_readClosing_118 rfl ?_
            refine sx_iconst dX3_readClosing_119 ⟨by decide, by decide⟩ ?_
            refine sx_icmp_eq (tgt := 128) dX3_readClosing_120 (by decide) (fun c69 => ?_) (fun c69 => ?_)
            ·
              refine sx_aload_n dX3_readClosing_128 rfl ?_
              refine sx_iconst dX3_readClosing_129 ⟨by decide, by decide⟩ ?_
              refine sy_putI (k := 7) cl_3 fl_X3_160 dX3_readClosing_130 s_33 (by decide) rfl (by decide) rfl rfl (fun h70 eh70 => ?_)
              have Ih70 := Ih7.up eh70 trivial rfl rfl
              have th70_33_9 := eh70.2 (33) 9 (by decide)
              have th70_33_5 := eh70.2 (33) 5 (by decide)
              have th70_13_1 := eh70.2 (13) 1 (by decide)
              refine sx_aload_n dX3_readClosing_133 rfl ?_
              refine sx_getR (k := 9) (t := 13) cl_3 fl_X3_40 dX3_readClosing_134 s_33 (by decide) rfl (by decide) (by omega) ?_
              refine sx_getS (k := 7) (t := 16) cl_0 fl_X3_215 dX3_readClosing_137 s_13 (by decide) rfl (by decide) ?_
              refine sx_iload_n dX3_readClosing_140 rfl ?_
              refine sx_aload_n dX3_readClosing_141 rfl ?_
              refine sx_getR (k := 9) (t := 13) cl_3 fl_X3_40 dX3_readClosing_142 s_33 (by decide) rfl (by decide) (by omega) ?_
              refine sx_getI (k := 1) cl_0 fl_X3_201 dX3_readClosing_145 s_13 (by decide) rfl (by decide) ?_
              have r71 : (0 : Int) ≤ h70 13 1 ∧ h70 13 1 ≤ 60 := Ih70.1.1 13 1
              refine sy_iastore dX3_readClosing_148 s_16 (by decide) (by decide) ⟨by omega, by omega⟩ (fun h72 eh72 => ?_)
              have Ih72 := Ih70.up eh72 (show (0 : Int) ≤ _ ∧ _ ≤ (59 : Int) from ⟨by omega, by omega⟩) rfl rfl
              have th72_33_9 := eh72.2 (33) 9 (by omega)
              have th72_33_5 := eh72.2 (33) 5 (by omega)
              have th72_13_1 := eh72.2 (13) 1 (by omega)
              refine sx_aload_n dX3_readClosing_149 rfl ?_
              refine sx_dupr dX3_readClosing_150 ?_
              refine sx_getI (k := 5) cl_3 fl_X3_147 dX3_readClosing_151 s_33 (by decide) rfl (by decide) ?_
              have r73 : (0 : Int) ≤ h72 33 5 ∧ h72 33 5 ≤ 4 := Ih72.1.1 33 5
              refine sx_iconst dX3_readClosing_154 ⟨by decide, by decide⟩ ?_
              refine sx_isub dX3_readClosing_155 ?_
              refine sy_topw (by omega) ?_
              refine sy_putI (k := 5) cl_3 fl_X3_147 dX3_readClosing_156 s_33 (by decide) rfl (by decide) rfl rfl (fun h74 eh74 => ?_)
              have Ih74 := Ih72.up eh74 (show (0 : Int) ≤ _ ∧ _ ≤ (4 : Int) from ⟨by omega, by omega⟩) rfl rfl
              have th74_33_9 := eh74.2 (33) 9 (by decide)
              have th74_33_5 := eh74.1
              have th74_13_1 := eh74.2 (13) 1 (by decide)
              refine sx_goto (tgt := 222) dX3_readClosing_159 (by decide) ?_
              refine sx_ret dX3_readClosing_222 ?_
              exact ⟨rfl, Ih74⟩
            ·
              refine sx_iload_n dX3_readClosing_123 rfl ?_
              refine sx_iconst dX3_readClosing_124 ⟨by decide, by decide⟩ ?_
              refine sx_icmp_ne (tgt := 162) dX3_readClosing_125 (by decide) (fun c75 => ?_) (fun c75 => ?_)
              ·
                refine sx_aload_n dX3_readClosing_162 rfl ?_
                refine sx_getS (k := 0) (t := 34) cl_3 fl_X3_12 dX3_readClosing_163 s_33 (by decide) rfl (by decide) ?_
                refine sx_bipush dX3_readClosing_166 ⟨by decide, by decide, by decide⟩ ?_
                refine sx_callVz lk_X3_61 cl_5 s_34 (by decide) dX3_readClosing_168 (vs := [_]) rfl rfl (Nat.le_of_ble_eq_true rfl) (Nat.le_of_ble_eq_true rfl) rfl (c_X5_isKey _ Ih7.1 _) (fun x77 h76 zx77 ph76 => ?_)
                subst ph76
                refine sx_if_eq (tgt := 215) dX3_readClosing_171 (by decide) (fun c78 => ?_) (fun c78 => ?_)
                ·
                  refine sx_aload_n dX3_readClosing_215 rfl ?_
                  refine sx_getS (k := 0) (t := 34) cl_3 fl_X3_12 dX3_readClosing_216 s_33 (by decide) rfl (by decide) ?_
                  refine sx_callVv lk_X3_81 cl_5 s_34 (by decide) dX3_readClosing_219 (vs := []) rfl rfl (Nat.le_of_ble_eq_true rfl) (Nat.le_of_ble_eq_true rfl) rfl (c_X5_refuse _ Ih7.1) (fun h79 ph79 => ?_)
                  obtain ⟨Kh79, f_h79⟩ := ph79
                  have Ih79 := Ih7.tr Kh79 sb_prX_prC
                  have th79_33_9 := Kh79.2 (33) 9 rfl
                  have th79_33_5 := Kh79.2 (33) 5 rfl
                  have th79_13_1 := Kh79.2 (13) 1 rfl
                  refine sx_ret dX3_readClosing_222 ?_
                  exact ⟨rfl, Ih79⟩
                ·
                  refine sx_iload_n dX3_readClosing_174 rfl ?_
                  refine sx_bipush dX3_readClosing_175 ⟨by decide, by decide, by decide⟩ ?_
                  refine sx_icmp_ne (tgt := 215) dX3_readClosing_177 (by decide) (fun c81 => ?_) (fun c81 => ?_)
                  ·
                    refine sx_aload_n dX3_readClosing_215 rfl ?_
                    refine sx_getS (k := 0) (t := 34) cl_3 fl_X3_12 dX3_readClosing_216 s_33 (by decide) rfl (by decide) ?_
                    refine sx_callVv lk_X3_81 cl_5 s_34 (by decide) dX3_readClosing_219 (vs := []) rfl rfl (Nat.le_of_ble_eq_true rfl) (Nat.le_of_ble_eq_true rfl) rfl (c_X5_refuse _ Ih7.1) (fun h82 ph82 => ?_)
                    obtain ⟨Kh82, f_h82⟩ := ph82
                    have Ih82 := Ih7.tr Kh82 sb_prX_prC
                    have th82_33_9 := Kh82.2 (33) 9 rfl
                    have th82_33_5 := Kh82.2 (33) 5 rfl
                    have th82_13_1 := Kh82.2 (13) 1 rfl
                    refine sx_ret dX3_readClosing_222 ?_
                    exact ⟨rfl, Ih82⟩
                  ·
                    refine sx_aload_n dX3_readClosing_180 rfl ?_
                    refine sx_bipush dX3_readClosing_181 ⟨by decide, by decide, by decide⟩ ?_
                    refine sy_putI (k := 7) cl_3 fl_X3_160 dX3_readClosing_183 s_33 (by decide) rfl (by decide) rfl rfl (fun h84 eh84 => ?_)
                    have Ih84 := Ih7.up eh84 trivial rfl rfl
                    have th84_33_9 := eh84.2 (33) 9 (by decide)
                    have th84_33_5 := eh84.2 (33) 5 (by decide)
                    have th84_13_1 := eh84.2 (13) 1 (by decide)
                    refine sx_aload_n dX3_readClosing_186 rfl ?_
                    refine sx_getR (k := 9) (t := 13) cl_3 fl_X3_40 dX3_readClosing_187 s_33 (by decide) rfl (by decide) (by omega) ?_
                    refine sx_getS (k := 7) (t := 16) cl_0 fl_X3_215 dX3_readClosing_190 s_13 (by decide) rfl (by decide) ?_
                    refine sx_aload_n dX3_readClosing_193 rfl ?_
                    refine sx_getR (k := 9) (t := 13) cl_3 fl_X3_40 dX3_readClosing_194 s_33 (by decide) rfl (by decide) (by omega) ?_
                    refine sx_getI (k := 1) cl_0 fl_X3_201 dX3_readClosing_197 s_13 (by decide) rfl (by decide) ?_
                    have r85 : (0 : Int) ≤ h84 13 1 ∧ h84 13 1 ≤ 60 := Ih84.1.1 13 1
                    refine sx_iload_n dX3_readClosing_200 rfl ?_
                    refine sy_iastore dX3_readClosing_201 s_16 (by decide) (by decide) ⟨by omega, by omega⟩ (fun h86 eh86 => ?_)
                    have Ih86 := Ih84.up eh86 (show (0 : Int) ≤ _ ∧ _ ≤ (59 : Int) from ⟨by omega, by omega⟩) rfl rfl
                    have th86_33_9 := eh86.2 (33) 9 (by omega)
                    have th86_33_5 := eh86.2 (33) 5 (by omega)
                    have th86_13_1 := eh86.2 (13) 1 (by omega)
                    refine sx_aload_n dX3_readClosing_202 rfl ?_
                    refine sx_dupr dX3_readClosing_203 ?_
                    refine sx_getI (k := 5) cl_3 fl_X3_147 dX3_readClosing_204 s_33 (by decide) rfl (by decide) ?_
                    have r87 : (0 : Int) ≤ h86 33 5 ∧ h86 33 5 ≤ 4 := Ih86.1.1 33 5
                    refine sx_iconst dX3_readClosing_207 ⟨by decide, by decide⟩ ?_
                    refine sx_isub dX3_readClosing_208 ?_
                    refine sy_topw (by omega) ?_
                    refine sy_putI (k := 5) cl_3 fl_X3_147 dX3_readClosing_209 s_33 (by decide) rfl (by decide) rfl rfl (fun h88 eh88 => ?_)
                    have Ih88 := Ih86.up eh88 (show (0 : Int) ≤ _ ∧ _ ≤ (4 : Int) from ⟨by omega, by omega⟩) rfl rfl
                    have th88_33_9 := eh88.2 (33) 9 (by decide)
                    have th88_33_5 := eh88.1
                    have th88_13_1 := eh88.2 (13) 1 (by decide)
                    refine sx_goto (tgt := 222) dX3_readClosing_212 (by decide) ?_
                    refine sx_ret dX3_readClosing_222 ?_
                    exact ⟨rfl, Ih88⟩
              ·
                refine sx_aload_n dX3_readClosing_128 rfl ?_
                refine sx_iconst dX3_readClosing_129 ⟨by decide, by decide⟩ ?_
                refine sy_putI (k := 7) cl_3 fl_X3_160 dX3_readClosing_130 s_33 (by decide) rfl (by decide) rfl rfl (fun h89 eh89 => ?_)
                have Ih89 := Ih7.up eh89 trivial rfl rfl
                have th89_33_9 := eh89.2 (33) 9 (by decide)
                have th89_33_5 := eh89.2 (33) 5 (by decide)
                have th89_13_1 := eh89.2 (13) 1 (by decide)
                refine sx_aload_n dX3_readClosing_133 rfl ?_
                refine sx_getR (k := 9) (t := 13) cl_3 fl_X3_40 dX3_readClosing_134 s_33 (by decide) rfl (by decide) (by omega) ?_
                refine sx_getS (k := 7) (t := 16) cl_0 fl_X3_215 dX3_readClosing_137 s_13 (by decide) rfl (by decide) ?_
                refine sx_iload_n dX3_readClosing_140 rfl ?_
                refine sx_aload_n dX3_readClosing_141 rfl ?_
                refine sx_getR (k := 9) (t := 13) cl_3 fl_X3_40 dX3_readClosing_142 s_33 (by decide) rfl (by decide) (by omega) ?_
                refine sx_getI (k := 1) cl_0 fl_X3_201 dX3_readClosing_145 s_13 (by decide) rfl (by decide) ?_
                have r90 : (0 : Int) ≤ h89 13 1 ∧ h89 13 1 ≤ 60 := Ih89.1.1 13 1
                refine sy_iastore dX3_readClosing_148 s_16 (by decide) (by decide) ⟨by omega, by omega⟩ (fun h91 eh91 => ?_)
                have Ih91 := Ih89.up eh91 (show (0 : Int) ≤ _ ∧ _ ≤ (59 : Int) from ⟨by omega, by omega⟩) rfl rfl
                have th91_33_9 := eh91.2 (33) 9 (by omega)
                have th91_33_5 := eh91.2 (33) 5 (by omega)
                have th91_13_1 := eh91.2 (13) 1 (by omega)
                refine sx_aload_n dX3_readClosing_149 rfl ?_
                refine sx_dupr dX3_readClosing_150 ?_
                refine sx_getI (k := 5) cl_3 fl_X3_147 dX3_readClosing_151 s_33 (by decide) rfl (by decide) ?_
                have r92 : (0 : Int) ≤ h91 33 5 ∧ h91 33 5 ≤ 4 := Ih91.1.1 33 5
                refine sx_iconst dX3_readClosing_154 ⟨by decide, by decide⟩ ?_
                refine sx_isub dX3_readClosing_155 ?_
                refine sy_topw (by omega) ?_
                refine sy_putI (k := 5) cl_3 fl_X3_147 dX3_readClosing_156 s_33 (by decide) rfl (by decide) rfl rfl (fun h93 eh93 => ?_)
                have Ih93 := Ih91.up eh93 (show (0 : Int) ≤ _ ∧ _ ≤ (4 : Int) from ⟨by omega, by omega⟩) rfl rfl
                have th93_33_9 := eh93.2 (33) 9 (by decide)
                have th93_33_5 := eh93.1
                have th93_13_1 := eh93.2 (13) 1 (by decide)
                refine sx_goto (tgt := 222) dX3_readClosing_159 (by decide) ?_
                refine sx_ret dX3_readClosing_222 ?_
                exact ⟨rfl, Ih93⟩
        ·
          refine sx_aload_n dX3_readClosing_64 rfl ?_
          refine sx_iconst dX3_readClosing_65 ⟨by decide, by decide⟩ ?_
          refine sy_putI (k := 7) cl_3 fl_X3_160 dX3_readClosing_66 s_33 (by decide) rfl (by decide) rfl rfl (fun h94 eh94 => ?_)
          have Ih94 := Ih7.up eh94 trivial rfl rfl
          have th94_33_9 := eh94.2 (33) 9 (by decide)
          have th94_33_5 := eh94.2 (33) 5 (by decide)
          have th94_13_1 := eh94.2 (13) 1 (by decide)
          refine sx_aload_n dX3_readClosing_69 rfl ?_
          refine sx_getR (k := 9) (t := 13) cl_3 fl_X3_40 dX3_readClosing_70 s_33 (by decide) rfl (by decide) (by omega) ?_
          refine sx_getS (k := 7) (t := 16) cl_0 fl_X3_215 dX3_readClosing_73 s_13 (by decide) rfl (by decide) ?_
          refine sx_iload_n dX3_readClosing_76 rfl ?_
          refine sx_aload_n dX3_readClosing_77 rfl ?_
          refine sx_getR (k := 9) (t := 13) cl_3 fl_X3_40 dX3_readClosing_78 s_33 (by decide) rfl (by decide) (by omega) ?_
          refine sx_getI (k := 1) cl_0 fl_X3_201 dX3_readClosing_81 s_13 (by decide) rfl (by decide) ?_
          have r95 : (0 : Int) ≤ h94 13 1 ∧ h94 13 1 ≤ 60 := Ih94.1.1 13 1
          refine sy_iastore dX3_readClosing_84 s_16 (by decide) (by decide) ⟨by omega, by omega⟩ (fun h96 eh96 => ?_)
          have Ih96 := Ih94.up eh96 (show (0 : Int) ≤ _ ∧ _ ≤ (59 : Int) from ⟨by omega, by omega⟩) rfl rfl
          have th96_33_9 := eh96.2 (33) 9 (by omega)
          have th96_33_5 := eh96.2 (33) 5 (by omega)
          have th96_13_1 := eh96.2 (13) 1 (by omega)
          refine sx_aload_n dX3_readClosing_85 rfl ?_
          refine sx_getS (k := 4) (t := 47) cl_3 fl_X3_36 dX3_readClosing_86 s_33 (by decide) rfl (by decide) ?_
          refine sx_aload_n dX3_readClosing_89 rfl ?_
          refine sx_getI (k := 5) cl_3 fl_X3_147 dX3_readClosing_90 s_33 (by decide) rfl (by decide) ?_
          have r97 : (0 : Int) ≤ h96 33 5 ∧ h96 33 5 ≤ 4 := Ih96.1.1 33 5
          refine sx_iconst dX3_readClosing_93 ⟨by decide, by decide⟩ ?_
          refine sx_isub dX3_readClosing_94 ?_
          refine sy_topw (by omega) ?_
          refine sx_aload_n dX3_readClosing_95 rfl ?_
          refine sx_getR (k := 9) (t := 13) cl_3 fl_X3_40 dX3_readClosing_96 s_33 (by decide) rfl (by decide) (by omega) ?_
          refine sx_getI (k := 1) cl_0 fl_X3_201 dX3_readClosing_99 s_13 (by decide) rfl (by decide) ?_
          have r98 : (0 : Int) ≤ h96 13 1 ∧ h96 13 1 ≤ 60 := Ih96.1.1 13 1
          refine sy_iastore dX3_readClosing_102 s_47 (by decide) (by decide) ⟨by omega, by omega⟩ (fun h99 eh99 => ?_)
          have Ih99 := Ih96.up eh99 (show (0 : Int) ≤ _ ∧ _ ≤ (59 : Int) from ⟨by omega, by omega⟩) rfl rfl
          have th99_33_9 := eh99.2 (33) 9 (by omega)
          have th99_33_5 := eh99.2 (33) 5 (by omega)
          have th99_13_1 := eh99.2 (13) 1 (by omega)
          refine sx_goto (tgt := 222) dX3_readClosing_103 (by decide) ?_
          refine sx_ret dX3_readClosing_222 ?_
          exact ⟨rfl, Ih99⟩
    refine sx_iload_n dX3_readClosing_23 rfl ?_
    refine sx_iconst dX3_readClosing_24 ⟨by decide, by decide⟩ ?_
    refine sx_icmp_ne (tgt := 32) dX3_readClosing_25 (by decide) (fun c100 => ?_) (fun c100 => ?_)
    ·
      refine sx_aload_n dX3_readClosing_32 rfl ?_
      refine sx_getR (k := 9) (t := 13) cl_3 fl_X3_40 dX3_readClosing_33 s_33 (by decide) rfl (by decide) (by omega) ?_
      refine sx_getS (k := 5) (t := 14) cl_0 fl_X3_213 dX3_readClosing_36 s_13 (by decide) rfl (by decide) ?_
      refine sx_iload_n dX3_readClosing_39 rfl ?_
      refine sx_iaload dX3_readClosing_40 s_14 (by decide) (by decide) ⟨by omega, by omega⟩ ?_
      refine sy_top (fun v101 ev101 => ?_)
      refine sx_istore_n dX3_readClosing_41 (by decide) ?_
      exact J42_n4 _ (by omega)
    ·
      refine sx_iconst dX3_readClosing_28 ⟨by decide, by decide⟩ ?_
      refine sx_goto (tgt := 41) dX3_readClosing_29 (by decide) ?_
      refine sx_istore_n dX3_readClosing_41 (by decide) ?_
      exact J42_n4 _ (by omega)
  refine sx_aload_n dX3_readClosing_0 rfl ?_
  refine sx_getI (k := 5) cl_3 fl_X3_147 dX3_readClosing_1 s_33 (by decide) rfl (by decide) ?_
  have r102 : (0 : Int) ≤ h0 33 5 ∧ h0 33 5 ≤ 4 := hI.1.1 33 5
  refine sx_if_le (tgt := 21) dX3_readClosing_4 (by decide) (fun c103 => ?_) (fun c103 => ?_)
  ·
    refine sx_iconst dX3_readClosing_21 ⟨by decide, by decide⟩ ?_
    refine sx_istore_n dX3_readClosing_22 (by decide) ?_
    exact J23_n1 _ (by omega)
  ·
    refine sx_aload_n dX3_readClosing_7 rfl ?_
    refine sx_getS (k := 4) (t := 47) cl_3 fl_X3_36 dX3_readClosing_8 s_33 (by decide) rfl (by decide) ?_
    refine sx_aload_n dX3_readClosing_11 rfl ?_
    refine sx_getI (k := 5) cl_3 fl_X3_147 dX3_readClosing_12 s_33 (by decide) rfl (by decide) ?_
    have r104 : (0 : Int) ≤ h0 33 5 ∧ h0 33 5 ≤ 4 := hI.1.1 33 5
    refine sx_iconst dX3_readClosing_15 ⟨by decide, by decide⟩ ?_
    refine sx_isub dX3_readClosing_16 ?_
    refine sy_topw (by omega) ?_
    refine sy_iaF (F := fun z => (0 : Int) ≤ z ∧ z ≤ 59) dX3_readClosing_17 s_47 (by decide) (by decide) ⟨by omega, by omega⟩ (hI.1.1 47 _) (fun r105 => ?_)
    refine sx_goto (tgt := 22) dX3_readClosing_18 (by decide) ?_
    refine sy_top (fun v106 ev106 => ?_)
    refine sx_istore_n dX3_readClosing_22 (by decide) ?_
    exact J23_n1 _ (by omega)
set_option maxRecDepth 20000 in
set_option maxHeartbeats 4000000 in
theorem c_X3_readItem_13 {G : sw_G} (d : Nat) {h0 : sw_H} (hJ : cJ h0) (hc : h0 33 9 = 13)  : sw_E G NH SH (d + 10) mX3_readItem 0 [some (sw_r 33)] [] h0 (sw_Qv (fun h' => cK prR h0 h' ∧ (h' 34 7 = 0 → h' 13 1 ≤ 59))) := by
  have hI : cK prR h0 h0 := cK.refl hJ
  refine sx_aload_n dX3_readItem_0 rfl ?_
  refine sx_aload_n dX3_readItem_1 rfl ?_
  refine sx_getS (k := 0) (t := 34) cl_3 fl_X3_12 dX3_readItem_2 s_33 (by decide) rfl (by decide) ?_
  refine sx_getI (k := 5) cl_5 fl_X3_115 dX3_readItem_5 s_34 (by decide) rfl (by decide) ?_
  refine sy_putI (k := 8) cl_3 fl_X3_163 dX3_readItem_8 s_33 (by decide) rfl (by decide) rfl rfl (fun h1 eh1 => ?_)
  have Ih1 := hI.up eh1 trivial rfl rfl
  have th1_33_9 := eh1.2 (33) 9 (by decide)
  have th1_13_1 := eh1.2 (13) 1 (by decide)
  have th1_13_0 := eh1.2 (13) 0 (by decide)
  have th1_34_7 := eh1.2 (34) 7 (by decide)
  refine sx_aload_n dX3_readItem_11 rfl ?_
  refine sx_getR (k := 9) (t := 13) cl_3 fl_X3_40 dX3_readItem_12 s_33 (by decide) rfl (by decide) (by omega) ?_
  refine sx_getI (k := 1) cl_0 fl_X3_201 dX3_readItem_15 s_13 (by decide) rfl (by decide) ?_
  have r2 : (0 : Int) ≤ h1 13 1 ∧ h1 13 1 ≤ 60 := Ih1.1.1 13 1
  refine sx_bipush dX3_readItem_18 ⟨by decide, by decide, by decide⟩ ?_
  refine sx_icmp_ge (tgt := 51) dX3_readItem_20 (by decide) (fun c3 => ?_) (fun c3 => ?_)
  ·
    refine sx_aload_n dX3_readItem_51 rfl ?_
    refine sx_getS (k := 0) (t := 34) cl_3 fl_X3_12 dX3_readItem_52 s_33 (by decide) rfl (by decide) ?_
    refine sx_callVv lk_X3_81 cl_5 s_34 (by decide) dX3_readItem_55 (vs := []) rfl rfl (Nat.le_of_ble_eq_true rfl) (Nat.le_of_ble_eq_true rfl) rfl (c_X5_refuse _ Ih1.1) (fun h4 ph4 => ?_)
    obtain ⟨Kh4, f_h4⟩ := ph4
    have Ih4 := Ih1.tr Kh4 sb_prR_prC
    have th4_33_9 := Kh4.2 (33) 9 rfl
    have th4_13_1 := Kh4.2 (13) 1 rfl
    have th4_13_0 := Kh4.2 (13) 0 rfl
    refine sx_goto (tgt := 164) dX3_readItem_58 (by decide) ?_
    refine sx_ret dX3_readItem_164 ?_
    exact ⟨rfl, ⟨Ih4, fun q => by omega⟩⟩
  ·
    refine sx_aload_n dX3_readItem_23 rfl ?_
    refine sx_getR (k := 9) (t := 13) cl_3 fl_X3_40 dX3_readItem_24 s_33 (by decide) rfl (by decide) (by omega) ?_
    refine sx_getI (k := 1) cl_0 fl_X3_201 dX3_readItem_27 s_13 (by decide) rfl (by decide) ?_
    have r6 : (0 : Int) ≤ h1 13 1 ∧ h1 13 1 ≤ 60 := Ih1.1.1 13 1
    refine sx_aload_n dX3_readItem_30 rfl ?_
    refine sx_getR (k := 9) (t := 13) cl_3 fl_X3_40 dX3_readItem_31 s_33 (by decide) rfl (by decide) (by omega) ?_
    refine sx_getS (k := 9) (t := 18) cl_0 fl_X3_198 dX3_readItem_34 s_13 (by decide) rfl (by decide) ?_
    refine sx_aload_n dX3_readItem_37 rfl ?_
    refine sx_getR (k := 9) (t := 13) cl_3 fl_X3_40 dX3_readItem_38 s_33 (by decide) rfl (by decide) (by omega) ?_
    refine sx_getI (k := 0) cl_0 fl_X3_127 dX3_readItem_41 s_13 (by decide) rfl (by decide) ?_
    have r7 : (0 : Int) ≤ h1 13 0 ∧ h1 13 0 ≤ 6 := Ih1.1.1 13 0
    refine sy_iaF (F := fun z => (0 : Int) ≤ z ∧ z ≤ 60) dX3_readItem_44 s_18 (by decide) (by decide) ⟨by omega, by omega⟩ (Ih1.1.1 18 _) (fun r8 => ?_)
    refine sx_isub dX3_readItem_45 ?_
    refine sx_bipush dX3_readItem_46 ⟨by decide, by decide, by decide⟩ ?_
    refine sx_icmp_lt (tgt := 61) dX3_readItem_48 (by decide) (fun c9 => ?_) (fun c9 => ?_)
    ·
      refine sx_aload_n dX3_readItem_61 rfl ?_
      refine sx_getS (k := 0) (t := 34) cl_3 fl_X3_12 dX3_readItem_62 s_33 (by decide) rfl (by decide) ?_
      refine sx_getI (k := 4) cl_5 fl_X3_121 dX3_readItem_65 s_34 (by decide) rfl (by decide) ?_
      refine sx_iconst dX3_readItem_68 ⟨by decide, by decide⟩ ?_
      refine sx_icmp_ne (tgt := 80) dX3_readItem_69 (by decide) (fun c10 => ?_) (fun c10 => ?_)
      ·
        refine sx_aload_n dX3_readItem_80 rfl ?_
        refine sx_getS (k := 0) (t := 34) cl_3 fl_X3_12 dX3_readItem_81 s_33 (by decide) rfl (by decide) ?_
        refine sx_getI (k := 4) cl_5 fl_X3_121 dX3_readItem_84 s_34 (by decide) rfl (by decide) ?_
        refine sx_iconst dX3_readItem_87 ⟨by decide, by decide⟩ ?_
        refine sx_icmp_ne (tgt := 98) dX3_readItem_88 (by decide) (fun c11 => ?_) (fun c11 => ?_)
        ·
          refine sx_aload_n dX3_readItem_98 rfl ?_
          refine sx_getS (k := 0) (t := 34) cl_3 fl_X3_12 dX3_readItem_99 s_33 (by decide) rfl (by decide) ?_
          refine sx_getI (k := 4) cl_5 fl_X3_121 dX3_readItem_102 s_34 (by decide) rfl (by decide) ?_
          refine sx_iconst dX3_readItem_105 ⟨by decide, by decide⟩ ?_
          refine sx_icmp_ne (tgt := 129) dX3_readItem_106 (by decide) (fun c12 => ?_) (fun c12 => ?_)
          ·
            refine sx_aload_n dX3_readItem_129 rfl ?_
            refine sx_getS (k := 0) (t := 34) cl_3 fl_X3_12 dX3_readItem_130 s_33 (by decide) rfl (by decide) ?_
            refine sx_bipush dX3_readItem_133 ⟨by decide, by decide, by decide⟩ ?_
            refine sx_callVz lk_X3_61 cl_5 s_34 (by decide) dX3_readItem_135 (vs := [_]) rfl rfl (Nat.le_of_ble_eq_true rfl) (Nat.le_of_ble_eq_true rfl) rfl (c_X5_isKey _ Ih1.1 _) (fun x14 h13 zx14 ph13 => ?_)
            subst ph13
            refine sx_if_ne (tgt := 153) dX3_readItem_138 (by decide) (fun c15 => ?_) (fun c15 => ?_)
            ·
              refine sx_aload_n dX3_readItem_153 rfl ?_
              refine sx_callVv lk_X3_207 cl_3 s_33 (by decide) dX3_readItem_154 (vs := []) rfl rfl (Nat.le_of_ble_eq_true rfl) (Nat.le_of_ble_eq_true rfl) rfl (c_X3_readOpening_13 _ Ih1.1 (by omega) (by omega)) (fun h16 ph16 => ?_)
              have Kh16 := ph16
              have Ih16 := Ih1.tr Kh16 sb_prR_prX
              have th16_33_9 := Kh16.2 (33) 9 rfl
              have th16_13_1 := Kh16.2 (13) 1 rfl
              have th16_13_0 := Kh16.2 (13) 0 rfl
              refine sx_goto (tgt := 164) dX3_readItem_157 (by decide) ?_
              refine sx_ret dX3_readItem_164 ?_
              exact ⟨rfl, ⟨Ih16, fun q => by omega⟩⟩
            ·
              refine sx_aload_n dX3_readItem_141 rfl ?_
              refine sx_getS (k := 0) (t := 34) cl_3 fl_X3_12 dX3_readItem_142 s_33 (by decide) rfl (by decide) ?_
              refine sx_bipush dX3_readItem_145 ⟨by decide, by decide, by decide⟩ ?_
              refine sx_callVz lk_X3_61 cl_5 s_34 (by decide) dX3_readItem_147 (vs := [_]) rfl rfl (Nat.le_of_ble_eq_true rfl) (Nat.le_of_ble_eq_true rfl) rfl (c_X5_isKey _ Ih1.1 _) (fun x19 h18 zx19 ph18 => ?_)
              subst ph18
              refine sx_if_eq (tgt := 160) dX3_readItem_150 (by decide) (fun c20 => ?_) (fun c20 => ?_)
              ·
                refine sx_aload_n dX3_readItem_160 rfl ?_
                refine sx_callVv lk_X3_210 cl_3 s_33 (by decide) dX3_readItem_161 (vs := []) rfl rfl (Nat.le_of_ble_eq_true rfl) (Nat.le_of_ble_eq_true rfl) rfl (c_X3_readClosing_13 _ Ih1.1 (by omega) (by omega)) (fun h21 ph21 => ?_)
                have Kh21 := ph21
                have Ih21 := Ih1.tr Kh21 sb_prR_prX
                have th21_33_9 := Kh21.2 (33) 9 rfl
                have th21_13_1 := Kh21.2 (13) 1 rfl
                have th21_13_0 := Kh21.2 (13) 0 rfl
                refine sx_ret dX3_readItem_164 ?_
                exact ⟨rfl, ⟨Ih21, fun q => by omega⟩⟩
              ·
                refine sx_aload_n dX3_readItem_153 rfl ?_
                refine sx_callVv lk_X3_207 cl_3 s_33 (by decide) dX3_readItem_154 (vs := []) rfl rfl (Nat.le_of_ble_eq_true rfl) (Nat.le_of_ble_eq_true rfl) rfl (c_X3_readOpening_13 _ Ih1.1 (by omega) (by omega)) (fun h23 ph23 => ?_)
                have Kh23 := ph23
                have Ih23 := Ih1.tr Kh23 sb_prR_prX
                have th23_33_9 := Kh23.2 (33) 9 rfl
                have th23_13_1 := Kh23.2 (13) 1 rfl
                have th23_13_0 := Kh23.2 (13) 0 rfl
                refine sx_goto (tgt := 164) dX3_readItem_157 (by decide) ?_
                refine sx_ret dX3_readItem_164 ?_
                exact ⟨rfl, ⟨Ih23, fun q => by omega⟩⟩
          ·
            refine sx_aload_n dX3_readItem_109 rfl ?_
            refine sx_getS (k := 0) (t := 34) cl_3 fl_X3_12 dX3_readItem_110 s_33 (by decide) rfl (by decide) ?_
            refine sx_getI (k := 5) cl_5 fl_X3_115 dX3_readItem_113 s_34 (by decide) rfl (by decide) ?_
            refine sx_bipush dX3_readItem_116 ⟨by decide, by decide, by decide⟩ ?_
            refine sx_icmp_ge (tgt := 129) dX3_readItem_118 (by decide) (fun c25 => ?_) (fun c25 => ?_)
            ·
              refine sx_aload_n dX3_readItem_129 rfl ?_
              refine sx_getS (k := 0) (t := 34) cl_3 fl_X3_12 dX3_readItem_130 s_33 (by decide) rfl (by decide) ?_
              refine sx_bipush dX3_readItem_133 ⟨by decide, by decide, by decide⟩ ?_
              refine sx_callVz lk_X3_61 cl_5 s_34 (by decide) dX3_readItem_135 (vs := [_]) rfl rfl (Nat.le_of_ble_eq_true rfl) (Nat.le_of_ble_eq_true rfl) rfl (c_X5_isKey _ Ih1.1 _) (fun x27 h26 zx27 ph26 => ?_)
              subst ph26
              refine sx_if_ne (tgt := 153) dX3_readItem_138 (by decide) (fun c28 => ?_) (fun c28 => ?_)
              ·
                refine sx_aload_n dX3_readItem_153 rfl ?_
                refine sx_callVv lk_X3_207 cl_3 s_33 (by decide) dX3_readItem_154 (vs := []) rfl rfl (Nat.le_of_ble_eq_true rfl) (Nat.le_of_ble_eq_true rfl) rfl (c_X3_readOpening_13 _ Ih1.1 (by omega) (by omega)) (fun h29 ph29 => ?_)
                have Kh29 := ph29
                have Ih29 := Ih1.tr Kh29 sb_prR_prX
                have th29_33_9 := Kh29.2 (33) 9 rfl
                have th29_13_1 := Kh29.2 (13) 1 rfl
                have th29_13_0 := Kh29.2 (13) 0 rfl
                refine sx_goto (tgt := 164) dX3_readItem_157 (by decide) ?_
                refine sx_ret dX3_readItem_164 ?_
                exact ⟨rfl, ⟨Ih29, fun q => by omega⟩⟩
              ·
                refine sx_aload_n dX3_readItem_141 rfl ?_
                refine sx_getS (k := 0) (t := 34) cl_3 fl_X3_12 dX3_readItem_142 s_33 (by decide) rfl (by decide) ?_
                refine sx_bipush dX3_readItem_145 ⟨by decide, by decide, by decide⟩ ?_
                refine sx_callVz lk_X3_61 cl_5 s_34 (by decide) dX3_readItem_147 (vs := [_]) rfl rfl (Nat.le_of_ble_eq_true rfl) (Nat.le_of_ble_eq_true rfl) rfl (c_X5_isKey _ Ih1.1 _) (fun x32 h31 zx32 ph31 => ?_)
                subst ph31
                refine sx_if_eq (tgt := 160) dX3_readItem_150 (by decide) (fun c33 => ?_) (fun c33 => ?_)
                ·
                  refine sx_aload_n dX3_readItem_160 rfl ?_
                  refine sx_callVv lk_X3_210 cl_3 s_33 (by decide) dX3_readItem_161 (vs := []) rfl rfl (Nat.le_of_ble_eq_true rfl) (Nat.le_of_ble_eq_true rfl) rfl (c_X3_readClosing_13 _ Ih1.1 (by omega) (by omega)) (fun h34 ph34 => ?_)
                  have Kh34 := ph34
                  have Ih34 := Ih1.tr Kh34 sb_prR_prX
                  have th34_33_9 := Kh34.2 (33) 9 rfl
                  have th34_13_1 := Kh34.2 (13) 1 rfl
                  have th34_13_0 := Kh34.2 (13) 0 rfl
                  refine sx_ret dX3_readItem_164 ?_
                  exact ⟨rfl, ⟨Ih34, fun q => by omega⟩⟩
                ·
                  refine sx_aload_n dX3_readItem_153 rfl ?_
                  refine sx_callVv lk_X3_207 cl_3 s_33 (by decide) dX3_readItem_154 (vs := []) rfl rfl (Nat.le_of_ble_eq_true rfl) (Nat.le_of_ble_eq_true rfl) rfl (c_X3_readOpening_13 _ Ih1.1 (by omega) (by omega)) (fun h36 ph36 => ?_)
                  have Kh36 := ph36
                  have Ih36 := Ih1.tr Kh36 sb_prR_prX
                  have th36_33_9 := Kh36.2 (33) 9 rfl
                  have th36_13_1 := Kh36.2 (13) 1 rfl
                  have th36_13_0 := Kh36.2 (13) 0 rfl
                  refine sx_goto (tgt := 164) dX3_readItem_157 (by decide) ?_
                  refine sx_ret dX3_readItem_164 ?_
                  exact ⟨rfl, ⟨Ih36, fun q => by omega⟩⟩
            ·
              refine sx_aload_n dX3_readItem_121 rfl ?_
              refine sx_iconst dX3_readItem_122 ⟨by decide, by decide⟩ ?_
              refine sy_putI (k := 7) cl_3 fl_X3_160 dX3_readItem_123 s_33 (by decide) rfl (by decide) rfl rfl (fun h38 eh38 => ?_)
              have Ih38 := Ih1.up eh38 trivial rfl rfl
              have th38_33_9 := eh38.2 (33) 9 (by decide)
              have th38_13_1 := eh38.2 (13) 1 (by decide)
              have th38_13_0 := eh38.2 (13) 0 (by decide)
              have th38_34_7 := eh38.2 (34) 7 (by decide)
              refine sx_goto (tgt := 164) dX3_readItem_126 (by decide) ?_
              refine sx_ret dX3_readItem_164 ?_
              exact ⟨rfl, ⟨Ih38, fun q => by omega⟩⟩
        ·
          refine sx_aload_n dX3_readItem_91 rfl ?_
          refine sx_callVv lk_X3_204 cl_3 s_33 (by decide) dX3_readItem_92 (vs := []) rfl rfl (Nat.le_of_ble_eq_true rfl) (Nat.le_of_ble_eq_true rfl) rfl (c_X3_readCall_13 _ Ih1.1 (by omega)) (fun h39 ph39 => ?_)
          have Kh39 := ph39
          have Ih39 := Ih1.tr Kh39 sb_prR_prX
          have th39_33_9 := Kh39.2 (33) 9 rfl
          have th39_13_1 := Kh39.2 (13) 1 rfl
          have th39_13_0 := Kh39.2 (13) 0 rfl
          refine sx_goto (tgt := 164) dX3_readItem_95 (by decide) ?_
          refine sx_ret dX3_readItem_164 ?_
          exact ⟨rfl, ⟨Ih39, fun q => by omega⟩⟩
      ·
        refine sx_aload_n dX3_readItem_72 rfl ?_
        refine sx_iconst dX3_readItem_73 ⟨by decide, by decide⟩ ?_
        refine sy_putI (k := 7) cl_3 fl_X3_160 dX3_readItem_74 s_33 (by decide) rfl (by decide) rfl rfl (fun h41 eh41 => ?_)
        have Ih41 := Ih1.up eh41 trivial rfl rfl
        have th41_33_9 := eh41.2 (33) 9 (by decide)
        have th41_13_1 := eh41.2 (13) 1 (by decide)
        have th41_13_0 := eh41.2 (13) 0 (by decide)
        have th41_34_7 := eh41.2 (34) 7 (by decide)
        refine sx_goto (tgt := 164) dX3_readItem_77 (by decide) ?_
        refine sx_ret dX3_readItem_164 ?_
        exact ⟨rfl, ⟨Ih41, fun q => by omega⟩⟩
    ·
      refine sx_aload_n dX3_readItem_51 rfl ?_
      refine sx_getS (k := 0) (t := 34) cl_3 fl_X3_12 dX3_readItem_52 s_33 (by decide) rfl (by decide) ?_
      refine sx_callVv lk_X3_81 cl_5 s_34 (by decide) dX3_readItem_55 (vs := []) rfl rfl (Nat.le_of_ble_eq_true rfl) (Nat.le_of_ble_eq_true rfl) rfl (c_X5_refuse _ Ih1.1) (fun h42 ph42 => ?_)
      obtain ⟨Kh42, f_h42⟩ := ph42
      have Ih42 := Ih1.tr Kh42 sb_prR_prC
      have th42_33_9 := Kh42.2 (33) 9 rfl
      have th42_13_1 := Kh42.2 (13) 1 rfl
      have th42_13_0 := Kh42.2 (13) 0 rfl
      refine sx_goto (tgt := 164) dX3_readItem_58 (by decide) ?_
      refine sx_ret dX3_readItem_164 ?_
      exact ⟨rfl, ⟨Ih42, fun q => by omega⟩⟩
set_option maxRecDepth 20000 in
set_option maxHeartbeats 4000000 in
theorem c_X3_addItem_13 {G : sw_G} (d : Nat) {h0 : sw_H} (hJ : cJ h0) (hc : h0 33 9 = 13) (ht : h0 36 0 = 13) (hi : h0 13 1 ≤ 59) : sw_E G NH SH (d + 10) mX3_addItem 0 [some (sw_r 33), none] [] h0 (sw_Qv (fun h' => cK prR h0 h')) := by
  have hI : cK prR h0 h0 := cK.refl hJ
  refine sx_aload_n dX3_addItem_0 rfl ?_
  refine sx_getS (k := 1) (t := 36) cl_3 fl_X3_21 dX3_addItem_1 s_33 (by decide) rfl (by decide) ?_
  refine sx_aload_n dX3_addItem_4 rfl ?_
  refine sx_getI (k := 7) cl_3 fl_X3_160 dX3_addItem_5 s_33 (by decide) rfl (by decide) ?_
  refine sx_aload_n dX3_addItem_8 rfl ?_
  refine sx_getI (k := 8) cl_3 fl_X3_163 dX3_addItem_9 s_33 (by decide) rfl (by decide) ?_
  refine sx_callVi lk_X3_218 cl_10 s_36 (by decide) dX3_addItem_12 (vs := [_, _]) rfl rfl (Nat.le_of_ble_eq_true rfl) (Nat.le_of_ble_eq_true rfl) rfl (c_X10_pass_36_13 _ hI.1 (by omega) _ _) (fun x2 h1 ph1 => ?_)
  obtain ⟨Kh1, f_h1⟩ := ph1
  have Ih1 := hI.tr Kh1 sb_prR_prT
  have th1_33_9 := Kh1.2 (33) 9 rfl
  have th1_13_1 := Kh1.2 (13) 1 rfl
  have th1_33_7 := Kh1.2 (33) 7 rfl
  have th1_33_8 := Kh1.2 (33) 8 rfl
  refine sx_istore_n dX3_addItem_15 (by decide) ?_
  refine sx_iload_n dX3_addItem_16 rfl ?_
  refine sx_if_eq (tgt := 29) dX3_addItem_17 (by decide) (fun c3 => ?_) (fun c3 => ?_)
  ·
    refine sx_aload_n dX3_addItem_29 rfl ?_
    refine sx_getR (k := 9) (t := 13) cl_3 fl_X3_40 dX3_addItem_30 s_33 (by decide) rfl (by decide) (by omega) ?_
    refine sx_getS (k := 5) (t := 14) cl_0 fl_X3_213 dX3_addItem_33 s_13 (by decide) rfl (by decide) ?_
    refine sx_aload_n dX3_addItem_36 rfl ?_
    refine sx_getR (k := 9) (t := 13) cl_3 fl_X3_40 dX3_addItem_37 s_33 (by decide) rfl (by decide) (by omega) ?_
    refine sx_getI (k := 1) cl_0 fl_X3_201 dX3_addItem_40 s_13 (by decide) rfl (by decide) ?_
    have r4 : (0 : Int) ≤ h1 13 1 ∧ h1 13 1 ≤ 60 := Ih1.1.1 13 1
    refine sx_aload_n dX3_addItem_43 rfl ?_
    refine sx_getI (k := 7) cl_3 fl_X3_160 dX3_addItem_44 s_33 (by decide) rfl (by decide) ?_
    refine sy_iastore dX3_addItem_47 s_14 (by decide) (by decide) ⟨by omega, by omega⟩ (fun h5 eh5 => ?_)
    have EA := eh5
    have IA := Ih1
    have tA := eh5.2 13 1 (by omega)
    have Ih5 := (Ih1.wide 1).up eh5 trivial (Or.inr rfl) rfl
    have th5_33_9 := eh5.2 (33) 9 (by omega)
    have th5_13_1 := eh5.2 (13) 1 (by omega)
    have th5_33_7 := eh5.2 (33) 7 (by omega)
    have th5_33_8 := eh5.2 (33) 8 (by omega)
    refine sx_aload_n dX3_addItem_48 rfl ?_
    refine sx_getR (k := 9) (t := 13) cl_3 fl_X3_40 dX3_addItem_49 s_33 (by decide) rfl (by decide) (by omega) ?_
    refine sx_getS (k := 6) (t := 15) cl_0 fl_X3_221 dX3_addItem_52 s_13 (by decide) rfl (by decide) ?_
    refine sx_aload_n dX3_addItem_55 rfl ?_
    refine sx_getR (k := 9) (t := 13) cl_3 fl_X3_40 dX3_addItem_56 s_33 (by decide) rfl (by decide) (by omega) ?_
    refine sx_getI (k := 1) cl_0 fl_X3_201 dX3_addItem_59 s_13 (by decide) rfl (by decide) ?_
    have r6 : (0 : Int) ≤ h5 13 1 ∧ h5 13 1 ≤ 60 := Ih5.1.1 13 1
    refine sx_aload_n dX3_addItem_62 rfl ?_
    refine sx_getI (k := 8) cl_3 fl_X3_163 dX3_addItem_63 s_33 (by decide) rfl (by decide) ?_
    refine sy_iastore dX3_addItem_66 s_15 (by decide) (by decide) ⟨by omega, by omega⟩ (fun h7 eh7 => ?_)
    have EB : sw_to h5 h7 15 _ _ := eh7
    rw [tA] at EB
    have Ih7 : cK prR h0 h7 := (Ih5.up eh7 trivial (Or.inr rfl) rfl).shut (R1_add (c := 13) (by decide) (IA.1.2 1 (by decide)) EA EB (fun q => by omega) (fun q => by omega))
    have th7_33_9 := eh7.2 (33) 9 (by omega)
    have th7_13_1 := eh7.2 (13) 1 (by omega)
    have th7_33_7 := eh7.2 (33) 7 (by omega)
    have th7_33_8 := eh7.2 (33) 8 (by omega)
    refine sx_aload_n dX3_addItem_67 rfl ?_
    refine sx_getR (k := 9) (t := 13) cl_3 fl_X3_40 dX3_addItem_68 s_33 (by decide) rfl (by decide) (by omega) ?_
    refine sx_getS (k := 8) (t := 17) cl_0 fl_X3_223 dX3_addItem_71 s_13 (by decide) rfl (by decide) ?_
    refine sx_aload_n dX3_addItem_74 rfl ?_
    refine sx_getR (k := 9) (t := 13) cl_3 fl_X3_40 dX3_addItem_75 s_33 (by decide) rfl (by decide) (by omega) ?_
    refine sx_getI (k := 1) cl_0 fl_X3_201 dX3_addItem_78 s_13 (by decide) rfl (by decide) ?_
    have r8 : (0 : Int) ≤ h7 13 1 ∧ h7 13 1 ≤ 60 := Ih7.1.1 13 1
    refine sx_aload_n dX3_addItem_81 rfl ?_
    refine sx_getS (k := 1) (t := 36) cl_3 fl_X3_21 dX3_addItem_82 s_33 (by decide) rfl (by decide) ?_
    refine sx_getI (k := 1) cl_10 fl_X3_180 dX3_addItem_85 s_36 (by decide) rfl (by decide) ?_
    refine sy_iastore dX3_addItem_88 s_17 (by decide) (by decide) ⟨by omega, by omega⟩ (fun h9 eh9 => ?_)
    have Ih9 := Ih7.up eh9 trivial rfl rfl
    have th9_33_9 := eh9.2 (33) 9 (by omega)
    have th9_13_1 := eh9.2 (13) 1 (by omega)
    have th9_33_7 := eh9.2 (33) 7 (by omega)
    have th9_33_8 := eh9.2 (33) 8 (by omega)
    refine sx_aload_n dX3_addItem_89 rfl ?_
    refine sx_getR (k := 9) (t := 13) cl_3 fl_X3_40 dX3_addItem_90 s_33 (by decide) rfl (by decide) (by omega) ?_
    refine sx_dupr dX3_addItem_93 ?_
    refine sx_getI (k := 1) cl_0 fl_X3_201 dX3_addItem_94 s_13 (by decide) rfl (by decide) ?_
    have r10 : (0 : Int) ≤ h9 13 1 ∧ h9 13 1 ≤ 60 := Ih9.1.1 13 1
    refine sx_iconst dX3_addItem_97 ⟨by decide, by decide⟩ ?_
    refine sx_iadd dX3_addItem_98 ?_
    refine sy_topw (by omega) ?_
    refine sy_putI (k := 1) cl_0 fl_X3_201 dX3_addItem_99 s_13 (by decide) rfl (by decide) rfl rfl (fun h11 eh11 => ?_)
    have Ih11 := Ih9.up eh11 (show (0 : Int) ≤ _ ∧ _ ≤ (60 : Int) from ⟨by omega, by omega⟩) rfl rfl
    have th11_33_9 := eh11.2 (33) 9 (by decide)
    have th11_13_1 := eh11.1
    have th11_33_7 := eh11.2 (33) 7 (by decide)
    have th11_33_8 := eh11.2 (33) 8 (by decide)
    refine sx_ret dX3_addItem_102 ?_
    exact ⟨rfl, Ih11⟩
  ·
    refine sx_aload_n dX3_addItem_20 rfl ?_
    refine sx_getS (k := 0) (t := 34) cl_3 fl_X3_12 dX3_addItem_21 s_33 (by decide) rfl (by decide) ?_
    refine sx_iload_n dX3_addItem_24 rfl ?_
    refine sx_callVv lk_X3_124 cl_5 s_34 (by decide) dX3_addItem_25 (vs := [_]) rfl rfl (Nat.le_of_ble_eq_true rfl) (Nat.le_of_ble_eq_true rfl) rfl (c_X5_fail _ Ih1.1 _) (fun h12 ph12 => ?_)
    obtain ⟨Kh12, f_h12⟩ := ph12
    have Ih12 := Ih1.tr Kh12 sb_prR_prC
    have th12_33_9 := Kh12.2 (33) 9 rfl
    have th12_13_1 := Kh12.2 (13) 1 rfl
    have th12_33_7 := Kh12.2 (33) 7 rfl
    have th12_33_8 := Kh12.2 (33) 8 rfl
    refine sx_ret dX3_addItem_28 ?_
    exact ⟨rfl, Ih12⟩
set_option maxRecDepth 20000 in
set_option maxHeartbeats 4000000 in
theorem c_X3_closeWord_13 {G : sw_G} (d : Nat) {h0 : sw_H} (hJ : cJ h0) (hc : h0 33 9 = 13) (hw : h0 13 0 ≤ 5) : sw_E G NH SH (d + 9) mX3_closeWord 0 [some (sw_r 33), none] [] h0 (sw_Qv (fun h' => cK pr0 h0 h')) := by
  have hI : cK pr0 h0 h0 := cK.refl hJ
  refine sx_aload_n dX3_closeWord_0 rfl ?_
  refine sx_getI (k := 5) cl_3 fl_X3_147 dX3_closeWord_1 s_33 (by decide) rfl (by decide) ?_
  have r1 : (0 : Int) ≤ h0 33 5 ∧ h0 33 5 ≤ 4 := hI.1.1 33 5
  refine sx_if_le (tgt := 15) dX3_closeWord_4 (by decide) (fun c2 => ?_) (fun c2 => ?_)
  ·
    refine sx_aload_n dX3_closeWord_15 rfl ?_
    refine sx_getS (k := 1) (t := 36) cl_3 fl_X3_21 dX3_closeWord_16 s_33 (by decide) rfl (by decide) ?_
    refine sx_callVz lk_X3_169 cl_10 s_36 (by decide) dX3_closeWord_19 (vs := []) rfl rfl (Nat.le_of_ble_eq_true rfl) (Nat.le_of_ble_eq_true rfl) rfl (c_X10_endsWell_36 _ hI.1) (fun x4 h3 zx4 ph3 => ?_)
    subst ph3
    refine sx_if_ne (tgt := 35) dX3_closeWord_22 (by decide) (fun c5 => ?_) (fun c5 => ?_)
    ·
      refine sx_aload_n dX3_closeWord_35 rfl ?_
      refine sx_getR (k := 9) (t := 13) cl_3 fl_X3_40 dX3_closeWord_36 s_33 (by decide) rfl (by decide) (by omega) ?_
      refine sx_getI (k := 0) cl_0 fl_X3_127 dX3_closeWord_39 s_13 (by decide) rfl (by decide) ?_
      have r6 : (0 : Int) ≤ h0 13 0 ∧ h0 13 0 ≤ 6 := hI.1.1 13 0
      refine sy_top (fun v7 ev7 => ?_)
      refine sx_istore_n dX3_closeWord_42 (by decide) ?_
      refine sx_aload_n dX3_closeWord_43 rfl ?_
      refine sx_getR (k := 9) (t := 13) cl_3 fl_X3_40 dX3_closeWord_44 s_33 (by decide) rfl (by decide) (by omega) ?_
      refine sx_getS (k := 10) (t := 19) cl_0 fl_X3_172 dX3_closeWord_47 s_13 (by decide) rfl (by decide) ?_
      refine sx_iload_n dX3_closeWord_50 rfl ?_
      refine sx_aload_n dX3_closeWord_51 rfl ?_
      refine sx_getS (k := 1) (t := 36) cl_3 fl_X3_21 dX3_closeWord_52 s_33 (by decide) rfl (by decide) ?_
      refine sx_getI (k := 3) cl_10 fl_X3_175 dX3_closeWord_55 s_36 (by decide) rfl (by decide) ?_
      have r8 : (0 : Int) ≤ h0 36 3 ∧ h0 36 3 ≤ 2147483647 := hI.1.1 36 3
      refine sy_iastore dX3_closeWord_58 s_19 (by decide) (by decide) ⟨by omega, by omega⟩ (fun h9 eh9 => ?_)
      have Ih9 := hI.up eh9 (show (0 : Int) ≤ _ ∧ _ ≤ (2147483647 : Int) from ⟨by omega, by omega⟩) rfl rfl
      have th9_33_9 := eh9.2 (33) 9 (by omega)
      have th9_13_0 := eh9.2 (13) 0 (by omega)
      refine sx_aload_n dX3_closeWord_59 rfl ?_
      refine sx_getR (k := 9) (t := 13) cl_3 fl_X3_40 dX3_closeWord_60 s_33 (by decide) rfl (by decide) (by omega) ?_
      refine sx_getS (k := 11) (t := 20) cl_0 fl_X3_177 dX3_closeWord_63 s_13 (by decide) rfl (by decide) ?_
      refine sx_iload_n dX3_closeWord_66 rfl ?_
      refine sx_aload_n dX3_closeWord_67 rfl ?_
      refine sx_getS (k := 1) (t := 36) cl_3 fl_X3_21 dX3_closeWord_68 s_33 (by decide) rfl (by decide) ?_
      refine sx_getI (k := 3) cl_10 fl_X3_175 dX3_closeWord_71 s_36 (by decide) rfl (by decide) ?_
      have r10 : (0 : Int) ≤ h9 36 3 ∧ h9 36 3 ≤ 2147483647 := Ih9.1.1 36 3
      refine sx_aload_n dX3_closeWord_74 rfl ?_
      refine sx_getS (k := 1) (t := 36) cl_3 fl_X3_21 dX3_closeWord_75 s_33 (by decide) rfl (by decide) ?_
      refine sx_getI (k := 1) cl_10 fl_X3_180 dX3_closeWord_78 s_36 (by decide) rfl (by decide) ?_
      refine sx_iadd dX3_closeWord_81 ?_
      refine sy_iastore dX3_closeWord_82 s_20 (by decide) (by decide) ⟨by omega, by omega⟩ (fun h11 eh11 => ?_)
      have Ih11 := Ih9.up eh11 trivial rfl rfl
      have th11_33_9 := eh11.2 (33) 9 (by omega)
      have th11_13_0 := eh11.2 (13) 0 (by omega)
      refine sx_aload_n dX3_closeWord_83 rfl ?_
      refine sx_getR (k := 9) (t := 13) cl_3 fl_X3_40 dX3_closeWord_84 s_33 (by decide) rfl (by decide) (by omega) ?_
      refine sx_getS (k := 12) (t := 21) cl_0 fl_X3_183 dX3_closeWord_87 s_13 (by decide) rfl (by decide) ?_
      refine sx_iload_n dX3_closeWord_90 rfl ?_
      refine sx_aload_n dX3_closeWord_91 rfl ?_
      refine sx_getS (k := 1) (t := 36) cl_3 fl_X3_21 dX3_closeWord_92 s_33 (by decide) rfl (by decide) ?_
      refine sx_getI (k := 4) cl_10 fl_X3_186 dX3_closeWord_95 s_36 (by decide) rfl (by decide) ?_
      refine sy_iastore dX3_closeWord_98 s_21 (by decide) (by decide) ⟨by omega, by omega⟩ (fun h12 eh12 => ?_)
      have Ih12 := Ih11.up eh12 trivial rfl rfl
      have th12_33_9 := eh12.2 (33) 9 (by omega)
      have th12_13_0 := eh12.2 (13) 0 (by omega)
      refine sx_aload_n dX3_closeWord_99 rfl ?_
      refine sx_getR (k := 9) (t := 13) cl_3 fl_X3_40 dX3_closeWord_100 s_33 (by decide) rfl (by decide) (by omega) ?_
      refine sx_getS (k := 13) (t := 22) cl_0 fl_X3_188 dX3_closeWord_103 s_13 (by decide) rfl (by decide) ?_
      refine sx_iload_n dX3_closeWord_106 rfl ?_
      refine sx_aload_n dX3_closeWord_107 rfl ?_
      refine sx_getS (k := 1) (t := 36) cl_3 fl_X3_21 dX3_closeWord_108 s_33 (by decide) rfl (by decide) ?_
      refine sx_getI (k := 5) cl_10 fl_X3_191 dX3_closeWord_111 s_36 (by decide) rfl (by decide) ?_
      refine sy_iastore dX3_closeWord_114 s_22 (by decide) (by decide) ⟨by omega, by omega⟩ (fun h13 eh13 => ?_)
      have Ih13 := Ih12.up eh13 trivial rfl rfl
      have th13_33_9 := eh13.2 (33) 9 (by omega)
      have th13_13_0 := eh13.2 (13) 0 (by omega)
      refine sx_aload_n dX3_closeWord_115 rfl ?_
      refine sx_getR (k := 9) (t := 13) cl_3 fl_X3_40 dX3_closeWord_116 s_33 (by decide) rfl (by decide) (by omega) ?_
      refine sx_getS (k := 14) (t := 23) cl_0 fl_X3_193 dX3_closeWord_119 s_13 (by decide) rfl (by decide) ?_
      refine sx_iload_n dX3_closeWord_122 rfl ?_
      refine sx_aload_n dX3_closeWord_123 rfl ?_
      refine sx_getS (k := 1) (t := 36) cl_3 fl_X3_21 dX3_closeWord_124 s_33 (by decide) rfl (by decide) ?_
      refine sx_getI (k := 6) cl_10 fl_X3_196 dX3_closeWord_127 s_36 (by decide) rfl (by decide) ?_
      refine sy_iastore dX3_closeWord_130 s_23 (by decide) (by decide) ⟨by omega, by omega⟩ (fun h14 eh14 => ?_)
      have Ih14 := Ih13.up eh14 trivial rfl rfl
      have th14_33_9 := eh14.2 (33) 9 (by omega)
      have th14_13_0 := eh14.2 (13) 0 (by omega)
      refine sx_aload_n dX3_closeWord_131 rfl ?_
      refine sx_getR (k := 9) (t := 13) cl_3 fl_X3_40 dX3_closeWord_132 s_33 (by decide) rfl (by decide) (by omega) ?_
      refine sx_dupr dX3_closeWord_135 ?_
      refine sx_getI (k := 0) cl_0 fl_X3_127 dX3_closeWord_136 s_13 (by decide) rfl (by decide) ?_
      have r15 : (0 : Int) ≤ h14 13 0 ∧ h14 13 0 ≤ 6 := Ih14.1.1 13 0
      refine sx_iconst dX3_closeWord_139 ⟨by decide, by decide⟩ ?_
      refine sx_iadd dX3_closeWord_140 ?_
      refine sy_topw (by omega) ?_
      refine sy_putI (k := 0) cl_0 fl_X3_127 dX3_closeWord_141 s_13 (by decide) rfl (by decide) rfl rfl (fun h16 eh16 => ?_)
      have Ih16 := Ih14.up eh16 (show (0 : Int) ≤ _ ∧ _ ≤ (6 : Int) from ⟨by omega, by omega⟩) rfl rfl
      have th16_33_9 := eh16.2 (33) 9 (by decide)
      have th16_13_0 := eh16.1
      refine sx_aload_n dX3_closeWord_144 rfl ?_
      refine sx_getR (k := 9) (t := 13) cl_3 fl_X3_40 dX3_closeWord_145 s_33 (by decide) rfl (by decide) (by omega) ?_
      refine sx_getS (k := 9) (t := 18) cl_0 fl_X3_198 dX3_closeWord_148 s_13 (by decide) rfl (by decide) ?_
      refine sx_aload_n dX3_closeWord_151 rfl ?_
      refine sx_getR (k := 9) (t := 13) cl_3 fl_X3_40 dX3_closeWord_152 s_33 (by decide) rfl (by decide) (by omega) ?_
      refine sx_getI (k := 0) cl_0 fl_X3_127 dX3_closeWord_155 s_13 (by decide) rfl (by decide) ?_
      have r17 : (0 : Int) ≤ h16 13 0 ∧ h16 13 0 ≤ 6 := Ih16.1.1 13 0
      refine sx_aload_n dX3_closeWord_158 rfl ?_
      refine sx_getR (k := 9) (t := 13) cl_3 fl_X3_40 dX3_closeWord_159 s_33 (by decide) rfl (by decide) (by omega) ?_
      refine sx_getI (k := 1) cl_0 fl_X3_201 dX3_closeWord_162 s_13 (by decide) rfl (by decide) ?_
      have r18 : (0 : Int) ≤ h16 13 1 ∧ h16 13 1 ≤ 60 := Ih16.1.1 13 1
      refine sy_iastore dX3_closeWord_165 s_18 (by decide) (by decide) ⟨by omega, by omega⟩ (fun h19 eh19 => ?_)
      have Ih19 := Ih16.up eh19 (show (0 : Int) ≤ _ ∧ _ ≤ (60 : Int) from ⟨by omega, by omega⟩) rfl rfl
      have th19_33_9 := eh19.2 (33) 9 (by omega)
      have th19_13_0 := eh19.2 (13) 0 (by omega)
      refine sx_ret dX3_closeWord_166 ?_
      exact ⟨rfl, Ih19⟩
    ·
      refine sx_aload_n dX3_closeWord_25 rfl ?_
      refine sx_getS (k := 0) (t := 34) cl_3 fl_X3_12 dX3_closeWord_26 s_33 (by decide) rfl (by decide) ?_
      refine sx_bipush dX3_closeWord_29 ⟨by decide, by decide, by decide⟩ ?_
      refine sx_callVv lk_X3_124 cl_5 s_34 (by decide) dX3_closeWord_31 (vs := [_]) rfl rfl (Nat.le_of_ble_eq_true rfl) (Nat.le_of_ble_eq_true rfl) rfl (c_X5_fail _ hI.1 _) (fun h20 ph20 => ?_)
      obtain ⟨Kh20, f_h20⟩ := ph20
      have Ih20 := hI.tr Kh20 sb_pr0_prC
      have th20_33_9 := Kh20.2 (33) 9 rfl
      have th20_13_0 := Kh20.2 (13) 0 rfl
      refine sx_ret dX3_closeWord_34 ?_
      exact ⟨rfl, Ih20⟩
  ·
    refine sx_aload_n dX3_closeWord_7 rfl ?_
    refine sx_getS (k := 0) (t := 34) cl_3 fl_X3_12 dX3_closeWord_8 s_33 (by decide) rfl (by decide) ?_
    refine sx_callVv lk_X3_81 cl_5 s_34 (by decide) dX3_closeWord_11 (vs := []) rfl rfl (Nat.le_of_ble_eq_true rfl) (Nat.le_of_ble_eq_true rfl) rfl (c_X5_refuse _ hI.1) (fun h22 ph22 => ?_)
    obtain ⟨Kh22, f_h22⟩ := ph22
    have Ih22 := hI.tr Kh22 sb_pr0_prC
    have th22_33_9 := Kh22.2 (33) 9 rfl
    have th22_13_0 := Kh22.2 (13) 0 rfl
    refine sx_ret dX3_closeWord_14 ?_
    exact ⟨rfl, Ih22⟩
set_option maxRecDepth 20000 in
set_option maxHeartbeats 4000000 in
theorem c_X3_readItems_13 {G : sw_G} (d : Nat) {h0 : sw_H} (hJ : cJ h0) (hc : h0 33 9 = 13) (hw : h0 13 0 ≤ 5) : sw_E G NH SH (d + 11) mX3_readItems 0 [some (sw_r 33), none] [] h0 (sw_Qv (fun h' => cK prQ h0 h')) := by
  have hI : cK prQ h0 h0 := cK.refl hJ
  refine sx_aload_n dX3_readItems_0 rfl ?_
  refine sx_iconst dX3_readItems_1 ⟨by decide, by decide⟩ ?_
  refine sy_putI (k := 5) cl_3 fl_X3_147 dX3_readItems_2 s_33 (by decide) rfl (by decide) rfl rfl (fun h1 eh1 => ?_)
  have Ih1 := hI.up eh1 (show (0 : Int) ≤ _ ∧ _ ≤ (4 : Int) from ⟨by omega, by omega⟩) rfl rfl
  have th1_33_9 := eh1.2 (33) 9 (by decide)
  have th1_36_0 := eh1.2 (36) 0 (by decide)
  have th1_13_0 := eh1.2 (13) 0 (by decide)
  have th1_13_1 := eh1.2 (13) 1 (by decide)
  have th1_34_7 := eh1.2 (34) 7 (by decide)
  refine sx_aload_n dX3_readItems_5 rfl ?_
  refine sx_getS (k := 1) (t := 36) cl_3 fl_X3_21 dX3_readItems_6 s_33 (by decide) rfl (by decide) ?_
  refine sx_aload_n dX3_readItems_9 rfl ?_
  refine sx_getR (k := 9) (t := 13) cl_3 fl_X3_40 dX3_readItems_10 s_33 (by decide) rfl (by decide) (by omega) ?_
  refine sx_callVv lk_X3_150 cl_10 s_36 (by decide) dX3_readItems_13 (vs := [_]) rfl rfl (Nat.le_of_ble_eq_true rfl) (Nat.le_of_ble_eq_true rfl) rfl (c_X10_begin_36_13 _ Ih1.1) (fun h2 ph2 => ?_)
  obtain ⟨Kh2, c_h2⟩ := ph2
  have Ih2 := Ih1.tr Kh2 sb_prQ_prU
  have th2_33_9 := Kh2.2 (33) 9 rfl
  have th2_13_0 := Kh2.2 (13) 0 rfl
  have th2_13_1 := Kh2.2 (13) 1 rfl
  have th2_34_7 := Kh2.2 (34) 7 rfl
  refine sx_iconst dX3_readItems_16 ⟨by decide, by decide⟩ ?_
  refine sx_istore_n dX3_readItems_17 (by decide) ?_
  refine sx_loop1 (fun (h : sw_H) (n : Int) => (cK prQ h0 h) ∧ (h 33 9 = 13) ∧ (h 36 0 = 13) ∧ (0 ≤ n)) (fun (h : sw_H) (n : Int) => (21 - n).toNat) (fun (h : sw_H) (n : Int) => sw_E G NH SH (d + 11) mX3_readItems 18 [some (sw_r 33), some (sw_i n)] [] h (sw_Qv (fun h' => cK prQ h0 h'))) ?_ _ _ ?_
  · rintro h4 n_5 ⟨Ih4, j6, j7, j8⟩ ihh4
    try dsimp only at ihh4
    refine sx_iload_n dX3_readItems_18 rfl ?_
    refine sx_bipush dX3_readItems_19 ⟨by decide, by decide, by decide⟩ ?_
    refine sx_icmp_gt (tgt := 122) dX3_readItems_21 (by decide) (fun c9 => ?_) (fun c9 => ?_)
    ·
      refine sx_ret dX3_readItems_122 ?_
      exact ⟨rfl, Ih4⟩
    ·
      refine sx_aload_n dX3_readItems_24 rfl ?_
      refine sx_getS (k := 0) (t := 34) cl_3 fl_X3_12 dX3_readItems_25 s_33 (by decide) rfl (by decide) ?_
      refine sx_getI (k := 7) cl_5 fl_X3_84 dX3_readItems_28 s_34 (by decide) rfl (by decide) ?_
      refine sx_if_ne (tgt := 122) dX3_readItems_31 (by decide) (fun c10 => ?_) (fun c10 => ?_)
      ·
        refine sx_ret dX3_readItems_122 ?_
        exact ⟨rfl, Ih4⟩
      ·
        refine sx_aload_n dX3_readItems_34 rfl ?_
        refine sx_getS (k := 0) (t := 34) cl_3 fl_X3_12 dX3_readItems_35 s_33 (by decide) rfl (by decide) ?_
        refine sx_callVv lk_X3_87 cl_5 s_34 (by decide) dX3_readItems_38 (vs := []) rfl rfl (Nat.le_of_ble_eq_true rfl) (Nat.le_of_ble_eq_true rfl) rfl (c_X5_advance _ Ih4.1) (fun h11 ph11 => ?_)
        have Kh11 := ph11
        have Ih11 := Ih4.tr Kh11 sb_prQ_prC
        have th11_33_9 := Kh11.2 (33) 9 rfl
        have th11_36_0 := Kh11.2 (36) 0 rfl
        have th11_13_0 := Kh11.2 (13) 0 rfl
        have th11_13_1 := Kh11.2 (13) 1 rfl
        refine sx_aload_n dX3_readItems_41 rfl ?_
        refine sx_getS (k := 0) (t := 34) cl_3 fl_X3_12 dX3_readItems_42 s_33 (by decide) rfl (by decide) ?_
        refine sx_bipush dX3_readItems_45 ⟨by decide, by decide, by decide⟩ ?_
        refine sx_callVz lk_X3_153 cl_5 s_34 (by decide) dX3_readItems_47 (vs := [_]) rfl rfl (Nat.le_of_ble_eq_true rfl) (Nat.le_of_ble_eq_true rfl) rfl (c_X5_isSign _ Ih11.1 _) (fun x14 h13 zx14 ph13 => ?_)
        subst ph13
        refine sx_if_eq (tgt := 54) dX3_readItems_50 (by decide) (fun c15 => ?_) (fun c15 => ?_)
        ·
          refine sx_aload_n dX3_readItems_54 rfl ?_
          refine sx_callVv lk_X3_157 cl_3 s_33 (by decide) dX3_readItems_55 (vs := []) rfl rfl (Nat.le_of_ble_eq_true rfl) (Nat.le_of_ble_eq_true rfl) rfl (c_X3_readItem_13 _ Ih11.1 (by omega)) (fun h16 ph16 => ?_)
          obtain ⟨Kh16, i_h16⟩ := ph16
          have Ih16 := Ih11.tr Kh16 sb_prQ_prR
          have th16_33_9 := Kh16.2 (33) 9 rfl
          have th16_36_0 := Kh16.2 (36) 0 rfl
          have th16_13_0 := Kh16.2 (13) 0 rfl
          refine sx_aload_n dX3_readItems_58 rfl ?_
          refine sx_getS (k := 0) (t := 34) cl_3 fl_X3_12 dX3_readItems_59 s_33 (by decide) rfl (by decide) ?_
          refine sx_getI (k := 7) cl_5 fl_X3_84 dX3_readItems_62 s_34 (by decide) rfl (by decide) ?_
          refine sx_if_ne (tgt := 102) dX3_readItems_65 (by decide) (fun c18 => ?_) (fun c18 => ?_)
          ·
            refine sx_aload_n dX3_readItems_102 rfl ?_
            refine sx_getS (k := 0) (t := 34) cl_3 fl_X3_12 dX3_readItems_103 s_33 (by decide) rfl (by decide) ?_
            refine sx_getI (k := 7) cl_5 fl_X3_84 dX3_readItems_106 s_34 (by decide) rfl (by decide) ?_
            refine sx_if_ne (tgt := 116) dX3_readItems_109 (by decide) (fun c19 => ?_) (fun c19 => ?_)
            ·
              refine sx_iinc dX3_readItems_116 (by decide) rfl ?_
              rw [sw_w_id (by omega) (by omega)]
              refine sx_goto (tgt := 18) dX3_readItems_119 (by decide) ?_
              exact ihh4 _ _ ⟨Ih16, by omega, by omega, by omega⟩ (by exact sy_dec (by omega) (by omega))
            ·
              refine sx_aload_n dX3_readItems_112 rfl ?_
              refine sx_callVv lk_X3_166 cl_3 s_33 (by decide) dX3_readItems_113 (vs := []) rfl rfl (Nat.le_of_ble_eq_true rfl) (Nat.le_of_ble_eq_true rfl) rfl (c_X3_addItem_13 _ Ih16.1 (by omega) (by omega) (by omega)) (fun h20 ph20 => ?_)
              have Kh20 := ph20
              have Ih20 := Ih16.tr Kh20 sb_prQ_prR
              have th20_33_9 := Kh20.2 (33) 9 rfl
              have th20_36_0 := Kh20.2 (36) 0 rfl
              have th20_13_0 := Kh20.2 (13) 0 rfl
              refine sx_iinc dX3_readItems_116 (by decide) rfl ?_
              rw [sw_w_id (by omega) (by omega)]
              refine sx_goto (tgt := 18) dX3_readItems_119 (by decide) ?_
              exact ihh4 _ _ ⟨Ih20, by omega, by omega, by omega⟩ (by exact sy_dec (by omega) (by omega))
          ·
            refine sx_aload_n dX3_readItems_68 rfl ?_
            refine sx_getI (k := 7) cl_3 fl_X3_160 dX3_readItems_69 s_33 (by decide) rfl (by decide) ?_
            refine sx_bipush dX3_readItems_72 ⟨by decide, by decide, by decide⟩ ?_
            refine sx_icmp_ne (tgt := 102) dX3_readItems_74 (by decide) (fun c22 => ?_) (fun c22 => ?_)
            ·
              refine sx_aload_n dX3_readItems_102 rfl ?_
              refine sx_getS (k := 0) (t := 34) cl_3 fl_X3_12 dX3_readItems_103 s_33 (by decide) rfl (by decide) ?_
              refine sx_getI (k := 7) cl_5 fl_X3_84 dX3_readItems_106 s_34 (by decide) rfl (by decide) ?_
              refine sx_if_ne (tgt := 116) dX3_readItems_109 (by decide) (fun c23 => ?_) (fun c23 => ?_)
              ·
                refine sx_iinc dX3_readItems_116 (by decide) rfl ?_
                rw [sw_w_id (by omega) (by omega)]
                refine sx_goto (tgt := 18) dX3_readItems_119 (by decide) ?_
                exact ihh4 _ _ ⟨Ih16, by omega, by omega, by omega⟩ (by exact sy_dec (by omega) (by omega))
              ·
                refine sx_aload_n dX3_readItems_112 rfl ?_
                refine sx_callVv lk_X3_166 cl_3 s_33 (by decide) dX3_readItems_113 (vs := []) rfl rfl (Nat.le_of_ble_eq_true rfl) (Nat.le_of_ble_eq_true rfl) rfl (c_X3_addItem_13 _ Ih16.1 (by omega) (by omega) (by omega)) (fun h24 ph24 => ?_)
                have Kh24 := ph24
                have Ih24 := Ih16.tr Kh24 sb_prQ_prR
                have th24_33_9 := Kh24.2 (33) 9 rfl
                have th24_36_0 := Kh24.2 (36) 0 rfl
                have th24_13_0 := Kh24.2 (13) 0 rfl
                refine sx_iinc dX3_readItems_116 (by decide) rfl ?_
                rw [sw_w_id (by omega) (by omega)]
                refine sx_goto (tgt := 18) dX3_readItems_119 (by decide) ?_
                exact ihh4 _ _ ⟨Ih24, by omega, by omega, by omega⟩ (by exact sy_dec (by omega) (by omega))
            ·
              refine sx_aload_n dX3_readItems_77 rfl ?_
              refine sx_getS (k := 0) (t := 34) cl_3 fl_X3_12 dX3_readItems_78 s_33 (by decide) rfl (by decide) ?_
              refine sx_callVv lk_X3_87 cl_5 s_34 (by decide) dX3_readItems_81 (vs := []) rfl rfl (Nat.le_of_ble_eq_true rfl) (Nat.le_of_ble_eq_true rfl) rfl (c_X5_advance _ Ih16.1) (fun h26 ph26 => ?_)
              have Kh26 := ph26
              have Ih26 := Ih16.tr Kh26 sb_prQ_prC
              have th26_33_9 := Kh26.2 (33) 9 rfl
              have th26_36_0 := Kh26.2 (36) 0 rfl
              have th26_13_0 := Kh26.2 (13) 0 rfl
              have th26_13_1 := Kh26.2 (13) 1 rfl
              refine sx_aload_n dX3_readItems_84 rfl ?_
              refine sx_iconst dX3_readItems_85 ⟨by decide, by decide⟩ ?_
              refine sx_bipush dX3_readItems_86 ⟨by decide, by decide, by decide⟩ ?_
              refine sx_callVv lk_X3_118 cl_3 s_33 (by decide) dX3_readItems_88 (vs := [_, _]) rfl rfl (Nat.le_of_ble_eq_true rfl) (Nat.le_of_ble_eq_true rfl) rfl (c_X3_requireNumber _ Ih26.1 _ _) (fun h28 ph28 => ?_)
              have Kh28 := ph28
              have Ih28 := Ih26.tr Kh28 sb_prQ_prC
              have th28_33_9 := Kh28.2 (33) 9 rfl
              have th28_36_0 := Kh28.2 (36) 0 rfl
              have th28_13_0 := Kh28.2 (13) 0 rfl
              have th28_13_1 := Kh28.2 (13) 1 rfl
              refine sx_aload_n dX3_readItems_91 rfl ?_
              refine sx_aload_n dX3_readItems_92 rfl ?_
              refine sx_getS (k := 0) (t := 34) cl_3 fl_X3_12 dX3_readItems_93 s_33 (by decide) rfl (by decide) ?_
              refine sx_getI (k := 5) cl_5 fl_X3_115 dX3_readItems_96 s_34 (by decide) rfl (by decide) ?_
              refine sy_putI (k := 8) cl_3 fl_X3_163 dX3_readItems_99 s_33 (by decide) rfl (by decide) rfl rfl (fun h30 eh30 => ?_)
              have Ih30 := Ih28.up eh30 trivial rfl rfl
              have th30_33_9 := eh30.2 (33) 9 (by decide)
              have th30_36_0 := eh30.2 (36) 0 (by decide)
              have th30_13_0 := eh30.2 (13) 0 (by decide)
              have th30_13_1 := eh30.2 (13) 1 (by decide)
              have th30_34_7 := eh30.2 (34) 7 (by decide)
              refine sx_aload_n dX3_readItems_102 rfl ?_
              refine sx_getS (k := 0) (t := 34) cl_3 fl_X3_12 dX3_readItems_103 s_33 (by decide) rfl (by decide) ?_
              refine sx_getI (k := 7) cl_5 fl_X3_84 dX3_readItems_106 s_34 (by decide) rfl (by decide) ?_
              refine sx_if_ne (tgt := 116) dX3_readItems_109 (by decide) (fun c31 => ?_) (fun c31 => ?_)
              ·
                refine sx_iinc dX3_readItems_116 (by decide) rfl ?_
                rw [sw_w_id (by omega) (by omega)]
                refine sx_goto (tgt := 18) dX3_readItems_119 (by decide) ?_
                exact ihh4 _ _ ⟨Ih30, by omega, by omega, by omega⟩ (by exact sy_dec (by omega) (by omega))
              ·
                refine sx_aload_n dX3_readItems_112 rfl ?_
                refine sx_callVv lk_X3_166 cl_3 s_33 (by decide) dX3_readItems_113 (vs := []) rfl rfl (Nat.le_of_ble_eq_true rfl) (Nat.le_of_ble_eq_true rfl) rfl (c_X3_addItem_13 _ Ih30.1 (by omega) (by omega) (by omega)) (fun h32 ph32 => ?_)
                have Kh32 := ph32
                have Ih32 := Ih30.tr Kh32 sb_prQ_prR
                have th32_33_9 := Kh32.2 (33) 9 rfl
                have th32_36_0 := Kh32.2 (36) 0 rfl
                have th32_13_0 := Kh32.2 (13) 0 rfl
                refine sx_iinc dX3_readItems_116 (by decide) rfl ?_
                rw [sw_w_id (by omega) (by omega)]
                refine sx_goto (tgt := 18) dX3_readItems_119 (by decide) ?_
                exact ihh4 _ _ ⟨Ih32, by omega, by omega, by omega⟩ (by exact sy_dec (by omega) (by omega))
        ·
          refine sx_ret dX3_readItems_53 ?_
          exact ⟨rfl, Ih11⟩
  · exact ⟨Ih2, by omega, by omega, by omega⟩
set_option maxRecDepth 20000 in
set_option maxHeartbeats 4000000 in
theorem c_X3_readNumberLine_13 {G : sw_G} (d : Nat) {h0 : sw_H} (hJ : cJ h0) (hc : h0 33 9 = 13) (k m : Int) : sw_E G NH SH (d + 10) mX3_readNumberLine 0 [some (sw_r 33), some (sw_i k), some (sw_i m), none] [] h0 (sw_Qi (fun z h' => cK prR h0 h')) := by
  have hI : cK prR h0 h0 := cK.refl hJ
  refine sx_aload_n dX3_readNumberLine_0 rfl ?_
  refine sx_iload_n dX3_readNumberLine_1 rfl ?_
  refine sx_callVz lk_X3_90 cl_3 s_33 (by decide) dX3_readNumberLine_2 (vs := [_]) rfl rfl (Nat.le_of_ble_eq_true rfl) (Nat.le_of_ble_eq_true rfl) rfl (c_X3_isToldAgain _ hI.1 _) (fun x2 h1 zx2 ph1 => ?_)
  have Kh1 := ph1
  have Ih1 := hI.tr Kh1 sb_prR_prR
  have th1_33_9 := Kh1.2 (33) 9 rfl
  refine sx_if_eq (tgt := 17) dX3_readNumberLine_5 (by decide) (fun c3 => ?_) (fun c3 => ?_)
  ·
    refine sx_aload_n dX3_readNumberLine_17 rfl ?_
    refine sx_getS (k := 0) (t := 34) cl_3 fl_X3_12 dX3_readNumberLine_18 s_33 (by decide) rfl (by decide) ?_
    refine sx_callVv lk_X3_87 cl_5 s_34 (by decide) dX3_readNumberLine_21 (vs := []) rfl rfl (Nat.le_of_ble_eq_true rfl) (Nat.le_of_ble_eq_true rfl) rfl (c_X5_advance _ Ih1.1) (fun h4 ph4 => ?_)
    have Kh4 := ph4
    have Ih4 := Ih1.tr Kh4 sb_prR_prC
    have th4_33_9 := Kh4.2 (33) 9 rfl
    refine sx_aload_n dX3_readNumberLine_24 rfl ?_
    refine sx_getS (k := 0) (t := 34) cl_3 fl_X3_12 dX3_readNumberLine_25 s_33 (by decide) rfl (by decide) ?_
    refine sx_getI (k := 5) cl_5 fl_X3_115 dX3_readNumberLine_28 s_34 (by decide) rfl (by decide) ?_
    refine sy_top (fun v6 ev6 => ?_)
    refine sx_istore_n dX3_readNumberLine_31 (by decide) ?_
    refine sx_aload_n dX3_readNumberLine_32 rfl ?_
    refine sx_iconst dX3_readNumberLine_33 ⟨by decide, by decide⟩ ?_
    refine sx_iload_n dX3_readNumberLine_34 rfl ?_
    refine sx_callVv lk_X3_118 cl_3 s_33 (by decide) dX3_readNumberLine_35 (vs := [_, _]) rfl rfl (Nat.le_of_ble_eq_true rfl) (Nat.le_of_ble_eq_true rfl) rfl (c_X3_requireNumber _ Ih4.1 _ _) (fun h7 ph7 => ?_)
    have Kh7 := ph7
    have Ih7 := Ih4.tr Kh7 sb_prR_prC
    have th7_33_9 := Kh7.2 (33) 9 rfl
    refine sx_aload_n dX3_readNumberLine_38 rfl ?_
    refine sx_getS (k := 0) (t := 34) cl_3 fl_X3_12 dX3_readNumberLine_39 s_33 (by decide) rfl (by decide) ?_
    refine sx_getI (k := 7) cl_5 fl_X3_84 dX3_readNumberLine_42 s_34 (by decide) rfl (by decide) ?_
    refine sx_if_ne (tgt := 64) dX3_readNumberLine_45 (by decide) (fun c9 => ?_) (fun c9 => ?_)
    ·
      refine sx_iload_n dX3_readNumberLine_64 rfl ?_
      refine sx_ireturn dX3_readNumberLine_65 ?_
      exact ⟨_, rfl, Ih7⟩
    ·
      refine sx_aload_n dX3_readNumberLine_48 rfl ?_
      refine sx_getS (k := 0) (t := 34) cl_3 fl_X3_12 dX3_readNumberLine_49 s_33 (by decide) rfl (by decide) ?_
      refine sx_callVv lk_X3_87 cl_5 s_34 (by decide) dX3_readNumberLine_52 (vs := []) rfl rfl (Nat.le_of_ble_eq_true rfl) (Nat.le_of_ble_eq_true rfl) rfl (c_X5_advance _ Ih7.1) (fun h10 ph10 => ?_)
      have Kh10 := ph10
      have Ih10 := Ih7.tr Kh10 sb_prR_prC
      have th10_33_9 := Kh10.2 (33) 9 rfl
      refine sx_aload_n dX3_readNumberLine_55 rfl ?_
      refine sx_getS (k := 0) (t := 34) cl_3 fl_X3_12 dX3_readNumberLine_56 s_33 (by decide) rfl (by decide) ?_
      refine sx_bipush dX3_readNumberLine_59 ⟨by decide, by decide, by decide⟩ ?_
      refine sx_callVv lk_X3_100 cl_5 s_34 (by decide) dX3_readNumberLine_61 (vs := [_]) rfl rfl (Nat.le_of_ble_eq_true rfl) (Nat.le_of_ble_eq_true rfl) rfl (c_X5_require _ Ih10.1 _) (fun h12 ph12 => ?_)
      have Kh12 := ph12
      have Ih12 := Ih10.tr Kh12 sb_prR_prC
      have th12_33_9 := Kh12.2 (33) 9 rfl
      refine sx_iload_n dX3_readNumberLine_64 rfl ?_
      refine sx_ireturn dX3_readNumberLine_65 ?_
      exact ⟨_, rfl, Ih12⟩
  ·
    refine sx_aload_n dX3_readNumberLine_8 rfl ?_
    refine sx_getS (k := 0) (t := 34) cl_3 fl_X3_12 dX3_readNumberLine_9 s_33 (by decide) rfl (by decide) ?_
    refine sx_callVv lk_X3_81 cl_5 s_34 (by decide) dX3_readNumberLine_12 (vs := []) rfl rfl (Nat.le_of_ble_eq_true rfl) (Nat.le_of_ble_eq_true rfl) rfl (c_X5_refuse _ Ih1.1) (fun h14 ph14 => ?_)
    obtain ⟨Kh14, f_h14⟩ := ph14
    have Ih14 := Ih1.tr Kh14 sb_prR_prC
    have th14_33_9 := Kh14.2 (33) 9 rfl
    refine sx_iconst dX3_readNumberLine_15 ⟨by decide, by decide⟩ ?_
    refine sx_ireturn dX3_readNumberLine_16 ?_
    exact ⟨_, rfl, Ih14⟩
set_option maxRecDepth 20000 in
set_option maxHeartbeats 4000000 in
theorem c_X3_readWord_13 {G : sw_G} (d : Nat) {h0 : sw_H} (hJ : cJ h0) (hc : h0 33 9 = 13)  : sw_E G NH SH (d + 12) mX3_readWord 0 [some (sw_r 33)] [] h0 (sw_Qv (fun h' => cK pr2 h0 h')) := by
  have hI : cK pr2 h0 h0 := cK.refl hJ
  refine sx_aload_n dX3_readWord_0 rfl ?_
  refine sx_getR (k := 9) (t := 13) cl_3 fl_X3_40 dX3_readWord_1 s_33 (by decide) rfl (by decide) (by omega) ?_
  refine sx_getI (k := 0) cl_0 fl_X3_127 dX3_readWord_4 s_13 (by decide) rfl (by decide) ?_
  have r1 : (0 : Int) ≤ h0 13 0 ∧ h0 13 0 ≤ 6 := hI.1.1 13 0
  refine sx_bipush dX3_readWord_7 ⟨by decide, by decide, by decide⟩ ?_
  refine sx_icmp_lt (tgt := 20) dX3_readWord_9 (by decide) (fun c2 => ?_) (fun c2 => ?_)
  ·
    refine sx_aload_n dX3_readWord_20 rfl ?_
    refine sx_getS (k := 0) (t := 34) cl_3 fl_X3_12 dX3_readWord_21 s_33 (by decide) rfl (by decide) ?_
    refine sx_callVv lk_X3_87 cl_5 s_34 (by decide) dX3_readWord_24 (vs := []) rfl rfl (Nat.le_of_ble_eq_true rfl) (Nat.le_of_ble_eq_true rfl) rfl (c_X5_advance _ hI.1) (fun h3 ph3 => ?_)
    have Kh3 := ph3
    have Ih3 := hI.tr Kh3 sb_pr2_prC
    have th3_33_9 := Kh3.2 (33) 9 rfl
    have th3_13_0 := Kh3.2 (13) 0 rfl
    refine sx_aload_n dX3_readWord_27 rfl ?_
    refine sx_callVv lk_X3_130 cl_3 s_33 (by decide) dX3_readWord_28 (vs := []) rfl rfl (Nat.le_of_ble_eq_true rfl) (Nat.le_of_ble_eq_true rfl) rfl (c_X3_readName_13 _ Ih3.1 (by omega) (by omega)) (fun h5 ph5 => ?_)
    have Kh5 := ph5
    have Ih5 := Ih3.tr Kh5 sb_pr2_prR
    have th5_33_9 := Kh5.2 (33) 9 rfl
    have th5_13_0 := Kh5.2 (13) 0 rfl
    refine sx_aload_n dX3_readWord_31 rfl ?_
    refine sx_getS (k := 0) (t := 34) cl_3 fl_X3_12 dX3_readWord_32 s_33 (by decide) rfl (by decide) ?_
    refine sx_getI (k := 7) cl_5 fl_X3_84 dX3_readWord_35 s_34 (by decide) rfl (by decide) ?_
    refine sx_if_ne (tgt := 57) dX3_readWord_38 (by decide) (fun c7 => ?_) (fun c7 => ?_)
    ·
      refine sx_aload_n dX3_readWord_57 rfl ?_
      refine sx_callVv lk_X3_133 cl_3 s_33 (by decide) dX3_readWord_58 (vs := []) rfl rfl (Nat.le_of_ble_eq_true rfl) (Nat.le_of_ble_eq_true rfl) rfl (c_X3_readItems_13 _ Ih5.1 (by omega) (by omega)) (fun h8 ph8 => ?_)
      have Kh8 := ph8
      have Ih8 := Ih5.tr Kh8 sb_pr2_prQ
      have th8_33_9 := Kh8.2 (33) 9 rfl
      have th8_13_0 := Kh8.2 (13) 0 rfl
      refine sx_aload_n dX3_readWord_61 rfl ?_
      refine sx_getS (k := 0) (t := 34) cl_3 fl_X3_12 dX3_readWord_62 s_33 (by decide) rfl (by decide) ?_
      refine sx_getI (k := 7) cl_5 fl_X3_84 dX3_readWord_65 s_34 (by decide) rfl (by decide) ?_
      refine sx_if_ne (tgt := 75) dX3_readWord_68 (by decide) (fun c10 => ?_) (fun c10 => ?_)
      ·
        refine sx_ret dX3_readWord_75 ?_
        exact ⟨rfl, Ih8⟩
      ·
        refine sx_aload_n dX3_readWord_71 rfl ?_
        refine sx_callVv lk_X3_136 cl_3 s_33 (by decide) dX3_readWord_72 (vs := []) rfl rfl (Nat.le_of_ble_eq_true rfl) (Nat.le_of_ble_eq_true rfl) rfl (c_X3_closeWord_13 _ Ih8.1 (by omega) (by omega)) (fun h11 ph11 => ?_)
        have Kh11 := ph11
        have Ih11 := Ih8.tr Kh11 sb_pr2_pr0
        have th11_33_9 := Kh11.2 (33) 9 rfl
        refine sx_ret dX3_readWord_75 ?_
        exact ⟨rfl, Ih11⟩
    ·
      refine sx_aload_n dX3_readWord_41 rfl ?_
      refine sx_getS (k := 0) (t := 34) cl_3 fl_X3_12 dX3_readWord_42 s_33 (by decide) rfl (by decide) ?_
      refine sx_callVv lk_X3_87 cl_5 s_34 (by decide) dX3_readWord_45 (vs := []) rfl rfl (Nat.le_of_ble_eq_true rfl) (Nat.le_of_ble_eq_true rfl) rfl (c_X5_advance _ Ih5.1) (fun h13 ph13 => ?_)
      have Kh13 := ph13
      have Ih13 := Ih5.tr Kh13 sb_pr2_prC
      have th13_33_9 := Kh13.2 (33) 9 rfl
      have th13_13_0 := Kh13.2 (13) 0 rfl
      refine sx_aload_n dX3_readWord_48 rfl ?_
      refine sx_getS (k := 0) (t := 34) cl_3 fl_X3_12 dX3_readWord_49 s_33 (by decide) rfl (by decide) ?_
      refine sx_bipush dX3_readWord_52 ⟨by decide, by decide, by decide⟩ ?_
      refine sx_callVv lk_X3_100 cl_5 s_34 (by decide) dX3_readWord_54 (vs := [_]) rfl rfl (Nat.le_of_ble_eq_true rfl) (Nat.le_of_ble_eq_true rfl) rfl (c_X5_require _ Ih13.1 _) (fun h15 ph15 => ?_)
      have Kh15 := ph15
      have Ih15 := Ih13.tr Kh15 sb_pr2_prC
      have th15_33_9 := Kh15.2 (33) 9 rfl
      have th15_13_0 := Kh15.2 (13) 0 rfl
      refine sx_aload_n dX3_readWord_57 rfl ?_
      refine sx_callVv lk_X3_133 cl_3 s_33 (by decide) dX3_readWord_58 (vs := []) rfl rfl (Nat.le_of_ble_eq_true rfl) (Nat.le_of_ble_eq_true rfl) rfl (c_X3_readItems_13 _ Ih15.1 (by omega) (by omega)) (fun h17 ph17 => ?_)
      have Kh17 := ph17
      have Ih17 := Ih15.tr Kh17 sb_pr2_prQ
      have th17_33_9 := Kh17.2 (33) 9 rfl
      have th17_13_0 := Kh17.2 (13) 0 rfl
      refine sx_aload_n dX3_readWord_61 rfl ?_
      refine sx_getS (k := 0) (t := 34) cl_3 fl_X3_12 dX3_readWord_62 s_33 (by decide) rfl (by decide) ?_
      refine sx_getI (k := 7) cl_5 fl_X3_84 dX3_readWord_65 s_34 (by decide) rfl (by decide) ?_
      refine sx_if_ne (tgt := 75) dX3_readWord_68 (by decide) (fun c19 => ?_) (fun c19 => ?_)
      ·
        refine sx_ret dX3_readWord_75 ?_
        exact ⟨rfl, Ih17⟩
      ·
        refine sx_aload_n dX3_readWord_71 rfl ?_
        refine sx_callVv lk_X3_136 cl_3 s_33 (by decide) dX3_readWord_72 (vs := []) rfl rfl (Nat.le_of_ble_eq_true rfl) (Nat.le_of_ble_eq_true rfl) rfl (c_X3_closeWord_13 _ Ih17.1 (by omega) (by omega)) (fun h20 ph20 => ?_)
        have Kh20 := ph20
        have Ih20 := Ih17.tr Kh20 sb_pr2_pr0
        have th20_33_9 := Kh20.2 (33) 9 rfl
        refine sx_ret dX3_readWord_75 ?_
        exact ⟨rfl, Ih20⟩
  ·
    refine sx_aload_n dX3_readWord_12 rfl ?_
    refine sx_getS (k := 0) (t := 34) cl_3 fl_X3_12 dX3_readWord_13 s_33 (by decide) rfl (by decide) ?_
    refine sx_callVv lk_X3_81 cl_5 s_34 (by decide) dX3_readWord_16 (vs := []) rfl rfl (Nat.le_of_ble_eq_true rfl) (Nat.le_of_ble_eq_true rfl) rfl (c_X5_refuse _ hI.1) (fun h22 ph22 => ?_)
    obtain ⟨Kh22, f_h22⟩ := ph22
    have Ih22 := hI.tr Kh22 sb_pr2_prC
    have th22_33_9 := Kh22.2 (33) 9 rfl
    have th22_13_0 := Kh22.2 (13) 0 rfl
    refine sx_ret dX3_readWord_19 ?_
    exact ⟨rfl, Ih22⟩
set_option maxRecDepth 20000 in
set_option maxHeartbeats 4000000 in
theorem c_X3_readTakes_13 {G : sw_G} (d : Nat) {h0 : sw_H} (hJ : cJ h0) (hc : h0 33 9 = 13)  : sw_E G NH SH (d + 155) mX3_readTakes 0 [some (sw_r 33)] [] h0 (sw_Qv (fun h' => cK pr2 h0 h')) := by
  have hI : cK pr2 h0 h0 := cK.refl hJ
  refine sx_aload_n dX3_readTakes_0 rfl ?_
  refine sx_bipush dX3_readTakes_1 ⟨by decide, by decide, by decide⟩ ?_
  refine sx_callVz lk_X3_90 cl_3 s_33 (by decide) dX3_readTakes_3 (vs := [_]) rfl rfl (Nat.le_of_ble_eq_true rfl) (Nat.le_of_ble_eq_true rfl) rfl (c_X3_isToldAgain _ hI.1 _) (fun x2 h1 zx2 ph1 => ?_)
  have Kh1 := ph1
  have Ih1 := hI.tr Kh1 sb_pr2_prR
  have th1_33_9 := Kh1.2 (33) 9 rfl
  have th1_43_0 := Kh1.2 (43) 0 rfl
  refine sx_if_eq (tgt := 17) dX3_readTakes_6 (by decide) (fun c3 => ?_) (fun c3 => ?_)
  ·
    refine sx_aload_n dX3_readTakes_17 rfl ?_
    refine sx_getS (k := 0) (t := 34) cl_3 fl_X3_12 dX3_readTakes_18 s_33 (by decide) rfl (by decide) ?_
    refine sx_callVv lk_X3_87 cl_5 s_34 (by decide) dX3_readTakes_21 (vs := []) rfl rfl (Nat.le_of_ble_eq_true rfl) (Nat.le_of_ble_eq_true rfl) rfl (c_X5_advance _ Ih1.1) (fun h4 ph4 => ?_)
    have Kh4 := ph4
    have Ih4 := Ih1.tr Kh4 sb_pr2_prC
    have th4_33_9 := Kh4.2 (33) 9 rfl
    have th4_43_0 := Kh4.2 (43) 0 rfl
    refine sx_aload_n dX3_readTakes_24 rfl ?_
    refine sx_getS (k := 2) (t := 43) cl_3 fl_X3_28 dX3_readTakes_25 s_33 (by decide) rfl (by decide) ?_
    refine sx_aload_n dX3_readTakes_28 rfl ?_
    refine sx_getS (k := 0) (t := 34) cl_3 fl_X3_12 dX3_readTakes_29 s_33 (by decide) rfl (by decide) ?_
    refine sx_callVv lk_X3_93 cl_2 s_43 (by decide) dX3_readTakes_32 (vs := [_]) rfl rfl (Nat.le_of_ble_eq_true rfl) (Nat.le_of_ble_eq_true rfl) rfl (c_X2_begin _ Ih4.1) (fun h6 ph6 => ?_)
    obtain ⟨Kh6, c_h6⟩ := ph6
    have Ih6 := Ih4.tr Kh6 sb_pr2_pr2
    have th6_33_9 := Kh6.2 (33) 9 rfl
    refine sx_aload_n dX3_readTakes_35 rfl ?_
    refine sx_getS (k := 2) (t := 43) cl_3 fl_X3_28 dX3_readTakes_36 s_33 (by decide) rfl (by decide) ?_
    refine sx_iconst dX3_readTakes_39 ⟨by decide, by decide⟩ ?_
    refine sx_iconst dX3_readTakes_40 ⟨by decide, by decide⟩ ?_
    refine sx_callNv lk_X3_96 cl_2 s_43 (by decide) dX3_readTakes_41 (vs := [_, _]) rfl rfl (Nat.le_of_ble_eq_true rfl) (Nat.le_of_ble_eq_true rfl) rfl (c_X2_readLevel 71 _ Ih6.1 (by omega) 0 0 (by decide) (by decide) (by decide)) (fun h8 ph8 => ?_)
    have Kh8 := ph8
    have Ih8 := Ih6.tr Kh8 sb_pr2_prF
    have th8_33_9 := Kh8.2 (33) 9 rfl
    have th8_43_0 := Kh8.2 (43) 0 rfl
    refine sx_aload_n dX3_readTakes_44 rfl ?_
    refine sx_getS (k := 0) (t := 34) cl_3 fl_X3_12 dX3_readTakes_45 s_33 (by decide) rfl (by decide) ?_
    refine sx_bipush dX3_readTakes_48 ⟨by decide, by decide, by decide⟩ ?_
    refine sx_callVv lk_X3_100 cl_5 s_34 (by decide) dX3_readTakes_50 (vs := [_]) rfl rfl (Nat.le_of_ble_eq_true rfl) (Nat.le_of_ble_eq_true rfl) rfl (c_X5_require _ Ih8.1 _) (fun h10 ph10 => ?_)
    have Kh10 := ph10
    have Ih10 := Ih8.tr Kh10 sb_pr2_prC
    have th10_33_9 := Kh10.2 (33) 9 rfl
    have th10_43_0 := Kh10.2 (43) 0 rfl
    refine sx_aload_n dX3_readTakes_53 rfl ?_
    refine sx_getS (k := 0) (t := 34) cl_3 fl_X3_12 dX3_readTakes_54 s_33 (by decide) rfl (by decide) ?_
    refine sx_getI (k := 7) cl_5 fl_X3_84 dX3_readTakes_57 s_34 (by decide) rfl (by decide) ?_
    refine sx_if_ne (tgt := 91) dX3_readTakes_60 (by decide) (fun c12 => ?_) (fun c12 => ?_)
    ·
      refine sx_ret dX3_readTakes_91 ?_
      exact ⟨rfl, Ih10⟩
    ·
      refine sx_aload_n dX3_readTakes_63 rfl ?_
      refine sx_getR (k := 9) (t := 13) cl_3 fl_X3_40 dX3_readTakes_64 s_33 (by decide) rfl (by decide) (by omega) ?_
      refine sx_aload_n dX3_readTakes_67 rfl ?_
      refine sx_getS (k := 2) (t := 43) cl_3 fl_X3_28 dX3_readTakes_68 s_33 (by decide) rfl (by decide) ?_
      refine sx_getI (k := 4) cl_2 fl_X3_104 dX3_readTakes_71 s_43 (by decide) rfl (by decide) ?_
      have r13 : (0 : Int) ≤ h10 43 4 ∧ h10 43 4 ≤ 30 := Ih10.1.1 43 4
      refine sy_putI (k := 2) cl_0 fl_X3_107 dX3_readTakes_74 s_13 (by decide) rfl (by decide) rfl rfl (fun h14 eh14 => ?_)
      have Ih14 := Ih10.up eh14 trivial rfl rfl
      have th14_33_9 := eh14.2 (33) 9 (by decide)
      have th14_43_0 := eh14.2 (43) 0 (by decide)
      refine sx_aload_n dX3_readTakes_77 rfl ?_
      refine sx_getS (k := 2) (t := 43) cl_3 fl_X3_28 dX3_readTakes_78 s_33 (by decide) rfl (by decide) ?_
      refine sx_aload_n dX3_readTakes_81 rfl ?_
      refine sx_getR (k := 9) (t := 13) cl_3 fl_X3_40 dX3_readTakes_82 s_33 (by decide) rfl (by decide) (by omega) ?_
      refine sx_getS (k := 15) (t := 24) cl_0 fl_X3_108 dX3_readTakes_85 s_13 (by decide) rfl (by decide) ?_
      refine sx_callVv lk_X3_111 cl_2 s_43 (by decide) dX3_readTakes_88 (vs := [_]) rfl rfl (Nat.le_of_ble_eq_true rfl) (Nat.le_of_ble_eq_true rfl) rfl (c_X2_fill_13 _ Ih14.1) (fun h15 ph15 => ?_)
      have Kh15 := ph15
      have Ih15 := Ih14.tr Kh15 sb_pr2_pr0
      have th15_33_9 := Kh15.2 (33) 9 rfl
      have th15_43_0 := Kh15.2 (43) 0 rfl
      refine sx_ret dX3_readTakes_91 ?_
      exact ⟨rfl, Ih15⟩
  ·
    refine sx_aload_n dX3_readTakes_9 rfl ?_
    refine sx_getS (k := 0) (t := 34) cl_3 fl_X3_12 dX3_readTakes_10 s_33 (by decide) rfl (by decide) ?_
    refine sx_callVv lk_X3_81 cl_5 s_34 (by decide) dX3_readTakes_13 (vs := []) rfl rfl (Nat.le_of_ble_eq_true rfl) (Nat.le_of_ble_eq_true rfl) rfl (c_X5_refuse _ Ih1.1) (fun h17 ph17 => ?_)
    obtain ⟨Kh17, f_h17⟩ := ph17
    have Ih17 := Ih1.tr Kh17 sb_pr2_prC
    have th17_33_9 := Kh17.2 (33) 9 rfl
    have th17_43_0 := Kh17.2 (43) 0 rfl
    refine sx_ret dX3_readTakes_16 ?_
    exact ⟨rfl, Ih17⟩
set_option maxRecDepth 20000 in
set_option maxHeartbeats 4000000 in
theorem c_X3_readAll_13 {G : sw_G} (d : Nat) {h0 : sw_H} (hJ : cJ h0) (n : Int) (hn : 0 ≤ n) : sw_E G NH SH (d + 156) mX3_readAll 0 [some (sw_r 33), some (sw_r 13), some (sw_i n), none] [] h0 (sw_Qz (fun z h' => cK pr1 h0 h')) := by
  have hI : cK pr1 h0 h0 := cK.refl hJ
  refine sx_aload_n dX3_readAll_0 rfl ?_
  refine sx_aload_n dX3_readAll_1 rfl ?_
  refine sy_putR (k := 9) cl_3 fl_X3_40 dX3_readAll_2 s_33 (by decide) rfl (by decide) rfl rfl (by decide) (fun h1 eh1 => ?_)
  have Ih1 := hI.up eh1 trivial rfl rfl
  have th1_33_9 := eh1.1
  refine sx_aload_n dX3_readAll_5 rfl ?_
  refine sx_getR (k := 9) (t := 13) cl_3 fl_X3_40 dX3_readAll_6 s_33 (by decide) rfl (by decide) (by omega) ?_
  refine sx_callVv lk_X3_44 cl_0 s_13 (by decide) dX3_readAll_9 (vs := []) rfl rfl (Nat.le_of_ble_eq_true rfl) (Nat.le_of_ble_eq_true rfl) rfl (c_X0_empty_13 _ Ih1.1) (fun h2 ph2 => ?_)
  have Kh2 := ph2
  have Ih2 := Ih1.tr Kh2 sb_pr1_pr0
  have th2_33_9 := Kh2.2 (33) 9 rfl
  refine sx_aload_n dX3_readAll_12 rfl ?_
  refine sx_iconst dX3_readAll_13 ⟨by decide, by decide⟩ ?_
  refine sy_putI (k := 6) cl_3 fl_X3_49 dX3_readAll_14 s_33 (by decide) rfl (by decide) rfl rfl (fun h4 eh4 => ?_)
  have Ih4 := Ih2.up eh4 trivial rfl rfl
  have th4_33_9 := eh4.2 (33) 9 (by decide)
  refine sx_aload_n dX3_readAll_17 rfl ?_
  refine sx_getS (k := 0) (t := 34) cl_3 fl_X3_12 dX3_readAll_18 s_33 (by decide) rfl (by decide) ?_
  refine sx_iload_n dX3_readAll_21 rfl ?_
  refine sx_callVv lk_X3_53 cl_5 s_34 (by decide) dX3_readAll_22 (vs := [_]) rfl rfl (Nat.le_of_ble_eq_true rfl) (Nat.le_of_ble_eq_true rfl) rfl (c_X5_begin _ Ih4.1 _ (by omega)) (fun h5 ph5 => ?_)
  have Kh5 := ph5
  have Ih5 := Ih4.tr Kh5 sb_pr1_prC
  have th5_33_9 := Kh5.2 (33) 9 rfl
  refine sx_iconst dX3_readAll_25 ⟨by decide, by decide⟩ ?_
  refine sx_istore_n dX3_readAll_26 (by decide) ?_
  refine sx_loop1 (fun (h : sw_H) (i : Int) => (cK pr1 h0 h) ∧ (h 33 9 = 13) ∧ (0 ≤ i)) (fun (h : sw_H) (i : Int) => (1601 - i).toNat) (fun (h : sw_H) (i : Int) => sw_E G NH SH (d + 156) mX3_readAll 27 [some (sw_r 33), some (sw_r 13), some (sw_i n), some (sw_i i)] [] h (sw_Qz (fun z h' => cK pr1 h0 h'))) ?_ _ _ ?_
  · rintro h7 i_8 ⟨Ih7, j9, j10⟩ ihh7
    try dsimp only at ihh7
    refine sx_iload_n dX3_readAll_27 rfl ?_
    refine sx_sipush dX3_readAll_28 ⟨by decide, by decide, by decide⟩ ?_
    refine sx_icmp_gt (tgt := 173) dX3_readAll_31 (by decide) (fun c11 => ?_) (fun c11 => ?_)
    ·
      refine sx_aload_n dX3_readAll_173 rfl ?_
      refine sx_getS (k := 0) (t := 34) cl_3 fl_X3_12 dX3_readAll_174 s_33 (by decide) rfl (by decide) ?_
      refine sx_getI (k := 7) cl_5 fl_X3_84 dX3_readAll_177 s_34 (by decide) rfl (by decide) ?_
      refine sx_if_ne (tgt := 187) dX3_readAll_180 (by decide) (fun c12 => ?_) (fun c12 => ?_)
      ·
        refine sx_iconst dX3_readAll_187 ⟨by decide, by decide⟩ ?_
        refine sx_ireturn dX3_readAll_188 ?_
        exact ⟨_, rfl, by omega, Ih7⟩
      ·
        refine sx_iconst dX3_readAll_183 ⟨by decide, by decide⟩ ?_
        refine sx_goto (tgt := 188) dX3_readAll_184 (by decide) ?_
        refine sx_ireturn dX3_readAll_188 ?_
        exact ⟨_, rfl, by omega, Ih7⟩
    ·
      refine sx_aload_n dX3_readAll_34 rfl ?_
      refine sx_getS (k := 0) (t := 34) cl_3 fl_X3_12 dX3_readAll_35 s_33 (by decide) rfl (by decide) ?_
      refine sx_callVz lk_X3_57 cl_5 s_34 (by decide) dX3_readAll_38 (vs := []) rfl rfl (Nat.le_of_ble_eq_true rfl) (Nat.le_of_ble_eq_true rfl) rfl (c_X5_goesOn _ Ih7.1) (fun x14 h13 zx14 ph13 => ?_)
      subst ph13
      refine sx_if_eq (tgt := 173) dX3_readAll_41 (by decide) (fun c15 => ?_) (fun c15 => ?_)
      ·
        refine sx_aload_n dX3_readAll_173 rfl ?_
        refine sx_getS (k := 0) (t := 34) cl_3 fl_X3_12 dX3_readAll_174 s_33 (by decide) rfl (by decide) ?_
        refine sx_getI (k := 7) cl_5 fl_X3_84 dX3_readAll_177 s_34 (by decide) rfl (by decide) ?_
        refine sx_if_ne (tgt := 187) dX3_readAll_180 (by decide) (fun c16 => ?_) (fun c16 => ?_)
        ·
          refine sx_iconst dX3_readAll_187 ⟨by decide, by decide⟩ ?_
          refine sx_ireturn dX3_readAll_188 ?_
          exact ⟨_, rfl, by omega, Ih7⟩
        ·
          refine sx_iconst dX3_readAll_183 ⟨by decide, by decide⟩ ?_
          refine sx_goto (tgt := 188) dX3_readAll_184 (by decide) ?_
          refine sx_ireturn dX3_readAll_188 ?_
          exact ⟨_, rfl, by omega, Ih7⟩
      ·
        refine sx_aload_n dX3_readAll_44 rfl ?_
        refine sx_getS (k := 0) (t := 34) cl_3 fl_X3_12 dX3_readAll_45 s_33 (by decide) rfl (by decide) ?_
        refine sx_bipush dX3_readAll_48 ⟨by decide, by decide, by decide⟩ ?_
        refine sx_callVz lk_X3_61 cl_5 s_34 (by decide) dX3_readAll_50 (vs := [_]) rfl rfl (Nat.le_of_ble_eq_true rfl) (Nat.le_of_ble_eq_true rfl) rfl (c_X5_isKey _ Ih7.1 _) (fun x18 h17 zx18 ph17 => ?_)
        subst ph17
        refine sx_if_eq (tgt := 63) dX3_readAll_53 (by decide) (fun c19 => ?_) (fun c19 => ?_)
        ·
          refine sx_aload_n dX3_readAll_63 rfl ?_
          refine sx_getS (k := 0) (t := 34) cl_3 fl_X3_12 dX3_readAll_64 s_33 (by decide) rfl (by decide) ?_
          refine sx_bipush dX3_readAll_67 ⟨by decide, by decide, by decide⟩ ?_
          refine sx_callVz lk_X3_61 cl_5 s_34 (by decide) dX3_readAll_69 (vs := [_]) rfl rfl (Nat.le_of_ble_eq_true rfl) (Nat.le_of_ble_eq_true rfl) rfl (c_X5_isKey _ Ih7.1 _) (fun x21 h20 zx21 ph20 => ?_)
          subst ph20
          refine sx_if_eq (tgt := 82) dX3_readAll_72 (by decide) (fun c22 => ?_) (fun c22 => ?_)
          ·
            refine sx_aload_n dX3_readAll_82 rfl ?_
            refine sx_getS (k := 0) (t := 34) cl_3 fl_X3_12 dX3_readAll_83 s_33 (by decide) rfl (by decide) ?_
            refine sx_bipush dX3_readAll_86 ⟨by decide, by decide, by decide⟩ ?_
            refine sx_callVz lk_X3_61 cl_5 s_34 (by decide) dX3_readAll_88 (vs := [_]) rfl rfl (Nat.le_of_ble_eq_true rfl) (Nat.le_of_ble_eq_true rfl) rfl (c_X5_isKey _ Ih7.1 _) (fun x24 h23 zx24 ph23 => ?_)
            subst ph23
            refine sx_if_eq (tgt := 112) dX3_readAll_91 (by decide) (fun c25 => ?_) (fun c25 => ?_)
            ·
              refine sx_aload_n dX3_readAll_112 rfl ?_
              refine sx_getS (k := 0) (t := 34) cl_3 fl_X3_12 dX3_readAll_113 s_33 (by decide) rfl (by decide) ?_
              refine sx_bipush dX3_readAll_116 ⟨by decide, by decide, by decide⟩ ?_
              refine sx_callVz lk_X3_61 cl_5 s_34 (by decide) dX3_readAll_118 (vs := [_]) rfl rfl (Nat.le_of_ble_eq_true rfl) (Nat.le_of_ble_eq_true rfl) rfl (c_X5_isKey _ Ih7.1 _) (fun x27 h26 zx27 ph26 => ?_)
              subst ph26
              refine sx_if_eq (tgt := 143) dX3_readAll_121 (by decide) (fun c28 => ?_) (fun c28 => ?_)
              ·
                refine sx_aload_n dX3_readAll_143 rfl ?_
                refine sx_getS (k := 0) (t := 34) cl_3 fl_X3_12 dX3_readAll_144 s_33 (by decide) rfl (by decide) ?_
                refine sx_callVv lk_X3_81 cl_5 s_34 (by decide) dX3_readAll_147 (vs := []) rfl rfl (Nat.le_of_ble_eq_true rfl) (Nat.le_of_ble_eq_true rfl) rfl (c_X5_refuse _ Ih7.1) (fun h29 ph29 => ?_)
                obtain ⟨Kh29, f_h29⟩ := ph29
                have Ih29 := Ih7.tr Kh29 sb_pr1_prC
                have th29_33_9 := Kh29.2 (33) 9 rfl
                refine sx_aload_n dX3_readAll_150 rfl ?_
                refine sx_getS (k := 0) (t := 34) cl_3 fl_X3_12 dX3_readAll_151 s_33 (by decide) rfl (by decide) ?_
                refine sx_getI (k := 7) cl_5 fl_X3_84 dX3_readAll_154 s_34 (by decide) rfl (by decide) ?_
                refine sx_if_ne (tgt := 167) dX3_readAll_157 (by decide) (fun c31 => ?_) (fun c31 => ?_)
                ·
                  refine sx_iinc dX3_readAll_167 (by decide) rfl ?_
                  rw [sw_w_id (by omega) (by omega)]
                  refine sx_goto (tgt := 27) dX3_readAll_170 (by decide) ?_
                  exact ihh7 _ _ ⟨Ih29, by omega, by omega⟩ (by exact sy_dec (by omega) (by omega))
                ·
                  refine sx_aload_n dX3_readAll_160 rfl ?_
                  refine sx_getS (k := 0) (t := 34) cl_3 fl_X3_12 dX3_readAll_161 s_33 (by decide) rfl (by decide) ?_
                  refine sx_callVv lk_X3_87 cl_5 s_34 (by decide) dX3_readAll_164 (vs := []) rfl rfl (Nat.le_of_ble_eq_true rfl) (Nat.le_of_ble_eq_true rfl) rfl (c_X5_advance _ Ih29.1) (fun h32 ph32 => ?_)
                  have Kh32 := ph32
                  have Ih32 := Ih29.tr Kh32 sb_pr1_prC
                  have th32_33_9 := Kh32.2 (33) 9 rfl
                  refine sx_iinc dX3_readAll_167 (by decide) rfl ?_
                  rw [sw_w_id (by omega) (by omega)]
                  refine sx_goto (tgt := 27) dX3_readAll_170 (by decide) ?_
                  exact ihh7 _ _ ⟨Ih32, by omega, by omega⟩ (by exact sy_dec (by omega) (by omega))
              ·
                refine sx_aload_n dX3_readAll_124 rfl ?_
                refine sx_getR (k := 9) (t := 13) cl_3 fl_X3_40 dX3_readAll_125 s_33 (by decide) rfl (by decide) (by omega) ?_
                refine sx_aload_n dX3_readAll_128 rfl ?_
                refine sx_bipush dX3_readAll_129 ⟨by decide, by decide, by decide⟩ ?_
                refine sx_sipush dX3_readAll_131 ⟨by decide, by decide, by decide⟩ ?_
                refine sx_callVi lk_X3_71 cl_3 s_33 (by decide) dX3_readAll_134 (vs := [_, _]) rfl rfl (Nat.le_of_ble_eq_true rfl) (Nat.le_of_ble_eq_true rfl) rfl (c_X3_readNumberLine_13 _ Ih7.1 (by omega) _ _) (fun x35 h34 ph34 => ?_)
                have Kh34 := ph34
                have Ih34 := Ih7.tr Kh34 sb_pr1_prR
                have th34_33_9 := Kh34.2 (33) 9 rfl
                refine sy_putI (k := 4) cl_0 fl_X3_78 dX3_readAll_137 s_13 (by decide) rfl (by decide) rfl rfl (fun h36 eh36 => ?_)
                have Ih36 := Ih34.up eh36 trivial rfl rfl
                have th36_33_9 := eh36.2 (33) 9 (by decide)
                refine sx_goto (tgt := 150) dX3_readAll_140 (by decide) ?_
                refine sx_aload_n dX3_readAll_150 rfl ?_
                refine sx_getS (k := 0) (t := 34) cl_3 fl_X3_12 dX3_readAll_151 s_33 (by decide) rfl (by decide) ?_
                refine sx_getI (k := 7) cl_5 fl_X3_84 dX3_readAll_154 s_34 (by decide) rfl (by decide) ?_
                refine sx_if_ne (tgt := 167) dX3_readAll_157 (by decide) (fun c37 => ?_) (fun c37 => ?_)
                ·
                  refine sx_iinc dX3_readAll_167 (by decide) rfl ?_
                  rw [sw_w_id (by omega) (by omega)]
                  refine sx_goto (tgt := 27) dX3_readAll_170 (by decide) ?_
                  exact ihh7 _ _ ⟨Ih36, by omega, by omega⟩ (by exact sy_dec (by omega) (by omega))
                ·
                  refine sx_aload_n dX3_readAll_160 rfl ?_
                  refine sx_getS (k := 0) (t := 34) cl_3 fl_X3_12 dX3_readAll_161 s_33 (by decide) rfl (by decide) ?_
                  refine sx_callVv lk_X3_87 cl_5 s_34 (by decide) dX3_readAll_164 (vs := []) rfl rfl (Nat.le_of_ble_eq_true rfl) (Nat.le_of_ble_eq_true rfl) rfl (c_X5_advance _ Ih36.1) (fun h38 ph38 => ?_)
                  have Kh38 := ph38
                  have Ih38 := Ih36.tr Kh38 sb_pr1_prC
                  have th38_33_9 := Kh38.2 (33) 9 rfl
                  refine sx_iinc dX3_readAll_167 (by decide) rfl ?_
                  rw [sw_w_id (by omega) (by omega)]
                  refine sx_goto (tgt := 27) dX3_readAll_170 (by decide) ?_
                  exact ihh7 _ _ ⟨Ih38, by omega, by omega⟩ (by exact sy_dec (by omega) (by omega))
            ·
              refine sx_aload_n dX3_readAll_94 rfl ?_
              refine sx_getR (k := 9) (t := 13) cl_3 fl_X3_40 dX3_readAll_95 s_33 (by decide) rfl (by decide) (by omega) ?_
              refine sx_aload_n dX3_readAll_98 rfl ?_
              refine sx_bipush dX3_readAll_99 ⟨by decide, by decide, by decide⟩ ?_
              refine sx_bipush dX3_readAll_101 ⟨by decide, by decide, by decide⟩ ?_
              refine sx_callVi lk_X3_71 cl_3 s_33 (by decide) dX3_readAll_103 (vs := [_, _]) rfl rfl (Nat.le_of_ble_eq_true rfl) (Nat.le_of_ble_eq_true rfl) rfl (c_X3_readNumberLine_13 _ Ih7.1 (by omega) _ _) (fun x41 h40 ph40 => ?_)
              have Kh40 := ph40
              have Ih40 := Ih7.tr Kh40 sb_pr1_prR
              have th40_33_9 := Kh40.2 (33) 9 rfl
              refine sy_putI (k := 3) cl_0 fl_X3_75 dX3_readAll_106 s_13 (by decide) rfl (by decide) rfl rfl (fun h42 eh42 => ?_)
              have Ih42 := Ih40.up eh42 trivial rfl rfl
              have th42_33_9 := eh42.2 (33) 9 (by decide)
              refine sx_goto (tgt := 150) dX3_readAll_109 (by decide) ?_
              refine sx_aload_n dX3_readAll_150 rfl ?_
              refine sx_getS (k := 0) (t := 34) cl_3 fl_X3_12 dX3_readAll_151 s_33 (by decide) rfl (by decide) ?_
              refine sx_getI (k := 7) cl_5 fl_X3_84 dX3_readAll_154 s_34 (by decide) rfl (by decide) ?_
              refine sx_if_ne (tgt := 167) dX3_readAll_157 (by decide) (fun c43 => ?_) (fun c43 => ?_)
              ·
                refine sx_iinc dX3_readAll_167 (by decide) rfl ?_
                rw [sw_w_id (by omega) (by omega)]
                refine sx_goto (tgt := 27) dX3_readAll_170 (by decide) ?_
                exact ihh7 _ _ ⟨Ih42, by omega, by omega⟩ (by exact sy_dec (by omega) (by omega))
              ·
                refine sx_aload_n dX3_readAll_160 rfl ?_
                refine sx_getS (k := 0) (t := 34) cl_3 fl_X3_12 dX3_readAll_161 s_33 (by decide) rfl (by decide) ?_
                refine sx_callVv lk_X3_87 cl_5 s_34 (by decide) dX3_readAll_164 (vs := []) rfl rfl (Nat.le_of_ble_eq_true rfl) (Nat.le_of_ble_eq_true rfl) rfl (c_X5_advance _ Ih42.1) (fun h44 ph44 => ?_)
                have Kh44 := ph44
                have Ih44 := Ih42.tr Kh44 sb_pr1_prC
                have th44_33_9 := Kh44.2 (33) 9 rfl
                refine sx_iinc dX3_readAll_167 (by decide) rfl ?_
                rw [sw_w_id (by omega) (by omega)]
                refine sx_goto (tgt := 27) dX3_readAll_170 (by decide) ?_
                exact ihh7 _ _ ⟨Ih44, by omega, by omega⟩ (by exact sy_dec (by omega) (by omega))
          ·
            refine sx_aload_n dX3_readAll_75 rfl ?_
            refine sx_callVv lk_X3_68 cl_3 s_33 (by decide) dX3_readAll_76 (vs := []) rfl rfl (Nat.le_of_ble_eq_true rfl) (Nat.le_of_ble_eq_true rfl) rfl (c_X3_readTakes_13 _ Ih7.1 (by omega)) (fun h46 ph46 => ?_)
            have Kh46 := ph46
            have Ih46 := Ih7.tr Kh46 sb_pr1_pr2
            have th46_33_9 := Kh46.2 (33) 9 rfl
            refine sx_goto (tgt := 150) dX3_readAll_79 (by decide) ?_
            refine sx_aload_n dX3_readAll_150 rfl ?_
            refine sx_getS (k := 0) (t := 34) cl_3 fl_X3_12 dX3_readAll_151 s_33 (by decide) rfl (by decide) ?_
            refine sx_getI (k := 7) cl_5 fl_X3_84 dX3_readAll_154 s_34 (by decide) rfl (by decide) ?_
            refine sx_if_ne (tgt := 167) dX3_readAll_157 (by decide) (fun c48 => ?_) (fun c48 => ?_)
            ·
              refine sx_iinc dX3_readAll_167 (by decide) rfl ?_
              rw [sw_w_id (by omega) (by omega)]
              refine sx_goto (tgt := 27) dX3_readAll_170 (by decide) ?_
              exact ihh7 _ _ ⟨Ih46, by omega, by omega⟩ (by exact sy_dec (by omega) (by omega))
            ·
              refine sx_aload_n dX3_readAll_160 rfl ?_
              refine sx_getS (k := 0) (t := 34) cl_3 fl_X3_12 dX3_readAll_161 s_33 (by decide) rfl (by decide) ?_
              refine sx_callVv lk_X3_87 cl_5 s_34 (by decide) dX3_readAll_164 (vs := []) rfl rfl (Nat.le_of_ble_eq_true rfl) (Nat.le_of_ble_eq_true rfl) rfl (c_X5_advance _ Ih46.1) (fun h49 ph49 => ?_)
              have Kh49 := ph49
              have Ih49 := Ih46.tr Kh49 sb_pr1_prC
              have th49_33_9 := Kh49.2 (33) 9 rfl
              refine sx_iinc dX3_readAll_167 (by decide) rfl ?_
              rw [sw_w_id (by omega) (by omega)]
              refine sx_goto (tgt := 27) dX3_readAll_170 (by decide) ?_
              exact ihh7 _ _ ⟨Ih49, by omega, by omega⟩ (by exact sy_dec (by omega) (by omega))
        ·
          refine sx_aload_n dX3_readAll_56 rfl ?_
          refine sx_callVv lk_X3_65 cl_3 s_33 (by decide) dX3_readAll_57 (vs := []) rfl rfl (Nat.le_of_ble_eq_true rfl) (Nat.le_of_ble_eq_true rfl) rfl (c_X3_readWord_13 _ Ih7.1 (by omega)) (fun h51 ph51 => ?_)
          have Kh51 := ph51
          have Ih51 := Ih7.tr Kh51 sb_pr1_pr2
          have th51_33_9 := Kh51.2 (33) 9 rfl
          refine sx_goto (tgt := 150) dX3_readAll_60 (by decide) ?_
          refine sx_aload_n dX3_readAll_150 rfl ?_
          refine sx_getS (k := 0) (t := 34) cl_3 fl_X3_12 dX3_readAll_151 s_33 (by decide) rfl (by decide) ?_
          refine sx_getI (k := 7) cl_5 fl_X3_84 dX3_readAll_154 s_34 (by decide) rfl (by decide) ?_
          refine sx_if_ne (tgt := 167) dX3_readAll_157 (by decide) (fun c53 => ?_) (fun c53 => ?_)
          ·
            refine sx_iinc dX3_readAll_167 (by decide) rfl ?_
            rw [sw_w_id (by omega) (by omega)]
            refine sx_goto (tgt := 27) dX3_readAll_170 (by decide) ?_
            exact ihh7 _ _ ⟨Ih51, by omega, by omega⟩ (by exact sy_dec (by omega) (by omega))
          ·
            refine sx_aload_n dX3_readAll_160 rfl ?_
            refine sx_getS (k := 0) (t := 34) cl_3 fl_X3_12 dX3_readAll_161 s_33 (by decide) rfl (by decide) ?_
            refine sx_callVv lk_X3_87 cl_5 s_34 (by decide) dX3_readAll_164 (vs := []) rfl rfl (Nat.le_of_ble_eq_true rfl) (Nat.le_of_ble_eq_true rfl) rfl (c_X5_advance _ Ih51.1) (fun h54 ph54 => ?_)
            have Kh54 := ph54
            have Ih54 := Ih51.tr Kh54 sb_pr1_prC
            have th54_33_9 := Kh54.2 (33) 9 rfl
            refine sx_iinc dX3_readAll_167 (by decide) rfl ?_
            rw [sw_w_id (by omega) (by omega)]
            refine sx_goto (tgt := 27) dX3_readAll_170 (by decide) ?_
            exact ihh7 _ _ ⟨Ih54, by omega, by omega⟩ (by exact sy_dec (by omega) (by omega))
  · exact ⟨Ih5, by omega, by omega⟩

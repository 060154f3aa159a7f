set_option maxRecDepth 20000 in
set_option maxHeartbeats 4000000 in
theorem c_X7_forget {G : sw_G} (d : Nat) {h0 : sw_H} (hJ : cJ h0)  : sw_E G NH SH (d) mX7_forget 0 [some (sw_r 189)] [] h0 (sw_Qv (fun h' => cK prG h0 h')) := by
  have hI : cK prG h0 h0 := cK.refl hJ
  refine sx_aload_n dX7_forget_0 rfl ?_
  refine sx_iconst dX7_forget_1 ⟨by decide, by decide⟩ ?_
  refine sy_putI (k := 8) cl_7 fl_X7_55 dX7_forget_2 s_189 (by decide) rfl (by decide) rfl rfl (fun h1 eh1 => ?_)
  have Ih1 := hI.up eh1 (show (0 : Int) ≤ _ ∧ _ ≤ (30 : Int) from ⟨by omega, by omega⟩) rfl rfl
  refine sx_ret dX7_forget_5 ?_
  exact ⟨rfl, Ih1⟩
set_option maxRecDepth 20000 in
set_option maxHeartbeats 4000000 in
theorem c_X7_tell {G : sw_G} (d : Nat) {h0 : sw_H} (hJ : cJ h0) (a b c e : Int) (hc : c = 0 ∨ c = 1) : sw_E G NH SH (d) mX7_tell 0 [some (sw_r 189), some (sw_i a), some (sw_i b), some (sw_i c), some (sw_i e)] [] h0 (sw_Qi (fun z h' => cK prG h0 h')) := by
  have hI : cK prG h0 h0 := cK.refl hJ
  refine sx_aload_n dX7_tell_0 rfl ?_
  refine sx_getI (k := 8) cl_7 fl_X7_55 dX7_tell_1 s_189 (by decide) rfl (by decide) ?_
  have r1 : (0 : Int) ≤ h0 189 8 ∧ h0 189 8 ≤ 30 := hI.1.1 189 8
  refine sx_bipush dX7_tell_4 ⟨by decide, by decide, by decide⟩ ?_
  refine sx_icmp_lt (tgt := 11) dX7_tell_6 (by decide) (fun c2 => ?_) (fun c2 => ?_)
  ·
    refine sx_aload_n dX7_tell_11 rfl ?_
    refine sx_getS (k := 3) (t := 208) cl_7 fl_X7_32 dX7_tell_12 s_189 (by decide) rfl (by decide) ?_
    refine sx_aload_n dX7_tell_15 rfl ?_
    refine sx_getI (k := 8) cl_7 fl_X7_55 dX7_tell_16 s_189 (by decide) rfl (by decide) ?_
    have r3 : (0 : Int) ≤ h0 189 8 ∧ h0 189 8 ≤ 30 := hI.1.1 189 8
    refine sx_iload_n dX7_tell_19 rfl ?_
    refine sy_iastore dX7_tell_20 s_208 (by decide) (by decide) ⟨by omega, by omega⟩ (fun h4 eh4 => ?_)
    have Ih4 := hI.up eh4 trivial rfl rfl
    have th4_189_8 := eh4.2 (189) 8 (by omega)
    refine sx_aload_n dX7_tell_21 rfl ?_
    refine sx_getS (k := 4) (t := 209) cl_7 fl_X7_36 dX7_tell_22 s_189 (by decide) rfl (by decide) ?_
    refine sx_aload_n dX7_tell_25 rfl ?_
    refine sx_getI (k := 8) cl_7 fl_X7_55 dX7_tell_26 s_189 (by decide) rfl (by decide) ?_
    have r5 : (0 : Int) ≤ h4 189 8 ∧ h4 189 8 ≤ 30 := Ih4.1.1 189 8
    refine sx_iload_n dX7_tell_29 rfl ?_
    refine sy_iastore dX7_tell_30 s_209 (by decide) (by decide) ⟨by omega, by omega⟩ (fun h6 eh6 => ?_)
    have Ih6 := Ih4.up eh6 trivial rfl rfl
    have th6_189_8 := eh6.2 (189) 8 (by omega)
    refine sx_aload_n dX7_tell_31 rfl ?_
    refine sx_getS (k := 5) (t := 210) cl_7 fl_X7_39 dX7_tell_32 s_189 (by decide) rfl (by decide) ?_
    refine sx_aload_n dX7_tell_35 rfl ?_
    refine sx_getI (k := 8) cl_7 fl_X7_55 dX7_tell_36 s_189 (by decide) rfl (by decide) ?_
    have r7 : (0 : Int) ≤ h6 189 8 ∧ h6 189 8 ≤ 30 := Ih6.1.1 189 8
    refine sx_iload_n dX7_tell_39 rfl ?_
    refine sy_zastore dX7_tell_40 s_210 (by decide) (by decide) ⟨by omega, by omega⟩ (by omega) (fun h8 eh8 => ?_)
    have Ih8 := Ih6.up eh8 trivial rfl rfl
    have th8_189_8 := eh8.2 (189) 8 (by omega)
    refine sx_aload_n dX7_tell_41 rfl ?_
    refine sx_getS (k := 6) (t := 211) cl_7 fl_X7_43 dX7_tell_42 s_189 (by decide) rfl (by decide) ?_
    refine sx_aload_n dX7_tell_45 rfl ?_
    refine sx_getI (k := 8) cl_7 fl_X7_55 dX7_tell_46 s_189 (by decide) rfl (by decide) ?_
    have r9 : (0 : Int) ≤ h8 189 8 ∧ h8 189 8 ≤ 30 := Ih8.1.1 189 8
    refine sx_iload dX7_tell_49 rfl ?_
    refine sy_iastore dX7_tell_51 s_211 (by decide) (by decide) ⟨by omega, by omega⟩ (fun h10 eh10 => ?_)
    have Ih10 := Ih8.up eh10 trivial rfl rfl
    have th10_189_8 := eh10.2 (189) 8 (by omega)
    refine sx_aload_n dX7_tell_52 rfl ?_
    refine sx_getS (k := 7) (t := 212) cl_7 fl_X7_46 dX7_tell_53 s_189 (by decide) rfl (by decide) ?_
    refine sx_aload_n dX7_tell_56 rfl ?_
    refine sx_getI (k := 8) cl_7 fl_X7_55 dX7_tell_57 s_189 (by decide) rfl (by decide) ?_
    have r11 : (0 : Int) ≤ h10 189 8 ∧ h10 189 8 ≤ 30 := Ih10.1.1 189 8
    refine sx_iconst dX7_tell_60 ⟨by decide, by decide⟩ ?_
    refine sy_iastore dX7_tell_61 s_212 (by decide) (by decide) ⟨by omega, by omega⟩ (fun h12 eh12 => ?_)
    have Ih12 := Ih10.up eh12 trivial rfl rfl
    have th12_189_8 := eh12.2 (189) 8 (by omega)
    refine sx_aload_n dX7_tell_62 rfl ?_
    refine sx_dupr dX7_tell_63 ?_
    refine sx_getI (k := 8) cl_7 fl_X7_55 dX7_tell_64 s_189 (by decide) rfl (by decide) ?_
    have r13 : (0 : Int) ≤ h12 189 8 ∧ h12 189 8 ≤ 30 := Ih12.1.1 189 8
    refine sx_iconst dX7_tell_67 ⟨by decide, by decide⟩ ?_
    refine sx_iadd dX7_tell_68 ?_
    refine sy_topw (by omega) ?_
    refine sy_putI (k := 8) cl_7 fl_X7_55 dX7_tell_69 s_189 (by decide) rfl (by decide) rfl rfl (fun h14 eh14 => ?_)
    have Ih14 := Ih12.up eh14 (show (0 : Int) ≤ _ ∧ _ ≤ (30 : Int) from ⟨by omega, by omega⟩) rfl rfl
    have th14_189_8 := eh14.1
    refine sx_aload_n dX7_tell_72 rfl ?_
    refine sx_getI (k := 8) cl_7 fl_X7_55 dX7_tell_73 s_189 (by decide) rfl (by decide) ?_
    have r15 : (0 : Int) ≤ h14 189 8 ∧ h14 189 8 ≤ 30 := Ih14.1.1 189 8
    refine sx_iconst dX7_tell_76 ⟨by decide, by decide⟩ ?_
    refine sx_isub dX7_tell_77 ?_
    refine sy_topw (by omega) ?_
    refine sx_ireturn dX7_tell_78 ?_
    exact ⟨_, rfl, Ih14⟩
  ·
    refine sx_iconst dX7_tell_9 ⟨by decide, by decide⟩ ?_
    refine sx_ireturn dX7_tell_10 ?_
    exact ⟨_, rfl, hI⟩
set_option maxRecDepth 20000 in
set_option maxHeartbeats 4000000 in
theorem c_X7_takeBack {G : sw_G} (d : Nat) {h0 : sw_H} (hJ : cJ h0) (a b : Int) : sw_E G NH SH (d) mX7_takeBack 0 [some (sw_r 189), some (sw_i a), some (sw_i b)] [] h0 (sw_Qz (fun z h' => cK prG h0 h')) := by
  have hI : cK prG h0 h0 := cK.refl hJ
  refine sx_iload_n dX7_takeBack_0 rfl ?_
  refine sx_if_lt (tgt := 22) dX7_takeBack_1 (by decide) (fun c1 => ?_) (fun c1 => ?_)
  ·
    refine sx_iconst dX7_takeBack_22 ⟨by decide, by decide⟩ ?_
    refine sx_ireturn dX7_takeBack_23 ?_
    exact ⟨_, rfl, by omega, hI⟩
  ·
    refine sx_iload_n dX7_takeBack_4 rfl ?_
    refine sx_aload_n dX7_takeBack_5 rfl ?_
    refine sx_getI (k := 8) cl_7 fl_X7_55 dX7_takeBack_6 s_189 (by decide) rfl (by decide) ?_
    have r2 : (0 : Int) ≤ h0 189 8 ∧ h0 189 8 ≤ 30 := hI.1.1 189 8
    refine sx_icmp_ge (tgt := 22) dX7_takeBack_9 (by decide) (fun c3 => ?_) (fun c3 => ?_)
    ·
      refine sx_iconst dX7_takeBack_22 ⟨by decide, by decide⟩ ?_
      refine sx_ireturn dX7_takeBack_23 ?_
      exact ⟨_, rfl, by omega, hI⟩
    ·
      refine sx_aload_n dX7_takeBack_12 rfl ?_
      refine sx_getS (k := 7) (t := 212) cl_7 fl_X7_46 dX7_takeBack_13 s_189 (by decide) rfl (by decide) ?_
      refine sx_iload_n dX7_takeBack_16 rfl ?_
      refine sx_iaload dX7_takeBack_17 s_212 (by decide) (by decide) ⟨by omega, by omega⟩ ?_
      refine sx_iconst dX7_takeBack_18 ⟨by decide, by decide⟩ ?_
      refine sx_icmp_eq (tgt := 24) dX7_takeBack_19 (by decide) (fun c4 => ?_) (fun c4 => ?_)
      ·
        refine sx_aload_n dX7_takeBack_24 rfl ?_
        refine sx_getS (k := 7) (t := 212) cl_7 fl_X7_46 dX7_takeBack_25 s_189 (by decide) rfl (by decide) ?_
        refine sx_iload_n dX7_takeBack_28 rfl ?_
        refine sx_iload_n dX7_takeBack_29 rfl ?_
        refine sy_iastore dX7_takeBack_30 s_212 (by decide) (by decide) ⟨by omega, by omega⟩ (fun h5 eh5 => ?_)
        have Ih5 := hI.up eh5 trivial rfl rfl
        have th5_189_8 := eh5.2 (189) 8 (by omega)
        refine sx_iconst dX7_takeBack_31 ⟨by decide, by decide⟩ ?_
        refine sx_ireturn dX7_takeBack_32 ?_
        exact ⟨_, rfl, by omega, Ih5⟩
      ·
        refine sx_iconst dX7_takeBack_22 ⟨by decide, by decide⟩ ?_
        refine sx_ireturn dX7_takeBack_23 ?_
        exact ⟨_, rfl, by omega, hI⟩
set_option maxRecDepth 20000 in
set_option maxHeartbeats 4000000 in
theorem c_X7_isKnown {G : sw_G} (d : Nat) {h0 : sw_H} (hJ : cJ h0) (a b : Int) (ha : 0 ≤ a ∧ a < 30) : sw_E G NH SH (d) mX7_isKnown 0 [some (sw_r 189), some (sw_i a), some (sw_i b), none] [] h0 (sw_Qz (fun z h' => h0 = h')) := by
  have hI : cK pr0 h0 h0 := cK.refl hJ
  have J26_n1 : ∀ (u : Int) , sw_E G NH SH (d) mX7_isKnown 26 [some (sw_r 189), some (sw_i a), some (sw_i b), some (sw_i u)] [] h0 (sw_Qz (fun z h' => h0 = h')) := by
    intro u_2
    refine sx_aload_n dX7_isKnown_26 rfl ?_
    refine sx_getS (k := 6) (t := 211) cl_7 fl_X7_43 dX7_isKnown_27 s_189 (by decide) rfl (by decide) ?_
    refine sx_iload_n dX7_isKnown_30 rfl ?_
    refine sx_iaload dX7_isKnown_31 s_211 (by decide) (by decide) ⟨by omega, by omega⟩ ?_
    refine sx_iload_n dX7_isKnown_32 rfl ?_
    refine sx_icmp_gt (tgt := 44) dX7_isKnown_33 (by decide) (fun c3 => ?_) (fun c3 => ?_)
    ·
      refine sx_iconst dX7_isKnown_44 ⟨by decide, by decide⟩ ?_
      refine sx_ireturn dX7_isKnown_45 ?_
      exact ⟨_, rfl, by omega, rfl⟩
    ·
      refine sx_iload_n dX7_isKnown_36 rfl ?_
      refine sx_if_ne (tgt := 44) dX7_isKnown_37 (by decide) (fun c4 => ?_) (fun c4 => ?_)
      ·
        refine sx_iconst dX7_isKnown_44 ⟨by decide, by decide⟩ ?_
        refine sx_ireturn dX7_isKnown_45 ?_
        exact ⟨_, rfl, by omega, rfl⟩
      ·
        refine sx_iconst dX7_isKnown_40 ⟨by decide, by decide⟩ ?_
        refine sx_goto (tgt := 45) dX7_isKnown_41 (by decide) ?_
        refine sx_ireturn dX7_isKnown_45 ?_
        exact ⟨_, rfl, by omega, rfl⟩
  refine sx_aload_n dX7_isKnown_0 rfl ?_
  refine sx_getS (k := 7) (t := 212) cl_7 fl_X7_46 dX7_isKnown_1 s_189 (by decide) rfl (by decide) ?_
  refine sx_iload_n dX7_isKnown_4 rfl ?_
  refine sx_iaload dX7_isKnown_5 s_212 (by decide) (by decide) ⟨by omega, by omega⟩ ?_
  refine sx_iconst dX7_isKnown_6 ⟨by decide, by decide⟩ ?_
  refine sx_icmp_eq (tgt := 24) dX7_isKnown_7 (by decide) (fun c5 => ?_) (fun c5 => ?_)
  ·
    refine sx_iconst dX7_isKnown_24 ⟨by decide, by decide⟩ ?_
    refine sx_istore_n dX7_isKnown_25 (by decide) ?_
    exact J26_n1 _ 
  ·
    refine sx_aload_n dX7_isKnown_10 rfl ?_
    refine sx_getS (k := 7) (t := 212) cl_7 fl_X7_46 dX7_isKnown_11 s_189 (by decide) rfl (by decide) ?_
    refine sx_iload_n dX7_isKnown_14 rfl ?_
    refine sx_iaload dX7_isKnown_15 s_212 (by decide) (by decide) ⟨by omega, by omega⟩ ?_
    refine sx_iload_n dX7_isKnown_16 rfl ?_
    refine sx_icmp_gt (tgt := 24) dX7_isKnown_17 (by decide) (fun c6 => ?_) (fun c6 => ?_)
    ·
      refine sx_iconst dX7_isKnown_24 ⟨by decide, by decide⟩ ?_
      refine sx_istore_n dX7_isKnown_25 (by decide) ?_
      exact J26_n1 _ 
    ·
      refine sx_iconst dX7_isKnown_20 ⟨by decide, by decide⟩ ?_
      refine sx_goto (tgt := 25) dX7_isKnown_21 (by decide) ?_
      refine sx_istore_n dX7_isKnown_25 (by decide) ?_
      exact J26_n1 _ 
set_option maxRecDepth 20000 in
set_option maxHeartbeats 4000000 in
theorem c_X7_topFor_1 {G : sw_G} (d : Nat) {h0 : sw_H} (hJ : cJ h0) (t n : Int) (hw : 1 ≤ h0 1 0) : sw_E G NH SH (d + 17) mX7_topFor 0 [some (sw_r 189), some (sw_r 1), some (sw_i t), some (sw_i n), none] [] h0 (sw_Qi (fun z h' => cK prD h0 h')) := by
  have hI : cK prD h0 h0 := cK.refl hJ
  have rw : (0 : Int) ≤ h0 1 0 ∧ h0 1 0 ≤ 6 := hI.1.1 1 0
  refine sx_aload_n dX7_topFor_0 rfl ?_
  refine sx_getI (k := 0) cl_0 fl_X7_62 dX7_topFor_1 s_1 (by decide) rfl (by decide) ?_
  have r1 : (0 : Int) ≤ h0 1 0 ∧ h0 1 0 ≤ 6 := hI.1.1 1 0
  refine sx_iconst dX7_topFor_4 ⟨by decide, by decide⟩ ?_
  refine sx_isub dX7_topFor_5 ?_
  refine sy_topw (by omega) ?_
  refine sy_top (fun v2 ev2 => ?_)
  refine sx_istore dX7_topFor_6 (by decide) ?_
  refine sx_aload_n dX7_topFor_8 rfl ?_
  refine sx_getS (k := 2) (t := 205) cl_7 fl_X7_28 dX7_topFor_9 s_189 (by decide) rfl (by decide) ?_
  refine sx_iload_n dX7_topFor_12 rfl ?_
  refine sx_bipush dX7_topFor_13 ⟨by decide, by decide, by decide⟩ ?_
  refine sx_idiv dX7_topFor_15 (by omega) ?_
  refine sx_iload_n dX7_topFor_16 rfl ?_
  refine sx_bipush dX7_topFor_17 ⟨by decide, by decide, by decide⟩ ?_
  refine sx_idiv dX7_topFor_19 (by omega) ?_
  refine sx_bipush dX7_topFor_20 ⟨by decide, by decide, by decide⟩ ?_
  refine sx_irem dX7_topFor_22 (by omega) ?_
  refine sx_iload_n dX7_topFor_23 rfl ?_
  refine sx_bipush dX7_topFor_24 ⟨by decide, by decide, by decide⟩ ?_
  refine sx_irem dX7_topFor_26 (by omega) ?_
  refine sx_callVv lk_X7_113 cl_8 s_205 (by decide) dX7_topFor_27 (vs := [_, _, _]) rfl rfl (Nat.le_of_ble_eq_true rfl) (Nat.le_of_ble_eq_true rfl) rfl (c_X8_beginWith _ hI.1 (205) (by decide) _ _ _) (fun h3 ph3 => ?_)
  have Kh3 := ph3
  have Ih3 := hI.tr Kh3 sb_prD_prS
  refine sx_aload_n dX7_topFor_30 rfl ?_
  refine sx_getS (k := 2) (t := 205) cl_7 fl_X7_28 dX7_topFor_31 s_189 (by decide) rfl (by decide) ?_
  refine sx_iload_n dX7_topFor_34 rfl ?_
  refine sx_callVv lk_X7_117 cl_8 s_205 (by decide) dX7_topFor_35 (vs := [_]) rfl rfl (Nat.le_of_ble_eq_true rfl) (Nat.le_of_ble_eq_true rfl) rfl (c_X8_perform _ Ih3.1 (205) (by decide) _) (fun h5 ph5 => ?_)
  have Kh5 := ph5
  have Ih5 := Ih3.tr Kh5 sb_prD_prS
  refine sx_aload_n dX7_topFor_38 rfl ?_
  refine sx_getS (k := 1) (t := 197) cl_7 fl_X7_21 dX7_topFor_39 s_189 (by decide) rfl (by decide) ?_
  refine sx_aload_n dX7_topFor_42 rfl ?_
  refine sx_aload_n dX7_topFor_43 rfl ?_
  refine sx_getS (k := 2) (t := 205) cl_7 fl_X7_28 dX7_topFor_44 s_189 (by decide) rfl (by decide) ?_
  refine sx_aload_n dX7_topFor_47 rfl ?_
  refine sx_getS (k := 9) (t := 6) cl_0 fl_X7_74 dX7_topFor_48 s_1 (by decide) rfl (by decide) ?_
  refine sx_iload dX7_topFor_51 rfl ?_
  refine sy_iaF (F := fun z => (0 : Int) ≤ z ∧ z ≤ 60) dX7_topFor_53 s_6 (by decide) (by decide) ⟨by omega, by omega⟩ (Ih5.1.1 6 _) (fun r7 => ?_)
  refine sx_iconst dX7_topFor_54 ⟨by decide, by decide⟩ ?_
  refine sx_iadd dX7_topFor_55 ?_
  refine sy_topw (by omega) ?_
  refine sx_aload_n dX7_topFor_56 rfl ?_
  refine sx_getS (k := 9) (t := 6) cl_0 fl_X7_74 dX7_topFor_57 s_1 (by decide) rfl (by decide) ?_
  refine sx_iload dX7_topFor_60 rfl ?_
  refine sx_iconst dX7_topFor_62 ⟨by decide, by decide⟩ ?_
  refine sx_iadd dX7_topFor_63 ?_
  refine sy_topw (by omega) ?_
  refine sy_iaF (F := fun z => (0 : Int) ≤ z ∧ z ≤ 60) dX7_topFor_64 s_6 (by decide) (by decide) ⟨by omega, by omega⟩ (Ih5.1.1 6 _) (fun r8 => ?_)
  refine sx_callVv lk_X7_121 cl_4 s_197 (by decide) dX7_topFor_65 (vs := [_, _, _, _]) rfl rfl (Nat.le_of_ble_eq_true rfl) (Nat.le_of_ble_eq_true rfl) rfl (c_X4_doItems_197_1 _ Ih5.1 (205) (by decide) _ _ (by omega)) (fun h9 ph9 => ?_)
  have Kh9 := ph9
  have Ih9 := Ih5.tr Kh9 sb_prD_prD
  refine sx_aload_n dX7_topFor_68 rfl ?_
  refine sx_getS (k := 2) (t := 205) cl_7 fl_X7_28 dX7_topFor_69 s_189 (by decide) rfl (by decide) ?_
  refine sx_iconst dX7_topFor_72 ⟨by decide, by decide⟩ ?_
  refine sx_callVi lk_X7_125 cl_8 s_205 (by decide) dX7_topFor_73 (vs := [_]) rfl rfl (Nat.le_of_ble_eq_true rfl) (Nat.le_of_ble_eq_true rfl) rfl (c_X8_cellAt _ Ih9.1 (205) (by decide) _) (fun x12 h11 ph11 => ?_)
  have Kh11 := ph11
  have Ih11 := Ih9.tr Kh11 sb_prD_prS
  refine sx_ireturn dX7_topFor_76 ?_
  exact ⟨_, rfl, Ih11⟩
set_option maxRecDepth 20000 in
set_option maxHeartbeats 4000000 in
theorem c_X7_agreesWithAll_1 {G : sw_G} (d : Nat) {h0 : sw_H} (hJ : cJ h0) (t k : Int) (hw : 1 ≤ h0 1 0) : sw_E G NH SH (d + 18) mX7_agreesWithAll 0 [some (sw_r 189), some (sw_r 1), some (sw_i t), some (sw_i k), none] [] h0 (sw_Qz (fun z h' => cK prD h0 h')) := by
  have hI : cK prD h0 h0 := cK.refl hJ
  refine sx_iconst dX7_agreesWithAll_0 ⟨by decide, by decide⟩ ?_
  refine sx_istore dX7_agreesWithAll_1 (by decide) ?_
  refine sx_loop1 (fun (h : sw_H) (i : Int) => (cK prD h0 h) ∧ (h 1 0 = h0 1 0) ∧ (0 ≤ i)) (fun (h : sw_H) (i : Int) => (30 - i).toNat) (fun (h : sw_H) (i : Int) => sw_E G NH SH (d + 18) mX7_agreesWithAll 3 [some (sw_r 189), some (sw_r 1), some (sw_i t), some (sw_i k), some (sw_i i)] [] h (sw_Qz (fun z h' => cK prD h0 h'))) ?_ _ _ ?_
  · rintro h1 i_2 ⟨Ih1, j3, j4⟩ ihh1
    try dsimp only at ihh1
    refine sx_iload dX7_agreesWithAll_3 rfl ?_
    refine sx_aload_n dX7_agreesWithAll_5 rfl ?_
    refine sx_getI (k := 8) cl_7 fl_X7_55 dX7_agreesWithAll_6 s_189 (by decide) rfl (by decide) ?_
    have r5 : (0 : Int) ≤ h1 189 8 ∧ h1 189 8 ≤ 30 := Ih1.1.1 189 8
    refine sx_icmp_ge (tgt := 68) dX7_agreesWithAll_9 (by decide) (fun c6 => ?_) (fun c6 => ?_)
    ·
      refine sx_iconst dX7_agreesWithAll_68 ⟨by decide, by decide⟩ ?_
      refine sx_ireturn dX7_agreesWithAll_69 ?_
      exact ⟨_, rfl, by omega, Ih1⟩
    ·
      refine sx_aload_n dX7_agreesWithAll_12 rfl ?_
      refine sx_iload dX7_agreesWithAll_13 rfl ?_
      refine sx_iload_n dX7_agreesWithAll_15 rfl ?_
      refine sx_callVz lk_X7_106 cl_7 s_189 (by decide) dX7_agreesWithAll_16 (vs := [_, _]) rfl rfl (Nat.le_of_ble_eq_true rfl) (Nat.le_of_ble_eq_true rfl) rfl (c_X7_isKnown _ Ih1.1 _ _ (by omega)) (fun x8 h7 zx8 ph7 => ?_)
      subst ph7
      refine sx_if_eq (tgt := 62) dX7_agreesWithAll_19 (by decide) (fun c9 => ?_) (fun c9 => ?_)
      ·
        refine sx_iinc dX7_agreesWithAll_62 (by decide) rfl ?_
        rw [sw_w_id (by omega) (by omega)]
        refine sx_goto (tgt := 3) dX7_agreesWithAll_65 (by decide) ?_
        exact ihh1 _ _ ⟨Ih1, by omega, by omega⟩ (by exact sy_dec (by omega) (by omega))
      ·
        refine sx_aload_n dX7_agreesWithAll_22 rfl ?_
        refine sx_aload_n dX7_agreesWithAll_23 rfl ?_
        refine sx_iload_n dX7_agreesWithAll_24 rfl ?_
        refine sx_aload_n dX7_agreesWithAll_25 rfl ?_
        refine sx_getS (k := 3) (t := 208) cl_7 fl_X7_32 dX7_agreesWithAll_26 s_189 (by decide) rfl (by decide) ?_
        refine sx_iload dX7_agreesWithAll_29 rfl ?_
        refine sx_iaload dX7_agreesWithAll_31 s_208 (by decide) (by decide) ⟨by omega, by omega⟩ ?_
        refine sx_callVi lk_X7_109 cl_7 s_189 (by decide) dX7_agreesWithAll_32 (vs := [_, _, _]) rfl rfl (Nat.le_of_ble_eq_true rfl) (Nat.le_of_ble_eq_true rfl) rfl (c_X7_topFor_1 _ Ih1.1 _ _ (by omega)) (fun x11 h10 ph10 => ?_)
        have Kh10 := ph10
        have Ih10 := Ih1.tr Kh10 sb_prD_prD
        have th10_1_0 := Kh10.2 (1) 0 rfl
        refine sx_aload_n dX7_agreesWithAll_35 rfl ?_
        refine sx_getS (k := 4) (t := 209) cl_7 fl_X7_36 dX7_agreesWithAll_36 s_189 (by decide) rfl (by decide) ?_
        refine sx_iload dX7_agreesWithAll_39 rfl ?_
        refine sx_iaload dX7_agreesWithAll_41 s_209 (by decide) (by decide) ⟨by omega, by omega⟩ ?_
        refine sx_icmp_ne (tgt := 49) dX7_agreesWithAll_42 (by decide) (fun c12 => ?_) (fun c12 => ?_)
        ·
          refine sx_iconst dX7_agreesWithAll_49 ⟨by decide, by decide⟩ ?_
          refine sx_aload_n dX7_agreesWithAll_50 rfl ?_
          refine sx_getS (k := 5) (t := 210) cl_7 fl_X7_39 dX7_agreesWithAll_51 s_189 (by decide) rfl (by decide) ?_
          refine sx_iload dX7_agreesWithAll_54 rfl ?_
          refine sx_zaload dX7_agreesWithAll_56 s_210 (by decide) (by decide) ⟨by omega, by omega⟩ (fun b13 b14 => ?_)
          refine sx_icmp_eq (tgt := 62) dX7_agreesWithAll_57 (by decide) (fun c15 => ?_) (fun c15 => ?_)
          ·
            refine sx_iinc dX7_agreesWithAll_62 (by decide) rfl ?_
            rw [sw_w_id (by omega) (by omega)]
            refine sx_goto (tgt := 3) dX7_agreesWithAll_65 (by decide) ?_
            exact ihh1 _ _ ⟨Ih10, by omega, by omega⟩ (by exact sy_dec (by omega) (by omega))
          ·
            refine sx_iconst dX7_agreesWithAll_60 ⟨by decide, by decide⟩ ?_
            refine sx_ireturn dX7_agreesWithAll_61 ?_
            exact ⟨_, rfl, by omega, Ih10⟩
        ·
          refine sx_iconst dX7_agreesWithAll_45 ⟨by decide, by decide⟩ ?_
          refine sx_goto (tgt := 50) dX7_agreesWithAll_46 (by decide) ?_
          refine sx_aload_n dX7_agreesWithAll_50 rfl ?_
          refine sx_getS (k := 5) (t := 210) cl_7 fl_X7_39 dX7_agreesWithAll_51 s_189 (by decide) rfl (by decide) ?_
          refine sx_iload dX7_agreesWithAll_54 rfl ?_
          refine sx_zaload dX7_agreesWithAll_56 s_210 (by decide) (by decide) ⟨by omega, by omega⟩ (fun b16 b17 => ?_)
          refine sx_icmp_eq (tgt := 62) dX7_agreesWithAll_57 (by decide) (fun c18 => ?_) (fun c18 => ?_)
          ·
            refine sx_iinc dX7_agreesWithAll_62 (by decide) rfl ?_
            rw [sw_w_id (by omega) (by omega)]
            refine sx_goto (tgt := 3) dX7_agreesWithAll_65 (by decide) ?_
            exact ihh1 _ _ ⟨Ih10, by omega, by omega⟩ (by exact sy_dec (by omega) (by omega))
          ·
            refine sx_iconst dX7_agreesWithAll_60 ⟨by decide, by decide⟩ ?_
            refine sx_ireturn dX7_agreesWithAll_61 ?_
            exact ⟨_, rfl, by omega, Ih10⟩
  · exact ⟨hI, by omega, by omega⟩
set_option maxRecDepth 20000 in
set_option maxHeartbeats 4000000 in
theorem c_X7_canStandFirst_1 {G : sw_G} (d : Nat) {h0 : sw_H} (hJ : cJ h0) (t : Int) (hw : 1 ≤ h0 1 0) : sw_E G NH SH (d + 3) mX7_canStandFirst 0 [some (sw_r 189), some (sw_r 1), some (sw_i t), none, none, none] [] h0 (sw_Qz (fun z h' => cK prU h0 h')) := by
  have hI : cK prU h0 h0 := cK.refl hJ
  have rw : (0 : Int) ≤ h0 1 0 ∧ h0 1 0 ≤ 6 := hI.1.1 1 0
  refine sx_aload_n dX7_canStandFirst_0 rfl ?_
  refine sx_getI (k := 0) cl_0 fl_X7_62 dX7_canStandFirst_1 s_1 (by decide) rfl (by decide) ?_
  have r1 : (0 : Int) ≤ h0 1 0 ∧ h0 1 0 ≤ 6 := hI.1.1 1 0
  refine sx_iconst dX7_canStandFirst_4 ⟨by decide, by decide⟩ ?_
  refine sx_isub dX7_canStandFirst_5 ?_
  refine sy_topw (by omega) ?_
  refine sy_top (fun v2 ev2 => ?_)
  refine sx_istore_n dX7_canStandFirst_6 (by decide) ?_
  refine sx_aload_n dX7_canStandFirst_7 rfl ?_
  refine sx_getS (k := 0) (t := 190) cl_7 fl_X7_12 dX7_canStandFirst_8 s_189 (by decide) rfl (by decide) ?_
  refine sx_aload_n dX7_canStandFirst_11 rfl ?_
  refine sx_callVv lk_X7_85 cl_10 s_190 (by decide) dX7_canStandFirst_12 (vs := [_]) rfl rfl (Nat.le_of_ble_eq_true rfl) (Nat.le_of_ble_eq_true rfl) rfl (c_X10_begin_190_1 _ hI.1) (fun h3 ph3 => ?_)
  obtain ⟨Kh3, c_h3⟩ := ph3
  have Ih3 := hI.tr Kh3 sb_prU_prU
  refine sx_aload_n dX7_canStandFirst_15 rfl ?_
  refine sx_getS (k := 0) (t := 190) cl_7 fl_X7_12 dX7_canStandFirst_16 s_189 (by decide) rfl (by decide) ?_
  refine sx_iconst dX7_canStandFirst_19 ⟨by decide, by decide⟩ ?_
  refine sx_iload_n dX7_canStandFirst_20 rfl ?_
  refine sx_callVi lk_X7_89 cl_10 s_190 (by decide) dX7_canStandFirst_21 (vs := [_, _]) rfl rfl (Nat.le_of_ble_eq_true rfl) (Nat.le_of_ble_eq_true rfl) rfl (c_X10_pass_190_1 _ Ih3.1 (by omega) _ _) (fun x6 h5 ph5 => ?_)
  obtain ⟨Kh5, f_h5⟩ := ph5
  have Ih5 := Ih3.tr Kh5 sb_prU_prT
  have th5_190_0 := Kh5.2 (190) 0 rfl
  refine sx_istore dX7_canStandFirst_24 (by decide) ?_
  refine sx_aload_n dX7_canStandFirst_26 rfl ?_
  refine sx_getS (k := 9) (t := 6) cl_0 fl_X7_74 dX7_canStandFirst_27 s_1 (by decide) rfl (by decide) ?_
  refine sx_iload_n dX7_canStandFirst_30 rfl ?_
  refine sy_iaF (F := fun z => (0 : Int) ≤ z ∧ z ≤ 60) dX7_canStandFirst_31 s_6 (by decide) (by decide) ⟨by omega, by omega⟩ (Ih5.1.1 6 _) (fun r7 => ?_)
  refine sx_iconst dX7_canStandFirst_32 ⟨by decide, by decide⟩ ?_
  refine sx_iadd dX7_canStandFirst_33 ?_
  refine sy_topw (by omega) ?_
  refine sy_top (fun v8 ev8 => ?_)
  refine sx_istore dX7_canStandFirst_34 (by decide) ?_
  refine sx_loop2 (fun (h : sw_H) (f : Int) (i : Int) => (cK prU h0 h) ∧ (h 190 0 = 1) ∧ (0 ≤ i)) (fun (h : sw_H) (f : Int) (i : Int) => (60 - i).toNat) (fun (h : sw_H) (f : Int) (i : Int) => sw_E G NH SH (d + 3) mX7_canStandFirst 36 [some (sw_r 189), some (sw_r 1), some (sw_i t), some (sw_i v2), some (sw_i f), some (sw_i i)] [] h (sw_Qz (fun z h' => cK prU h0 h'))) ?_ _ _ _ ?_
  · rintro h9 f_10 i_11 ⟨Ih9, j12, j13⟩ ihh9
    try dsimp only at ihh9
    refine sx_iload dX7_canStandFirst_36 rfl ?_
    refine sx_aload_n dX7_canStandFirst_38 rfl ?_
    refine sx_getS (k := 9) (t := 6) cl_0 fl_X7_74 dX7_canStandFirst_39 s_1 (by decide) rfl (by decide) ?_
    refine sx_iload_n dX7_canStandFirst_42 rfl ?_
    refine sx_iconst dX7_canStandFirst_43 ⟨by decide, by decide⟩ ?_
    refine sx_iadd dX7_canStandFirst_44 ?_
    refine sy_topw (by omega) ?_
    refine sy_iaF (F := fun z => (0 : Int) ≤ z ∧ z ≤ 60) dX7_canStandFirst_45 s_6 (by decide) (by decide) ⟨by omega, by omega⟩ (Ih9.1.1 6 _) (fun r14 => ?_)
    refine sx_icmp_ge (tgt := 83) dX7_canStandFirst_46 (by decide) (fun c15 => ?_) (fun c15 => ?_)
    ·
      refine sx_iload dX7_canStandFirst_83 rfl ?_
      refine sx_if_ne (tgt := 126) dX7_canStandFirst_85 (by decide) (fun c16 => ?_) (fun c16 => ?_)
      ·
        refine sx_iconst dX7_canStandFirst_126 ⟨by decide, by decide⟩ ?_
        refine sx_ireturn dX7_canStandFirst_127 ?_
        exact ⟨_, rfl, by omega, Ih9⟩
      ·
        refine sx_aload_n dX7_canStandFirst_88 rfl ?_
        refine sx_getS (k := 0) (t := 190) cl_7 fl_X7_12 dX7_canStandFirst_89 s_189 (by decide) rfl (by decide) ?_
        refine sx_callVz lk_X7_96 cl_10 s_190 (by decide) dX7_canStandFirst_92 (vs := []) rfl rfl (Nat.le_of_ble_eq_true rfl) (Nat.le_of_ble_eq_true rfl) rfl (c_X10_endsWell_190 _ Ih9.1) (fun x18 h17 zx18 ph17 => ?_)
        subst ph17
        refine sx_if_eq (tgt := 126) dX7_canStandFirst_95 (by decide) (fun c19 => ?_) (fun c19 => ?_)
        ·
          refine sx_iconst dX7_canStandFirst_126 ⟨by decide, by decide⟩ ?_
          refine sx_ireturn dX7_canStandFirst_127 ?_
          exact ⟨_, rfl, by omega, Ih9⟩
        ·
          refine sx_aload_n dX7_canStandFirst_98 rfl ?_
          refine sx_getS (k := 0) (t := 190) cl_7 fl_X7_12 dX7_canStandFirst_99 s_189 (by decide) rfl (by decide) ?_
          refine sx_getI (k := 3) cl_10 fl_X7_100 dX7_canStandFirst_102 s_190 (by decide) rfl (by decide) ?_
          have r20 : (0 : Int) ≤ h9 190 3 ∧ h9 190 3 ≤ 2147483647 := Ih9.1.1 190 3
          refine sx_iconst dX7_canStandFirst_105 ⟨by decide, by decide⟩ ?_
          refine sx_icmp_gt (tgt := 126) dX7_canStandFirst_106 (by decide) (fun c21 => ?_) (fun c21 => ?_)
          ·
            refine sx_iconst dX7_canStandFirst_126 ⟨by decide, by decide⟩ ?_
            refine sx_ireturn dX7_canStandFirst_127 ?_
            exact ⟨_, rfl, by omega, Ih9⟩
          ·
            refine sx_iconst dX7_canStandFirst_109 ⟨by decide, by decide⟩ ?_
            refine sx_aload_n dX7_canStandFirst_110 rfl ?_
            refine sx_getS (k := 0) (t := 190) cl_7 fl_X7_12 dX7_canStandFirst_111 s_189 (by decide) rfl (by decide) ?_
            refine sx_getI (k := 1) cl_10 fl_X7_103 dX7_canStandFirst_114 s_190 (by decide) rfl (by decide) ?_
            refine sx_iadd dX7_canStandFirst_117 ?_
            refine sx_iconst dX7_canStandFirst_118 ⟨by decide, by decide⟩ ?_
            refine sx_icmp_lt (tgt := 126) dX7_canStandFirst_119 (by decide) (fun c22 => ?_) (fun c22 => ?_)
            ·
              refine sx_iconst dX7_canStandFirst_126 ⟨by decide, by decide⟩ ?_
              refine sx_ireturn dX7_canStandFirst_127 ?_
              exact ⟨_, rfl, by omega, Ih9⟩
            ·
              refine sx_iconst dX7_canStandFirst_122 ⟨by decide, by decide⟩ ?_
              refine sx_goto (tgt := 127) dX7_canStandFirst_123 (by decide) ?_
              refine sx_ireturn dX7_canStandFirst_127 ?_
              exact ⟨_, rfl, by omega, Ih9⟩
    ·
      refine sx_iload dX7_canStandFirst_49 rfl ?_
      refine sx_if_ne (tgt := 83) dX7_canStandFirst_51 (by decide) (fun c23 => ?_) (fun c23 => ?_)
      ·
        refine sx_iload dX7_canStandFirst_83 rfl ?_
        refine sx_if_ne (tgt := 126) dX7_canStandFirst_85 (by decide) (fun c24 => ?_) (fun c24 => ?_)
        ·
          refine sx_iconst dX7_canStandFirst_126 ⟨by decide, by decide⟩ ?_
          refine sx_ireturn dX7_canStandFirst_127 ?_
          exact ⟨_, rfl, by omega, Ih9⟩
        ·
          refine sx_aload_n dX7_canStandFirst_88 rfl ?_
          refine sx_getS (k := 0) (t := 190) cl_7 fl_X7_12 dX7_canStandFirst_89 s_189 (by decide) rfl (by decide) ?_
          refine sx_callVz lk_X7_96 cl_10 s_190 (by decide) dX7_canStandFirst_92 (vs := []) rfl rfl (Nat.le_of_ble_eq_true rfl) (Nat.le_of_ble_eq_true rfl) rfl (c_X10_endsWell_190 _ Ih9.1) (fun x26 h25 zx26 ph25 => ?_)
          subst ph25
          refine sx_if_eq (tgt := 126) dX7_canStandFirst_95 (by decide) (fun c27 => ?_) (fun c27 => ?_)
          ·
            refine sx_iconst dX7_canStandFirst_126 ⟨by decide, by decide⟩ ?_
            refine sx_ireturn dX7_canStandFirst_127 ?_
            exact ⟨_, rfl, by omega, Ih9⟩
          ·
            refine sx_aload_n dX7_canStandFirst_98 rfl ?_
            refine sx_getS (k := 0) (t := 190) cl_7 fl_X7_12 dX7_canStandFirst_99 s_189 (by decide) rfl (by decide) ?_
            refine sx_getI (k := 3) cl_10 fl_X7_100 dX7_canStandFirst_102 s_190 (by decide) rfl (by decide) ?_
            have r28 : (0 : Int) ≤ h9 190 3 ∧ h9 190 3 ≤ 2147483647 := Ih9.1.1 190 3
            refine sx_iconst dX7_canStandFirst_105 ⟨by decide, by decide⟩ ?_
            refine sx_icmp_gt (tgt := 126) dX7_canStandFirst_106 (by decide) (fun c29 => ?_) (fun c29 => ?_)
            ·
              refine sx_iconst dX7_canStandFirst_126 ⟨by decide, by decide⟩ ?_
              refine sx_ireturn dX7_canStandFirst_127 ?_
              exact ⟨_, rfl, by omega, Ih9⟩
            ·
              refine sx_iconst dX7_canStandFirst_109 ⟨by decide, by decide⟩ ?_
              refine sx_aload_n dX7_canStandFirst_110 rfl ?_
              refine sx_getS (k := 0) (t := 190) cl_7 fl_X7_12 dX7_canStandFirst_111 s_189 (by decide) rfl (by decide) ?_
              refine sx_getI (k := 1) cl_10 fl_X7_103 dX7_canStandFirst_114 s_190 (by decide) rfl (by decide) ?_
              refine sx_iadd dX7_canStandFirst_117 ?_
              refine sx_iconst dX7_canStandFirst_118 ⟨by decide, by decide⟩ ?_
              refine sx_icmp_lt (tgt := 126) dX7_canStandFirst_119 (by decide) (fun c30 => ?_) (fun c30 => ?_)
              ·
                refine sx_iconst dX7_canStandFirst_126 ⟨by decide, by decide⟩ ?_
                refine sx_ireturn dX7_canStandFirst_127 ?_
                exact ⟨_, rfl, by omega, Ih9⟩
              ·
                refine sx_iconst dX7_canStandFirst_122 ⟨by decide, by decide⟩ ?_
                refine sx_goto (tgt := 127) dX7_canStandFirst_123 (by decide) ?_
                refine sx_ireturn dX7_canStandFirst_127 ?_
                exact ⟨_, rfl, by omega, Ih9⟩
      ·
        refine sx_aload_n dX7_canStandFirst_54 rfl ?_
        refine sx_getS (k := 0) (t := 190) cl_7 fl_X7_12 dX7_canStandFirst_55 s_189 (by decide) rfl (by decide) ?_
        refine sx_aload_n dX7_canStandFirst_58 rfl ?_
        refine sx_getS (k := 5) (t := 2) cl_0 fl_X7_71 dX7_canStandFirst_59 s_1 (by decide) rfl (by decide) ?_
        refine sx_iload dX7_canStandFirst_62 rfl ?_
        refine sx_iaload dX7_canStandFirst_64 s_2 (by decide) (by decide) ⟨by omega, by omega⟩ ?_
        refine sx_aload_n dX7_canStandFirst_65 rfl ?_
        refine sx_getS (k := 6) (t := 3) cl_0 fl_X7_93 dX7_canStandFirst_66 s_1 (by decide) rfl (by decide) ?_
        refine sx_iload dX7_canStandFirst_69 rfl ?_
        refine sx_iaload dX7_canStandFirst_71 s_3 (by decide) (by decide) ⟨by omega, by omega⟩ ?_
        refine sx_callVi lk_X7_89 cl_10 s_190 (by decide) dX7_canStandFirst_72 (vs := [_, _]) rfl rfl (Nat.le_of_ble_eq_true rfl) (Nat.le_of_ble_eq_true rfl) rfl (c_X10_pass_190_1 _ Ih9.1 (by omega) _ _) (fun x32 h31 ph31 => ?_)
        obtain ⟨Kh31, f_h31⟩ := ph31
        have Ih31 := Ih9.tr Kh31 sb_prU_prT
        have th31_190_0 := Kh31.2 (190) 0 rfl
        refine sx_istore dX7_canStandFirst_75 (by decide) ?_
        refine sx_iinc dX7_canStandFirst_77 (by decide) rfl ?_
        rw [sw_w_id (by omega) (by omega)]
        refine sx_goto (tgt := 36) dX7_canStandFirst_80 (by decide) ?_
        exact ihh9 _ _ _ ⟨Ih31, by omega, by omega⟩ (by exact sy_dec (by omega) (by omega))
  · exact ⟨Ih5, by omega, by omega⟩
set_option maxRecDepth 20000 in
set_option maxHeartbeats 4000000 in
theorem c_X7_collect_1 {G : sw_G} (d : Nat) {h0 : sw_H} (hJ : cJ h0) (k : Int) : sw_E G NH SH (d + 19) mX7_collect 0 [some (sw_r 189), some (sw_r 1), some (sw_i k), none, none] [] h0 (sw_Qi (fun z h' => cK prG h0 h' ∧ z ≤ 15 ∧ (z ≠ 0 → 1 ≤ h0 1 0))) := by
  have hI : cK prG h0 h0 := cK.refl hJ
  have rw : (0 : Int) ≤ h0 1 0 ∧ h0 1 0 ≤ 6 := hI.1.1 1 0
  refine sx_aload_n dX7_collect_0 rfl ?_
  refine sx_iconst dX7_collect_1 ⟨by decide, by decide⟩ ?_
  refine sy_putI (k := 10) cl_7 fl_X7_59 dX7_collect_2 s_189 (by decide) rfl (by decide) rfl rfl (fun h1 eh1 => ?_)
  have Ih1 := hI.up eh1 (show (0 : Int) ≤ _ ∧ _ ≤ (15 : Int) from ⟨by omega, by omega⟩) rfl rfl
  have th1_189_10 := eh1.1
  have th1_1_0 := eh1.2 (1) 0 (by decide)
  refine sx_aload_n dX7_collect_5 rfl ?_
  refine sx_getI (k := 0) cl_0 fl_X7_62 dX7_collect_6 s_1 (by decide) rfl (by decide) ?_
  have r2 : (0 : Int) ≤ h1 1 0 ∧ h1 1 0 ≤ 6 := Ih1.1.1 1 0
  refine sx_iconst dX7_collect_9 ⟨by decide, by decide⟩ ?_
  refine sx_isub dX7_collect_10 ?_
  refine sy_topw (by omega) ?_
  refine sy_top (fun v3 ev3 => ?_)
  refine sx_istore_n dX7_collect_11 (by decide) ?_
  refine sx_iload_n dX7_collect_12 rfl ?_
  refine sx_if_lt (tgt := 40) dX7_collect_13 (by decide) (fun c4 => ?_) (fun c4 => ?_)
  ·
    refine sx_iconst dX7_collect_40 ⟨by decide, by decide⟩ ?_
    refine sx_ireturn dX7_collect_41 ?_
    exact ⟨_, rfl, ⟨Ih1, by omega, fun q => by omega⟩⟩
  ·
    refine sx_aload_n dX7_collect_16 rfl ?_
    refine sx_iload_n dX7_collect_17 rfl ?_
    refine sx_iconst dX7_collect_18 ⟨by decide, by decide⟩ ?_
    refine sx_callVz lk_X7_67 cl_0 s_1 (by decide) dX7_collect_19 (vs := [_, _]) rfl rfl (Nat.le_of_ble_eq_true rfl) (Nat.le_of_ble_eq_true rfl) rfl (c_X0_hasItem_1 _ Ih1.1 _ _) (fun x6 h5 zx6 ph5 => ?_)
    obtain ⟨rfl, w_x6⟩ := ph5
    refine sx_if_eq (tgt := 40) dX7_collect_22 (by decide) (fun c7 => ?_) (fun c7 => ?_)
    ·
      refine sx_iconst dX7_collect_40 ⟨by decide, by decide⟩ ?_
      refine sx_ireturn dX7_collect_41 ?_
      exact ⟨_, rfl, ⟨Ih1, by omega, fun q => by omega⟩⟩
    ·
      refine sx_aload_n dX7_collect_25 rfl ?_
      refine sx_getS (k := 5) (t := 2) cl_0 fl_X7_71 dX7_collect_26 s_1 (by decide) rfl (by decide) ?_
      refine sx_aload_n dX7_collect_29 rfl ?_
      refine sx_getS (k := 9) (t := 6) cl_0 fl_X7_74 dX7_collect_30 s_1 (by decide) rfl (by decide) ?_
      refine sx_iload_n dX7_collect_33 rfl ?_
      refine sy_iaF (F := fun z => (0 : Int) ≤ z ∧ z ≤ 60) dX7_collect_34 s_6 (by decide) (by decide) ⟨by omega, by omega⟩ (Ih1.1.1 6 _) (fun r8 => ?_)
      have rs : (0 : Int) ≤ h1 6 (v3 + 1).toNat ∧ h1 6 (v3 + 1).toNat ≤ 60 := Ih1.1.1 6 _
      refine sx_iaload dX7_collect_35 s_2 (by decide) (by decide) ⟨by omega, by omega⟩ ?_
      refine sx_iconst dX7_collect_36 ⟨by decide, by decide⟩ ?_
      refine sx_icmp_le (tgt := 42) dX7_collect_37 (by decide) (fun c9 => ?_) (fun c9 => ?_)
      ·
        refine sx_iconst dX7_collect_42 ⟨by decide, by decide⟩ ?_
        refine sx_istore dX7_collect_43 (by decide) ?_
        refine sx_loop1 (fun (h : sw_H) (t : Int) => (cK prG h0 h) ∧ (h 1 0 = h0 1 0) ∧ (0 ≤ t) ∧ (h 189 10 ≤ t) ∧ (t ≤ 15)) (fun (h : sw_H) (t : Int) => (15 - t).toNat) (fun (h : sw_H) (t : Int) => sw_E G NH SH (d + 19) mX7_collect 45 [some (sw_r 189), some (sw_r 1), some (sw_i k), some (sw_i v3), some (sw_i t)] [] h (sw_Qi (fun z h' => cK prG h0 h' ∧ z ≤ 15 ∧ (z ≠ 0 → 1 ≤ h0 1 0)))) ?_ _ _ ?_
        · rintro h10 t_11 ⟨Ih10, j12, j13, j14, j15⟩ ihh10
          try dsimp only at ihh10
          refine sx_iload dX7_collect_45 rfl ?_
          refine sx_bipush dX7_collect_47 ⟨by decide, by decide, by decide⟩ ?_
          refine sx_icmp_ge (tgt := 100) dX7_collect_49 (by decide) (fun c16 => ?_) (fun c16 => ?_)
          ·
            refine sx_aload_n dX7_collect_100 rfl ?_
            refine sx_getI (k := 10) cl_7 fl_X7_59 dX7_collect_101 s_189 (by decide) rfl (by decide) ?_
            have r17 : (0 : Int) ≤ h10 189 10 ∧ h10 189 10 ≤ 15 := Ih10.1.1 189 10
            refine sx_ireturn dX7_collect_104 ?_
            exact ⟨_, rfl, ⟨Ih10, by omega, fun q => by omega⟩⟩
          ·
            refine sx_aload_n dX7_collect_52 rfl ?_
            refine sx_aload_n dX7_collect_53 rfl ?_
            refine sx_iload dX7_collect_54 rfl ?_
            refine sx_callVz lk_X7_77 cl_7 s_189 (by decide) dX7_collect_56 (vs := [_, _]) rfl rfl (Nat.le_of_ble_eq_true rfl) (Nat.le_of_ble_eq_true rfl) rfl (c_X7_canStandFirst_1 _ Ih10.1 _ (by omega)) (fun x19 h18 zx19 ph18 => ?_)
            have Kh18 := ph18
            have Ih18 := Ih10.tr Kh18 sb_prG_prU
            have th18_189_10 := Kh18.2 (189) 10 rfl
            have th18_1_0 := Kh18.2 (1) 0 rfl
            refine sx_if_eq (tgt := 94) dX7_collect_59 (by decide) (fun c20 => ?_) (fun c20 => ?_)
            ·
              refine sx_iinc dX7_collect_94 (by decide) rfl ?_
              rw [sw_w_id (by omega) (by omega)]
              refine sx_goto (tgt := 45) dX7_collect_97 (by decide) ?_
              exact ihh10 _ _ ⟨Ih18, by omega, by omega, by omega, by omega⟩ (by exact sy_dec (by omega) (by omega))
            ·
              refine sx_aload_n dX7_collect_62 rfl ?_
              refine sx_aload_n dX7_collect_63 rfl ?_
              refine sx_iload dX7_collect_64 rfl ?_
              refine sx_iload_n dX7_collect_66 rfl ?_
              refine sx_callVz lk_X7_81 cl_7 s_189 (by decide) dX7_collect_67 (vs := [_, _, _]) rfl rfl (Nat.le_of_ble_eq_true rfl) (Nat.le_of_ble_eq_true rfl) rfl (c_X7_agreesWithAll_1 _ Ih18.1 _ _ (by omega)) (fun x22 h21 zx22 ph21 => ?_)
              have Kh21 := ph21
              have Ih21 := Ih18.tr Kh21 sb_prG_prD
              have th21_189_10 := Kh21.2 (189) 10 rfl
              have th21_1_0 := Kh21.2 (1) 0 rfl
              refine sx_if_eq (tgt := 94) dX7_collect_70 (by decide) (fun c23 => ?_) (fun c23 => ?_)
              ·
                refine sx_iinc dX7_collect_94 (by decide) rfl ?_
                rw [sw_w_id (by omega) (by omega)]
                refine sx_goto (tgt := 45) dX7_collect_97 (by decide) ?_
                exact ihh10 _ _ ⟨Ih21, by omega, by omega, by omega, by omega⟩ (by exact sy_dec (by omega) (by omega))
              ·
                refine sx_aload_n dX7_collect_73 rfl ?_
                refine sx_getS (k := 9) (t := 213) cl_7 fl_X7_49 dX7_collect_74 s_189 (by decide) rfl (by decide) ?_
                refine sx_aload_n dX7_collect_77 rfl ?_
                refine sx_getI (k := 10) cl_7 fl_X7_59 dX7_collect_78 s_189 (by decide) rfl (by decide) ?_
                have r24 : (0 : Int) ≤ h21 189 10 ∧ h21 189 10 ≤ 15 := Ih21.1.1 189 10
                refine sx_iload dX7_collect_81 rfl ?_
                refine sy_iastore dX7_collect_83 s_213 (by decide) (by decide) ⟨by omega, by omega⟩ (fun h25 eh25 => ?_)
                have Ih25 := Ih21.up eh25 (show (0 : Int) ≤ _ ∧ _ ≤ (14 : Int) from ⟨by omega, by omega⟩) rfl rfl
                have th25_189_10 := eh25.2 (189) 10 (by omega)
                have th25_1_0 := eh25.2 (1) 0 (by omega)
                refine sx_aload_n dX7_collect_84 rfl ?_
                refine sx_dupr dX7_collect_85 ?_
                refine sx_getI (k := 10) cl_7 fl_X7_59 dX7_collect_86 s_189 (by decide) rfl (by decide) ?_
                have r26 : (0 : Int) ≤ h25 189 10 ∧ h25 189 10 ≤ 15 := Ih25.1.1 189 10
                refine sx_iconst dX7_collect_89 ⟨by decide, by decide⟩ ?_
                refine sx_iadd dX7_collect_90 ?_
                refine sy_topw (by omega) ?_
                refine sy_putI (k := 10) cl_7 fl_X7_59 dX7_collect_91 s_189 (by decide) rfl (by decide) rfl rfl (fun h27 eh27 => ?_)
                have Ih27 := Ih25.up eh27 (show (0 : Int) ≤ _ ∧ _ ≤ (15 : Int) from ⟨by omega, by omega⟩) rfl rfl
                have th27_189_10 := eh27.1
                have th27_1_0 := eh27.2 (1) 0 (by decide)
                refine sx_iinc dX7_collect_94 (by decide) rfl ?_
                rw [sw_w_id (by omega) (by omega)]
                refine sx_goto (tgt := 45) dX7_collect_97 (by decide) ?_
                exact ihh10 _ _ ⟨Ih27, by omega, by omega, by omega, by omega⟩ (by exact sy_dec (by omega) (by omega))
        · exact ⟨Ih1, by omega, by omega, by omega, by omega⟩
      ·
        refine sx_iconst dX7_collect_40 ⟨by decide, by decide⟩ ?_
        refine sx_ireturn dX7_collect_41 ?_
        exact ⟨_, rfl, ⟨Ih1, by omega, fun q => by omega⟩⟩
set_option maxRecDepth 20000 in
set_option maxHeartbeats 4000000 in
theorem c_X7_leftAtMost_1 {G : sw_G} (d : Nat) {h0 : sw_H} (hJ : cJ h0) (n : Int) (hw : 1 ≤ h0 1 0) : sw_E G NH SH (d + 18) mX7_leftAtMost 0 [some (sw_r 189), some (sw_r 1), some (sw_i n), none, none, none, none] [] h0 (sw_Qi (fun z h' => cK prG h0 h')) := by
  have hI : cK prG h0 h0 := cK.refl hJ
  refine sx_iconst dX7_leftAtMost_0 ⟨by decide, by decide⟩ ?_
  refine sx_istore_n dX7_leftAtMost_1 (by decide) ?_
  refine sx_iconst dX7_leftAtMost_2 ⟨by decide, by decide⟩ ?_
  refine sx_istore dX7_leftAtMost_3 (by decide) ?_
  refine sx_loop2 (fun (h : sw_H) (m : Int) (i : Int) => (cK prG h0 h) ∧ (h 1 0 = h0 1 0) ∧ (0 ≤ i)) (fun (h : sw_H) (m : Int) (i : Int) => (15 - i).toNat) (fun (h : sw_H) (m : Int) (i : Int) => sw_E G NH SH (d + 18) mX7_leftAtMost 5 [some (sw_r 189), some (sw_r 1), some (sw_i n), some (sw_i m), some (sw_i i), none, none] [] h (sw_Qi (fun z h' => cK prG h0 h'))) ?_ _ _ _ ?_
  · rintro h1 m_2 i_3 ⟨Ih1, j4, j5⟩ ihh1
    try dsimp only at ihh1
    refine sx_iload dX7_leftAtMost_5 rfl ?_
    refine sx_aload_n dX7_leftAtMost_7 rfl ?_
    refine sx_getI (k := 10) cl_7 fl_X7_59 dX7_leftAtMost_8 s_189 (by decide) rfl (by decide) ?_
    have r6 : (0 : Int) ≤ h1 189 10 ∧ h1 189 10 ≤ 15 := Ih1.1.1 189 10
    refine sx_icmp_ge (tgt := 93) dX7_leftAtMost_11 (by decide) (fun c7 => ?_) (fun c7 => ?_)
    ·
      refine sx_iload_n dX7_leftAtMost_93 rfl ?_
      refine sx_ireturn dX7_leftAtMost_94 ?_
      exact ⟨_, rfl, Ih1⟩
    ·
      refine sx_aload_n dX7_leftAtMost_14 rfl ?_
      refine sx_getS (k := 11) (t := 214) cl_7 fl_X7_52 dX7_leftAtMost_15 s_189 (by decide) rfl (by decide) ?_
      refine sx_iload dX7_leftAtMost_18 rfl ?_
      refine sx_aload_n dX7_leftAtMost_20 rfl ?_
      refine sx_aload_n dX7_leftAtMost_21 rfl ?_
      refine sx_aload_n dX7_leftAtMost_22 rfl ?_
      refine sx_getS (k := 9) (t := 213) cl_7 fl_X7_49 dX7_leftAtMost_23 s_189 (by decide) rfl (by decide) ?_
      refine sx_iload dX7_leftAtMost_26 rfl ?_
      refine sy_iaF (F := fun z => (0 : Int) ≤ z ∧ z ≤ 14) dX7_leftAtMost_28 s_213 (by decide) (by decide) ⟨by omega, by omega⟩ (Ih1.1.1 213 _) (fun r8 => ?_)
      refine sx_iload_n dX7_leftAtMost_29 rfl ?_
      refine sx_callVi lk_X7_109 cl_7 s_189 (by decide) dX7_leftAtMost_30 (vs := [_, _, _]) rfl rfl (Nat.le_of_ble_eq_true rfl) (Nat.le_of_ble_eq_true rfl) rfl (c_X7_topFor_1 _ Ih1.1 _ _ (by omega)) (fun x10 h9 ph9 => ?_)
      have Kh9 := ph9
      have Ih9 := Ih1.tr Kh9 sb_prG_prD
      have th9_1_0 := Kh9.2 (1) 0 rfl
      refine sy_iastore dX7_leftAtMost_33 s_214 (by decide) (by decide) ⟨by omega, by omega⟩ (fun h11 eh11 => ?_)
      have Ih11 := Ih9.up eh11 trivial rfl rfl
      have th11_1_0 := eh11.2 (1) 0 (by omega)
      refine sx_iconst dX7_leftAtMost_34 ⟨by decide, by decide⟩ ?_
      refine sx_istore dX7_leftAtMost_35 (by decide) ?_
      refine sx_iconst dX7_leftAtMost_37 ⟨by decide, by decide⟩ ?_
      refine sx_istore dX7_leftAtMost_38 (by decide) ?_
      refine sx_loop2 (fun (h : sw_H) (l : Int) (j : Int) => (cK prG h0 h) ∧ (h 1 0 = h0 1 0) ∧ (0 ≤ j)) (fun (h : sw_H) (l : Int) (j : Int) => (15 - j).toNat) (fun (h : sw_H) (l : Int) (j : Int) => sw_E G NH SH (d + 18) mX7_leftAtMost 40 [some (sw_r 189), some (sw_r 1), some (sw_i n), some (sw_i m_2), some (sw_i i_3), some (sw_i l), some (sw_i j)] [] h (sw_Qi (fun z h' => cK prG h0 h'))) ?_ _ _ _ ?_
      · rintro h12 l_13 j_14 ⟨Ih12, j15, j16⟩ ihh12
        try dsimp only at ihh12
        refine sx_iload dX7_leftAtMost_40 rfl ?_
        refine sx_iload dX7_leftAtMost_42 rfl ?_
        refine sx_icmp_gt (tgt := 80) dX7_leftAtMost_44 (by decide) (fun c17 => ?_) (fun c17 => ?_)
        ·
          refine sx_iload_n dX7_leftAtMost_80 rfl ?_
          refine sx_iload dX7_leftAtMost_81 rfl ?_
          refine sx_max lm_X7_134 lw_max dX7_leftAtMost_83 (Nat.le_of_ble_eq_true rfl) ?_
          refine sy_max (fun m18 em18 fm18 gm18 => ?_)
          refine sy_top (fun v19 ev19 => ?_)
          refine sx_istore_n dX7_leftAtMost_86 (by decide) ?_
          refine sx_iinc dX7_leftAtMost_87 (by decide) rfl ?_
          rw [sw_w_id (by omega) (by omega)]
          refine sx_goto (tgt := 5) dX7_leftAtMost_90 (by decide) ?_
          refine sx_kill 5 ?_
          refine sx_kill 6 ?_
          exact ihh1 _ _ _ ⟨Ih12, by omega, by omega⟩ (by exact sy_dec (by omega) (by omega))
        ·
          refine sx_iload dX7_leftAtMost_47 rfl ?_
          refine sx_aload_n dX7_leftAtMost_49 rfl ?_
          refine sx_getS (k := 11) (t := 214) cl_7 fl_X7_52 dX7_leftAtMost_50 s_189 (by decide) rfl (by decide) ?_
          refine sx_iload dX7_leftAtMost_53 rfl ?_
          refine sx_iaload dX7_leftAtMost_55 s_214 (by decide) (by decide) ⟨by omega, by omega⟩ ?_
          refine sx_aload_n dX7_leftAtMost_56 rfl ?_
          refine sx_getS (k := 11) (t := 214) cl_7 fl_X7_52 dX7_leftAtMost_57 s_189 (by decide) rfl (by decide) ?_
          refine sx_iload dX7_leftAtMost_60 rfl ?_
          refine sx_iaload dX7_leftAtMost_62 s_214 (by decide) (by decide) ⟨by omega, by omega⟩ ?_
          refine sx_icmp_ne (tgt := 70) dX7_leftAtMost_63 (by decide) (fun c20 => ?_) (fun c20 => ?_)
          ·
            refine sx_iconst dX7_leftAtMost_70 ⟨by decide, by decide⟩ ?_
            refine sx_iadd dX7_leftAtMost_71 ?_
            refine sy_top (fun v21 ev21 => ?_)
            refine sx_istore dX7_leftAtMost_72 (by decide) ?_
            refine sx_iinc dX7_leftAtMost_74 (by decide) rfl ?_
            rw [sw_w_id (by omega) (by omega)]
            refine sx_goto (tgt := 40) dX7_leftAtMost_77 (by decide) ?_
            exact ihh12 _ _ _ ⟨Ih12, by omega, by omega⟩ (by exact sy_dec (by omega) (by omega))
          ·
            refine sx_iconst dX7_leftAtMost_66 ⟨by decide, by decide⟩ ?_
            refine sx_goto (tgt := 71) dX7_leftAtMost_67 (by decide) ?_
            refine sx_iadd dX7_leftAtMost_71 ?_
            refine sy_top (fun v22 ev22 => ?_)
            refine sx_istore dX7_leftAtMost_72 (by decide) ?_
            refine sx_iinc dX7_leftAtMost_74 (by decide) rfl ?_
            rw [sw_w_id (by omega) (by omega)]
            refine sx_goto (tgt := 40) dX7_leftAtMost_77 (by decide) ?_
            exact ihh12 _ _ _ ⟨Ih12, by omega, by omega⟩ (by exact sy_dec (by omega) (by omega))
      · exact ⟨Ih11, by omega, by omega⟩
  · exact ⟨hI, by omega, by omega⟩
set_option maxRecDepth 20000 in
set_option maxHeartbeats 4000000 in
theorem c_X7_nextToTry_1 {G : sw_G} (d : Nat) {h0 : sw_H} (hJ : cJ h0) (n : Int) (hw : 1 ≤ h0 1 0) : sw_E G NH SH (d + 19) mX7_nextToTry 0 [some (sw_r 189), some (sw_r 1), some (sw_i n), none, none, none, none] [] h0 (sw_Qi (fun z h' => cK prG h0 h')) := by
  have hI : cK prG h0 h0 := cK.refl hJ
  refine sx_iconst dX7_nextToTry_0 ⟨by decide, by decide⟩ ?_
  refine sx_istore_n dX7_nextToTry_1 (by decide) ?_
  refine sx_ldc kc_X7_129 ⟨by decide, by decide⟩ dX7_nextToTry_2 ?_
  refine sx_istore dX7_nextToTry_4 (by decide) ?_
  refine sx_iconst dX7_nextToTry_6 ⟨by decide, by decide⟩ ?_
  refine sx_istore dX7_nextToTry_7 (by decide) ?_
  refine sx_loop3 (fun (h : sw_H) (a : Int) (b : Int) (q : Int) => (cK prG h0 h) ∧ (h 1 0 = h0 1 0) ∧ (0 ≤ q)) (fun (h : sw_H) (a : Int) (b : Int) (q : Int) => (10 - q).toNat) (fun (h : sw_H) (a : Int) (b : Int) (q : Int) => sw_E G NH SH (d + 19) mX7_nextToTry 9 [some (sw_r 189), some (sw_r 1), some (sw_i n), some (sw_i a), some (sw_i b), some (sw_i q), none] [] h (sw_Qi (fun z h' => cK prG h0 h'))) ?_ _ _ _ _ ?_
  · rintro h1 a_2 b_3 q_4 ⟨Ih1, j5, j6⟩ ihh1
    try dsimp only at ihh1
    refine sx_iload dX7_nextToTry_9 rfl ?_
    refine sx_bipush dX7_nextToTry_11 ⟨by decide, by decide, by decide⟩ ?_
    refine sx_icmp_gt (tgt := 50) dX7_nextToTry_13 (by decide) (fun c7 => ?_) (fun c7 => ?_)
    ·
      refine sx_iload_n dX7_nextToTry_50 rfl ?_
      refine sx_ireturn dX7_nextToTry_51 ?_
      exact ⟨_, rfl, Ih1⟩
    ·
      refine sx_aload_n dX7_nextToTry_16 rfl ?_
      refine sx_aload_n dX7_nextToTry_17 rfl ?_
      refine sx_iload_n dX7_nextToTry_18 rfl ?_
      refine sx_bipush dX7_nextToTry_19 ⟨by decide, by decide, by decide⟩ ?_
      refine sx_imul dX7_nextToTry_21 ?_
      refine sx_iload dX7_nextToTry_22 rfl ?_
      refine sx_iadd dX7_nextToTry_24 ?_
      refine sx_callVi lk_X7_130 cl_7 s_189 (by decide) dX7_nextToTry_25 (vs := [_, _]) rfl rfl (Nat.le_of_ble_eq_true rfl) (Nat.le_of_ble_eq_true rfl) rfl (c_X7_leftAtMost_1 _ Ih1.1 _ (by omega)) (fun x9 h8 ph8 => ?_)
      have Kh8 := ph8
      have Ih8 := Ih1.tr Kh8 sb_prG_prG
      have th8_1_0 := Kh8.2 (1) 0 rfl
      refine sx_istore dX7_nextToTry_28 (by decide) ?_
      refine sx_iload dX7_nextToTry_30 rfl ?_
      refine sx_iload dX7_nextToTry_32 rfl ?_
      refine sx_icmp_ge (tgt := 44) dX7_nextToTry_34 (by decide) (fun c10 => ?_) (fun c10 => ?_)
      ·
        refine sx_iinc dX7_nextToTry_44 (by decide) rfl ?_
        rw [sw_w_id (by omega) (by omega)]
        refine sx_goto (tgt := 9) dX7_nextToTry_47 (by decide) ?_
        refine sx_kill 6 ?_
        exact ihh1 _ _ _ _ ⟨Ih8, by omega, by omega⟩ (by exact sy_dec (by omega) (by omega))
      ·
        refine sx_iload dX7_nextToTry_37 rfl ?_
        refine sx_istore dX7_nextToTry_39 (by decide) ?_
        refine sx_iload dX7_nextToTry_41 rfl ?_
        refine sx_istore_n dX7_nextToTry_43 (by decide) ?_
        refine sx_iinc dX7_nextToTry_44 (by decide) rfl ?_
        rw [sw_w_id (by omega) (by omega)]
        refine sx_goto (tgt := 9) dX7_nextToTry_47 (by decide) ?_
        refine sx_kill 6 ?_
        exact ihh1 _ _ _ _ ⟨Ih8, by omega, by omega⟩ (by exact sy_dec (by omega) (by omega))
  · exact ⟨hI, by omega, by omega⟩
set_option maxRecDepth 20000 in
set_option maxHeartbeats 4000000 in
theorem c_X7_topFor_13 {G : sw_G} (d : Nat) {h0 : sw_H} (hJ : cJ h0) (t n : Int) (hw : 1 ≤ h0 13 0) : sw_E G NH SH (d + 17) mX7_topFor 0 [some (sw_r 189), some (sw_r 13), some (sw_i t), some (sw_i n), none] [] h0 (sw_Qi (fun z h' => cK prD h0 h')) := by
  have hI : cK prD h0 h0 := cK.refl hJ
  have rw : (0 : Int) ≤ h0 13 0 ∧ h0 13 0 ≤ 6 := hI.1.1 13 0
  refine sx_aload_n dX7_topFor_0 rfl ?_
  refine sx_getI (k := 0) cl_0 fl_X7_62 dX7_topFor_1 s_13 (by decide) rfl (by decide) ?_
  have r1 : (0 : Int) ≤ h0 13 0 ∧ h0 13 0 ≤ 6 := hI.1.1 13 0
  refine sx_iconst dX7_topFor_4 ⟨by decide, by decide⟩ ?_
  refine sx_isub dX7_topFor_5 ?_
  refine sy_topw (by omega) ?_
  refine sy_top (fun v2 ev2 => ?_)
  refine sx_istore dX7_topFor_6 (by decide) ?_
  refine sx_aload_n dX7_topFor_8 rfl ?_
  refine sx_getS (k := 2) (t := 205) cl_7 fl_X7_28 dX7_topFor_9 s_189 (by decide) rfl (by decide) ?_
  refine sx_iload_n dX7_topFor_12 rfl ?_
  refine sx_bipush dX7_topFor_13 ⟨by decide, by decide, by decide⟩ ?_
  refine sx_idiv dX7_topFor_15 (by omega) ?_
  refine sx_iload_n dX7_topFor_16 rfl ?_
  refine sx_bipush dX7_topFor_17 ⟨by decide, by decide, by decide⟩ ?_
  refine sx_idiv dX7_topFor_19 (by omega) ?_
  refine sx_bipush dX7_topFor_20 ⟨by decide, by decide, by decide⟩ ?_
  refine sx_irem dX7_topFor_22 (by omega) ?_
  refine sx_iload_n dX7_topFor_23 rfl ?_
  refine sx_bipush dX7_topFor_24 ⟨by decide, by decide, by decide⟩ ?_
  refine sx_irem dX7_topFor_26 (by omega) ?_
  refine sx_callVv lk_X7_113 cl_8 s_205 (by decide) dX7_topFor_27 (vs := [_, _, _]) rfl rfl (Nat.le_of_ble_eq_true rfl) (Nat.le_of_ble_eq_true rfl) rfl (c_X8_beginWith _ hI.1 (205) (by decide) _ _ _) (fun h3 ph3 => ?_)
  have Kh3 := ph3
  have Ih3 := hI.tr Kh3 sb_prD_prS
  refine sx_aload_n dX7_topFor_30 rfl ?_
  refine sx_getS (k := 2) (t := 205) cl_7 fl_X7_28 dX7_topFor_31 s_189 (by decide) rfl (by decide) ?_
  refine sx_iload_n dX7_topFor_34 rfl ?_
  refine sx_callVv lk_X7_117 cl_8 s_205 (by decide) dX7_topFor_35 (vs := [_]) rfl rfl (Nat.le_of_ble_eq_true rfl) (Nat.le_of_ble_eq_true rfl) rfl (c_X8_perform _ Ih3.1 (205) (by decide) _) (fun h5 ph5 => ?_)
  have Kh5 := ph5
  have Ih5 := Ih3.tr Kh5 sb_prD_prS
  refine sx_aload_n dX7_topFor_38 rfl ?_
  refine sx_getS (k := 1) (t := 197) cl_7 fl_X7_21 dX7_topFor_39 s_189 (by decide) rfl (by decide) ?_
  refine sx_aload_n dX7_topFor_42 rfl ?_
  refine sx_aload_n dX7_topFor_43 rfl ?_
  refine sx_getS (k := 2) (t := 205) cl_7 fl_X7_28 dX7_topFor_44 s_189 (by decide) rfl (by decide) ?_
  refine sx_aload_n dX7_topFor_47 rfl ?_
  refine sx_getS (k := 9) (t := 18) cl_0 fl_X7_74 dX7_topFor_48 s_13 (by decide) rfl (by decide) ?_
  refine sx_iload dX7_topFor_51 rfl ?_
  refine sy_iaF (F := fun z => (0 : Int) ≤ z ∧ z ≤ 60) dX7_topFor_53 s_18 (by decide) (by decide) ⟨by omega, by omega⟩ (Ih5.1.1 18 _) (fun r7 => ?_)
  refine sx_iconst dX7_topFor_54 ⟨by decide, by decide⟩ ?_
  refine sx_iadd dX7_topFor_55 ?_
  refine sy_topw (by omega) ?_
  refine sx_aload_n dX7_topFor_56 rfl ?_
  refine sx_getS (k := 9) (t := 18) cl_0 fl_X7_74 dX7_topFor_57 s_13 (by decide) rfl (by decide) ?_
  refine sx_iload dX7_topFor_60 rfl ?_
  refine sx_iconst dX7_topFor_62 ⟨by decide, by decide⟩ ?_
  refine sx_iadd dX7_topFor_63 ?_
  refine sy_topw (by omega) ?_
  refine sy_iaF (F := fun z => (0 : Int) ≤ z ∧ z ≤ 60) dX7_topFor_64 s_18 (by decide) (by decide) ⟨by omega, by omega⟩ (Ih5.1.1 18 _) (fun r8 => ?_)
  refine sx_callVv lk_X7_121 cl_4 s_197 (by decide) dX7_topFor_65 (vs := [_, _, _, _]) rfl rfl (Nat.le_of_ble_eq_true rfl) (Nat.le_of_ble_eq_true rfl) rfl (c_X4_doItems_197_13 _ Ih5.1 (205) (by decide) _ _ (by omega)) (fun h9 ph9 => ?_)
  have Kh9 := ph9
  have Ih9 := Ih5.tr Kh9 sb_prD_prD
  refine sx_aload_n dX7_topFor_68 rfl ?_
  refine sx_getS (k := 2) (t := 205) cl_7 fl_X7_28 dX7_topFor_69 s_189 (by decide) rfl (by decide) ?_
  refine sx_iconst dX7_topFor_72 ⟨by decide, by decide⟩ ?_
  refine sx_callVi lk_X7_125 cl_8 s_205 (by decide) dX7_topFor_73 (vs := [_]) rfl rfl (Nat.le_of_ble_eq_true rfl) (Nat.le_of_ble_eq_true rfl) rfl (c_X8_cellAt _ Ih9.1 (205) (by decide) _) (fun x12 h11 ph11 => ?_)
  have Kh11 := ph11
  have Ih11 := Ih9.tr Kh11 sb_prD_prS
  refine sx_ireturn dX7_topFor_76 ?_
  exact ⟨_, rfl, Ih11⟩
set_option maxRecDepth 20000 in
set_option maxHeartbeats 4000000 in
theorem c_X7_agreesWithAll_13 {G : sw_G} (d : Nat) {h0 : sw_H} (hJ : cJ h0) (t k : Int) (hw : 1 ≤ h0 13 0) : sw_E G NH SH (d + 18) mX7_agreesWithAll 0 [some (sw_r 189), some (sw_r 13), some (sw_i t), some (sw_i k), none] [] h0 (sw_Qz (fun z h' => cK prD h0 h')) := by
  have hI : cK prD h0 h0 := cK.refl hJ
  refine sx_iconst dX7_agreesWithAll_0 ⟨by decide, by decide⟩ ?_
  refine sx_istore dX7_agreesWithAll_1 (by decide) ?_
  refine sx_loop1 (fun (h : sw_H) (i : Int) => (cK prD h0 h) ∧ (h 13 0 = h0 13 0) ∧ (0 ≤ i)) (fun (h : sw_H) (i : Int) => (30 - i).toNat) (fun (h : sw_H) (i : Int) => sw_E G NH SH (d + 18) mX7_agreesWithAll 3 [some (sw_r 189), some (sw_r 13), some (sw_i t), some (sw_i k), some (sw_i i)] [] h (sw_Qz (fun z h' => cK prD h0 h'))) ?_ _ _ ?_
  · rintro h1 i_2 ⟨Ih1, j3, j4⟩ ihh1
    try dsimp only at ihh1
    refine sx_iload dX7_agreesWithAll_3 rfl ?_
    refine sx_aload_n dX7_agreesWithAll_5 rfl ?_
    refine sx_getI (k := 8) cl_7 fl_X7_55 dX7_agreesWithAll_6 s_189 (by decide) rfl (by decide) ?_
    have r5 : (0 : Int) ≤ h1 189 8 ∧ h1 189 8 ≤ 30 := Ih1.1.1 189 8
    refine sx_icmp_ge (tgt := 68) dX7_agreesWithAll_9 (by decide) (fun c6 => ?_) (fun c6 => ?_)
    ·
      refine sx_iconst dX7_agreesWithAll_68 ⟨by decide, by decide⟩ ?_
      refine sx_ireturn dX7_agreesWithAll_69 ?_
      exact ⟨_, rfl, by omega, Ih1⟩
    ·
      refine sx_aload_n dX7_agreesWithAll_12 rfl ?_
      refine sx_iload dX7_agreesWithAll_13 rfl ?_
      refine sx_iload_n dX7_agreesWithAll_15 rfl ?_
      refine sx_callVz lk_X7_106 cl_7 s_189 (by decide) dX7_agreesWithAll_16 (vs := [_, _]) rfl rfl (Nat.le_of_ble_eq_true rfl) (Nat.le_of_ble_eq_true rfl) rfl (c_X7_isKnown _ Ih1.1 _ _ (by omega)) (fun x8 h7 zx8 ph7 => ?_)
      subst ph7
      refine sx_if_eq (tgt := 62) dX7_agreesWithAll_19 (by decide) (fun c9 => ?_) (fun c9 => ?_)
      ·
        refine sx_iinc dX7_agreesWithAll_62 (by decide) rfl ?_
        rw [sw_w_id (by omega) (by omega)]
        refine sx_goto (tgt := 3) dX7_agreesWithAll_65 (by decide) ?_
        exact ihh1 _ _ ⟨Ih1, by omega, by omega⟩ (by exact sy_dec (by omega) (by omega))
      ·
        refine sx_aload_n dX7_agreesWithAll_22 rfl ?_
        refine sx_aload_n dX7_agreesWithAll_23 rfl ?_
        refine sx_iload_n dX7_agreesWithAll_24 rfl ?_
        refine sx_aload_n dX7_agreesWithAll_25 rfl ?_
        refine sx_getS (k := 3) (t := 208) cl_7 fl_X7_32 dX7_agreesWithAll_26 s_189 (by decide) rfl (by decide) ?_
        refine sx_iload dX7_agreesWithAll_29 rfl ?_
        refine sx_iaload dX7_agreesWithAll_31 s_208 (by decide) (by decide) ⟨by omega, by omega⟩ ?_
        refine sx_callVi lk_X7_109 cl_7 s_189 (by decide) dX7_agreesWithAll_32 (vs := [_, _, _]) rfl rfl (Nat.le_of_ble_eq_true rfl) (Nat.le_of_ble_eq_true rfl) rfl (c_X7_topFor_13 _ Ih1.1 _ _ (by omega)) (fun x11 h10 ph10 => ?_)
        have Kh10 := ph10
        have Ih10 := Ih1.tr Kh10 sb_prD_prD
        have th10_13_0 := Kh10.2 (13) 0 rfl
        refine sx_aload_n dX7_agreesWithAll_35 rfl ?_
        refine sx_getS (k := 4) (t := 209) cl_7 fl_X7_36 dX7_agreesWithAll_36 s_189 (by decide) rfl (by decide) ?_
        refine sx_iload dX7_agreesWithAll_39 rfl ?_
        refine sx_iaload dX7_agreesWithAll_41 s_209 (by decide) (by decide) ⟨by omega, by omega⟩ ?_
        refine sx_icmp_ne (tgt := 49) dX7_agreesWithAll_42 (by decide) (fun c12 => ?_) (fun c12 => ?_)
        ·
          refine sx_iconst dX7_agreesWithAll_49 ⟨by decide, by decide⟩ ?_
          refine sx_aload_n dX7_agreesWithAll_50 rfl ?_
          refine sx_getS (k := 5) (t := 210) cl_7 fl_X7_39 dX7_agreesWithAll_51 s_189 (by decide) rfl (by decide) ?_
          refine sx_iload dX7_agreesWithAll_54 rfl ?_
          refine sx_zaload dX7_agreesWithAll_56 s_210 (by decide) (by decide) ⟨by omega, by omega⟩ (fun b13 b14 => ?_)
          refine sx_icmp_eq (tgt := 62) dX7_agreesWithAll_57 (by decide) (fun c15 => ?_) (fun c15 => ?_)
          ·
            refine sx_iinc dX7_agreesWithAll_62 (by decide) rfl ?_
            rw [sw_w_id (by omega) (by omega)]
            refine sx_goto (tgt := 3) dX7_agreesWithAll_65 (by decide) ?_
            exact ihh1 _ _ ⟨Ih10, by omega, by omega⟩ (by exact sy_dec (by omega) (by omega))
          ·
            refine sx_iconst dX7_agreesWithAll_60 ⟨by decide, by decide⟩ ?_
            refine sx_ireturn dX7_agreesWithAll_61 ?_
            exact ⟨_, rfl, by omega, Ih10⟩
        ·
          refine sx_iconst dX7_agreesWithAll_45 ⟨by decide, by decide⟩ ?_
          refine sx_goto (tgt := 50) dX7_agreesWithAll_46 (by decide) ?_
          refine sx_aload_n dX7_agreesWithAll_50 rfl ?_
          refine sx_getS (k := 5) (t := 210) cl_7 fl_X7_39 dX7_agreesWithAll_51 s_189 (by decide) rfl (by decide) ?_
          refine sx_iload dX7_agreesWithAll_54 rfl ?_
          refine sx_zaload dX7_agreesWithAll_56 s_210 (by decide) (by decide) ⟨by omega, by omega⟩ (fun b16 b17 => ?_)
          refine sx_icmp_eq (tgt := 62) dX7_agreesWithAll_57 (by decide) (fun c18 => ?_) (fun c18 => ?_)
          ·
            refine sx_iinc dX7_agreesWithAll_62 (by decide) rfl ?_
            rw [sw_w_id (by omega) (by omega)]
            refine sx_goto (tgt := 3) dX7_agreesWithAll_65 (by decide) ?_
            exact ihh1 _ _ ⟨Ih10, by omega, by omega⟩ (by exact sy_dec (by omega) (by omega))
          ·
            refine sx_iconst dX7_agreesWithAll_60 ⟨by decide, by decide⟩ ?_
            refine sx_ireturn dX7_agreesWithAll_61 ?_
            exact ⟨_, rfl, by omega, Ih10⟩
  · exact ⟨hI, by omega, by omega⟩
set_option maxRecDepth 20000 in
set_option maxHeartbeats 4000000 in
theorem c_X7_canStandFirst_13 {G : sw_G} (d : Nat) {h0 : sw_H} (hJ : cJ h0) (t : Int) (hw : 1 ≤ h0 13 0) : sw_E G NH SH (d + 3) mX7_canStandFirst 0 [some (sw_r 189), some (sw_r 13), some (sw_i t), none, none, none] [] h0 (sw_Qz (fun z h' => cK prU h0 h')) := by
  have hI : cK prU h0 h0 := cK.refl hJ
  have rw : (0 : Int) ≤ h0 13 0 ∧ h0 13 0 ≤ 6 := hI.1.1 13 0
  refine sx_aload_n dX7_canStandFirst_0 rfl ?_
  refine sx_getI (k := 0) cl_0 fl_X7_62 dX7_canStandFirst_1 s_13 (by decide) rfl (by decide) ?_
  have r1 : (0 : Int) ≤ h0 13 0 ∧ h0 13 0 ≤ 6 := hI.1.1 13 0
  refine sx_iconst dX7_canStandFirst_4 ⟨by decide, by decide⟩ ?_
  refine sx_isub dX7_canStandFirst_5 ?_
  refine sy_topw (by omega) ?_
  refine sy_top (fun v2 ev2 => ?_)
  refine sx_istore_n dX7_canStandFirst_6 (by decide) ?_
  refine sx_aload_n dX7_canStandFirst_7 rfl ?_
  refine sx_getS (k := 0) (t := 190) cl_7 fl_X7_12 dX7_canStandFirst_8 s_189 (by decide) rfl (by decide) ?_
  refine sx_aload_n dX7_canStandFirst_11 rfl ?_
  refine sx_callVv lk_X7_85 cl_10 s_190 (by decide) dX7_canStandFirst_12 (vs := [_]) rfl rfl (Nat.le_of_ble_eq_true rfl) (Nat.le_of_ble_eq_true rfl) rfl (c_X10_begin_190_13 _ hI.1) (fun h3 ph3 => ?_)
  obtain ⟨Kh3, c_h3⟩ := ph3
  have Ih3 := hI.tr Kh3 sb_prU_prU
  refine sx_aload_n dX7_canStandFirst_15 rfl ?_
  refine sx_getS (k := 0) (t := 190) cl_7 fl_X7_12 dX7_canStandFirst_16 s_189 (by decide) rfl (by decide) ?_
  refine sx_iconst dX7_canStandFirst_19 ⟨by decide, by decide⟩ ?_
  refine sx_iload_n dX7_canStandFirst_20 rfl ?_
  refine sx_callVi lk_X7_89 cl_10 s_190 (by decide) dX7_canStandFirst_21 (vs := [_, _]) rfl rfl (Nat.le_of_ble_eq_true rfl) (Nat.le_of_ble_eq_true rfl) rfl (c_X10_pass_190_13 _ Ih3.1 (by omega) _ _) (fun x6 h5 ph5 => ?_)
  obtain ⟨Kh5, f_h5⟩ := ph5
  have Ih5 := Ih3.tr Kh5 sb_prU_prT
  have th5_190_0 := Kh5.2 (190) 0 rfl
  refine sx_istore dX7_canStandFirst_24 (by decide) ?_
  refine sx_aload_n dX7_canStandFirst_26 rfl ?_
  refine sx_getS (k := 9) (t := 18) cl_0 fl_X7_74 dX7_canStandFirst_27 s_13 (by decide) rfl (by decide) ?_
  refine sx_iload_n dX7_canStandFirst_30 rfl ?_
  refine sy_iaF (F := fun z => (0 : Int) ≤ z ∧ z ≤ 60) dX7_canStandFirst_31 s_18 (by decide) (by decide) ⟨by omega, by omega⟩ (Ih5.1.1 18 _) (fun r7 => ?_)
  refine sx_iconst dX7_canStandFirst_32 ⟨by decide, by decide⟩ ?_
  refine sx_iadd dX7_canStandFirst_33 ?_
  refine sy_topw (by omega) ?_
  refine sy_top (fun v8 ev8 => ?_)
  refine sx_istore dX7_canStandFirst_34 (by decide) ?_
  refine sx_loop2 (fun (h : sw_H) (f : Int) (i : Int) => (cK prU h0 h) ∧ (h 190 0 = 13) ∧ (0 ≤ i)) (fun (h : sw_H) (f : Int) (i : Int) => (60 - i).toNat) (fun (h : sw_H) (f : Int) (i : Int) => sw_E G NH SH (d + 3) mX7_canStandFirst 36 [some (sw_r 189), some (sw_r 13), some (sw_i t), some (sw_i v2), some (sw_i f), some (sw_i i)] [] h (sw_Qz (fun z h' => cK prU h0 h'))) ?_ _ _ _ ?_
  · rintro h9 f_10 i_11 ⟨Ih9, j12, j13⟩ ihh9
    try dsimp only at ihh9
    refine sx_iload dX7_canStandFirst_36 rfl ?_
    refine sx_aload_n dX7_canStandFirst_38 rfl ?_
    refine sx_getS (k := 9) (t := 18) cl_0 fl_X7_74 dX7_canStandFirst_39 s_13 (by decide) rfl (by decide) ?_
    refine sx_iload_n dX7_canStandFirst_42 rfl ?_
    refine sx_iconst dX7_canStandFirst_43 ⟨by decide, by decide⟩ ?_
    refine sx_iadd dX7_canStandFirst_44 ?_
    refine sy_topw (by omega) ?_
    refine sy_iaF (F := fun z => (0 : Int) ≤ z ∧ z ≤ 60) dX7_canStandFirst_45 s_18 (by decide) (by decide) ⟨by omega, by omega⟩ (Ih9.1.1 18 _) (fun r14 => ?_)
    refine sx_icmp_ge (tgt := 83) dX7_canStandFirst_46 (by decide) (fun c15 => ?_) (fun c15 => ?_)
    ·
      refine sx_iload dX7_canStandFirst_83 rfl ?_
      refine sx_if_ne (tgt := 126) dX7_canStandFirst_85 (by decide) (fun c16 => ?_) (fun c16 => ?_)
      ·
        refine sx_iconst dX7_canStandFirst_126 ⟨by decide, by decide⟩ ?_
        refine sx_ireturn dX7_canStandFirst_127 ?_
        exact ⟨_, rfl, by omega, Ih9⟩
      ·
        refine sx_aload_n dX7_canStandFirst_88 rfl ?_
        refine sx_getS (k := 0) (t := 190) cl_7 fl_X7_12 dX7_canStandFirst_89 s_189 (by decide) rfl (by decide) ?_
        refine sx_callVz lk_X7_96 cl_10 s_190 (by decide) dX7_canStandFirst_92 (vs := []) rfl rfl (Nat.le_of_ble_eq_true rfl) (Nat.le_of_ble_eq_true rfl) rfl (c_X10_endsWell_190 _ Ih9.1) (fun x18 h17 zx18 ph17 => ?_)
        subst ph17
        refine sx_if_eq (tgt := 126) dX7_canStandFirst_95 (by decide) (fun c19 => ?_) (fun c19 => ?_)
        ·
          refine sx_iconst dX7_canStandFirst_126 ⟨by decide, by decide⟩ ?_
          refine sx_ireturn dX7_canStandFirst_127 ?_
          exact ⟨_, rfl, by omega, Ih9⟩
        ·
          refine sx_aload_n dX7_canStandFirst_98 rfl ?_
          refine sx_getS (k := 0) (t := 190) cl_7 fl_X7_12 dX7_canStandFirst_99 s_189 (by decide) rfl (by decide) ?_
          refine sx_getI (k := 3) cl_10 fl_X7_100 dX7_canStandFirst_102 s_190 (by decide) rfl (by decide) ?_
          have r20 : (0 : Int) ≤ h9 190 3 ∧ h9 190 3 ≤ 2147483647 := Ih9.1.1 190 3
          refine sx_iconst dX7_canStandFirst_105 ⟨by decide, by decide⟩ ?_
          refine sx_icmp_gt (tgt := 126) dX7_canStandFirst_106 (by decide) (fun c21 => ?_) (fun c21 => ?_)
          ·
            refine sx_iconst dX7_canStandFirst_126 ⟨by decide, by decide⟩ ?_
            refine sx_ireturn dX7_canStandFirst_127 ?_
            exact ⟨_, rfl, by omega, Ih9⟩
          ·
            refine sx_iconst dX7_canStandFirst_109 ⟨by decide, by decide⟩ ?_
            refine sx_aload_n dX7_canStandFirst_110 rfl ?_
            refine sx_getS (k := 0) (t := 190) cl_7 fl_X7_12 dX7_canStandFirst_111 s_189 (by decide) rfl (by decide) ?_
            refine sx_getI (k := 1) cl_10 fl_X7_103 dX7_canStandFirst_114 s_190 (by decide) rfl (by decide) ?_
            refine sx_iadd dX7_canStandFirst_117 ?_
            refine sx_iconst dX7_canStandFirst_118 ⟨by decide, by decide⟩ ?_
            refine sx_icmp_lt (tgt := 126) dX7_canStandFirst_119 (by decide) (fun c22 => ?_) (fun c22 => ?_)
            ·
              refine sx_iconst dX7_canStandFirst_126 ⟨by decide, by decide⟩ ?_
              refine sx_ireturn dX7_canStandFirst_127 ?_
              exact ⟨_, rfl, by omega, Ih9⟩
            ·
              refine sx_iconst dX7_canStandFirst_122 ⟨by decide, by decide⟩ ?_
              refine sx_goto (tgt := 127) dX7_canStandFirst_123 (by decide) ?_
              refine sx_ireturn dX7_canStandFirst_127 ?_
              exact ⟨_, rfl, by omega, Ih9⟩
    ·
      refine sx_iload dX7_canStandFirst_49 rfl ?_
      refine sx_if_ne (tgt := 83) dX7_canStandFirst_51 (by decide) (fun c23 => ?_) (fun c23 => ?_)
      ·
        refine sx_iload dX7_canStandFirst_83 rfl ?_
        refine sx_if_ne (tgt := 126) dX7_canStandFirst_85 (by decide) (fun c24 => ?_) (fun c24 => ?_)
        ·
          refine sx_iconst dX7_canStandFirst_126 ⟨by decide, by decide⟩ ?_
          refine sx_ireturn dX7_canStandFirst_127 ?_
          exact ⟨_, rfl, by omega, Ih9⟩
        ·
          refine sx_aload_n dX7_canStandFirst_88 rfl ?_
          refine sx_getS (k := 0) (t := 190) cl_7 fl_X7_12 dX7_canStandFirst_89 s_189 (by decide) rfl (by decide) ?_
          refine sx_callVz lk_X7_96 cl_10 s_190 (by decide) dX7_canStandFirst_92 (vs := []) rfl rfl (Nat.le_of_ble_eq_true rfl) (Nat.le_of_ble_eq_true rfl) rfl (c_X10_endsWell_190 _ Ih9.1) (fun x26 h25 zx26 ph25 => ?_)
          subst ph25
          refine sx_if_eq (tgt := 126) dX7_canStandFirst_95 (by decide) (fun c27 => ?_) (fun c27 => ?_)
          ·
            refine sx_iconst dX7_canStandFirst_126 ⟨by decide, by decide⟩ ?_
            refine sx_ireturn dX7_canStandFirst_127 ?_
            exact ⟨_, rfl, by omega, Ih9⟩
          ·
            refine sx_aload_n dX7_canStandFirst_98 rfl ?_
            refine sx_getS (k := 0) (t := 190) cl_7 fl_X7_12 dX7_canStandFirst_99 s_189 (by decide) rfl (by decide) ?_
            refine sx_getI (k := 3) cl_10 fl_X7_100 dX7_canStandFirst_102 s_190 (by decide) rfl (by decide) ?_
            have r28 : (0 : Int) ≤ h9 190 3 ∧ h9 190 3 ≤ 2147483647 := Ih9.1.1 190 3
            refine sx_iconst dX7_canStandFirst_105 ⟨by decide, by decide⟩ ?_
            refine sx_icmp_gt (tgt := 126) dX7_canStandFirst_106 (by decide) (fun c29 => ?_) (fun c29 => ?_)
            ·
              refine sx_iconst dX7_canStandFirst_126 ⟨by decide, by decide⟩ ?_
              refine sx_ireturn dX7_canStandFirst_127 ?_
              exact ⟨_, rfl, by omega, Ih9⟩
            ·
              refine sx_iconst dX7_canStandFirst_109 ⟨by decide, by decide⟩ ?_
              refine sx_aload_n dX7_canStandFirst_110 rfl ?_
              refine sx_getS (k := 0) (t := 190) cl_7 fl_X7_12 dX7_canStandFirst_111 s_189 (by decide) rfl (by decide) ?_
              refine sx_getI (k := 1) cl_10 fl_X7_103 dX7_canStandFirst_114 s_190 (by decide) rfl (by decide) ?_
              refine sx_iadd dX7_canStandFirst_117 ?_
              refine sx_iconst dX7_canStandFirst_118 ⟨by decide, by decide⟩ ?_
              refine sx_icmp_lt (tgt := 126) dX7_canStandFirst_119 (by decide) (fun c30 => ?_) (fun c30 => ?_)
              ·
                refine sx_iconst dX7_canStandFirst_126 ⟨by decide, by decide⟩ ?_
                refine sx_ireturn dX7_canStandFirst_127 ?_
                exact ⟨_, rfl, by omega, Ih9⟩
              ·
                refine sx_iconst dX7_canStandFirst_122 ⟨by decide, by decide⟩ ?_
                refine sx_goto (tgt := 127) dX7_canStandFirst_123 (by decide) ?_
                refine sx_ireturn dX7_canStandFirst_127 ?_
                exact ⟨_, rfl, by omega, Ih9⟩
      ·
        refine sx_aload_n dX7_canStandFirst_54 rfl ?_
        refine sx_getS (k := 0) (t := 190) cl_7 fl_X7_12 dX7_canStandFirst_55 s_189 (by decide) rfl (by decide) ?_
        refine sx_aload_n dX7_canStandFirst_58 rfl ?_
        refine sx_getS (k := 5) (t := 14) cl_0 fl_X7_71 dX7_canStandFirst_59 s_13 (by decide) rfl (by decide) ?_
        refine sx_iload dX7_canStandFirst_62 rfl ?_
        refine sx_iaload dX7_canStandFirst_64 s_14 (by decide) (by decide) ⟨by omega, by omega⟩ ?_
        refine sx_aload_n dX7_canStandFirst_65 rfl ?_
        refine sx_getS (k := 6) (t := 15) cl_0 fl_X7_93 dX7_canStandFirst_66 s_13 (by decide) rfl (by decide) ?_
        refine sx_iload dX7_canStandFirst_69 rfl ?_
        refine sx_iaload dX7_canStandFirst_71 s_15 (by decide) (by decide) ⟨by omega, by omega⟩ ?_
        refine sx_callVi lk_X7_89 cl_10 s_190 (by decide) dX7_canStandFirst_72 (vs := [_, _]) rfl rfl (Nat.le_of_ble_eq_true rfl) (Nat.le_of_ble_eq_true rfl) rfl (c_X10_pass_190_13 _ Ih9.1 (by omega) _ _) (fun x32 h31 ph31 => ?_)
        obtain ⟨Kh31, f_h31⟩ := ph31
        have Ih31 := Ih9.tr Kh31 sb_prU_prT
        have th31_190_0 := Kh31.2 (190) 0 rfl
        refine sx_istore dX7_canStandFirst_75 (by decide) ?_
        refine sx_iinc dX7_canStandFirst_77 (by decide) rfl ?_
        rw [sw_w_id (by omega) (by omega)]
        refine sx_goto (tgt := 36) dX7_canStandFirst_80 (by decide) ?_
        exact ihh9 _ _ _ ⟨Ih31, by omega, by omega⟩ (by exact sy_dec (by omega) (by omega))
  · exact ⟨Ih5, by omega, by omega⟩
set_option maxRecDepth 20000 in
set_option maxHeartbeats 4000000 in
theorem c_X7_collect_13 {G : sw_G} (d : Nat) {h0 : sw_H} (hJ : cJ h0) (k : Int) : sw_E G NH SH (d + 19) mX7_collect 0 [some (sw_r 189), some (sw_r 13), some (sw_i k), none, none] [] h0 (sw_Qi (fun z h' => cK prG h0 h' ∧ z ≤ 15 ∧ (z ≠ 0 → 1 ≤ h0 13 0))) := by
  have hI : cK prG h0 h0 := cK.refl hJ
  have rw : (0 : Int) ≤ h0 13 0 ∧ h0 13 0 ≤ 6 := hI.1.1 13 0
  refine sx_aload_n dX7_collect_0 rfl ?_
  refine sx_iconst dX7_collect_1 ⟨by decide, by decide⟩ ?_
  refine sy_putI (k := 10) cl_7 fl_X7_59 dX7_collect_2 s_189 (by decide) rfl (by decide) rfl rfl (fun h1 eh1 => ?_)
  have Ih1 := hI.up eh1 (show (0 : Int) ≤ _ ∧ _ ≤ (15 : Int) from ⟨by omega, by omega⟩) rfl rfl
  have th1_189_10 := eh1.1
  have th1_13_0 := eh1.2 (13) 0 (by decide)
  refine sx_aload_n dX7_collect_5 rfl ?_
  refine sx_getI (k := 0) cl_0 fl_X7_62 dX7_collect_6 s_13 (by decide) rfl (by decide) ?_
  have r2 : (0 : Int) ≤ h1 13 0 ∧ h1 13 0 ≤ 6 := Ih1.1.1 13 0
  refine sx_iconst dX7_collect_9 ⟨by decide, by decide⟩ ?_
  refine sx_isub dX7_collect_10 ?_
  refine sy_topw (by omega) ?_
  refine sy_top (fun v3 ev3 => ?_)
  refine sx_istore_n dX7_collect_11 (by decide) ?_
  refine sx_iload_n dX7_collect_12 rfl ?_
  refine sx_if_lt (tgt := 40) dX7_collect_13 (by decide) (fun c4 => ?_) (fun c4 => ?_)
  ·
    refine sx_iconst dX7_collect_40 ⟨by decide, by decide⟩ ?_
    refine sx_ireturn dX7_collect_41 ?_
    exact ⟨_, rfl, ⟨Ih1, by omega, fun q => by omega⟩⟩
  ·
    refine sx_aload_n dX7_collect_16 rfl ?_
    refine sx_iload_n dX7_collect_17 rfl ?_
    refine sx_iconst dX7_collect_18 ⟨by decide, by decide⟩ ?_
    refine sx_callVz lk_X7_67 cl_0 s_13 (by decide) dX7_collect_19 (vs := [_, _]) rfl rfl (Nat.le_of_ble_eq_true rfl) (Nat.le_of_ble_eq_true rfl) rfl (c_X0_hasItem_13 _ Ih1.1 _ _) (fun x6 h5 zx6 ph5 => ?_)
    obtain ⟨rfl, w_x6⟩ := ph5
    refine sx_if_eq (tgt := 40) dX7_collect_22 (by decide) (fun c7 => ?_) (fun c7 => ?_)
    ·
      refine sx_iconst dX7_collect_40 ⟨by decide, by decide⟩ ?_
      refine sx_ireturn dX7_collect_41 ?_
      exact ⟨_, rfl, ⟨Ih1, by omega, fun q => by omega⟩⟩
    ·
      refine sx_aload_n dX7_collect_25 rfl ?_
      refine sx_getS (k := 5) (t := 14) cl_0 fl_X7_71 dX7_collect_26 s_13 (by decide) rfl (by decide) ?_
      refine sx_aload_n dX7_collect_29 rfl ?_
      refine sx_getS (k := 9) (t := 18) cl_0 fl_X7_74 dX7_collect_30 s_13 (by decide) rfl (by decide) ?_
      refine sx_iload_n dX7_collect_33 rfl ?_
      refine sy_iaF (F := fun z => (0 : Int) ≤ z ∧ z ≤ 60) dX7_collect_34 s_18 (by decide) (by decide) ⟨by omega, by omega⟩ (Ih1.1.1 18 _) (fun r8 => ?_)
      have rs : (0 : Int) ≤ h1 18 (v3 + 1).toNat ∧ h1 18 (v3 + 1).toNat ≤ 60 := Ih1.1.1 18 _
      refine sx_iaload dX7_collect_35 s_14 (by decide) (by decide) ⟨by omega, by omega⟩ ?_
      refine sx_iconst dX7_collect_36 ⟨by decide, by decide⟩ ?_
      refine sx_icmp_le (tgt := 42) dX7_collect_37 (by decide) (fun c9 => ?_) (fun c9 => ?_)
      ·
        refine sx_iconst dX7_collect_42 ⟨by decide, by decide⟩ ?_
        refine sx_istore dX7_collect_43 (by decide) ?_
        refine sx_loop1 (fun (h : sw_H) (t : Int) => (cK prG h0 h) ∧ (h 13 0 = h0 13 0) ∧ (0 ≤ t) ∧ (h 189 10 ≤ t) ∧ (t ≤ 15)) (fun (h : sw_H) (t : Int) => (15 - t).toNat) (fun (h : sw_H) (t : Int) => sw_E G NH SH (d + 19) mX7_collect 45 [some (sw_r 189), some (sw_r 13), some (sw_i k), some (sw_i v3), some (sw_i t)] [] h (sw_Qi (fun z h' => cK prG h0 h' ∧ z ≤ 15 ∧ (z ≠ 0 → 1 ≤ h0 13 0)))) ?_ _ _ ?_
        · rintro h10 t_11 ⟨Ih10, j12, j13, j14, j15⟩ ihh10
          try dsimp only at ihh10
          refine sx_iload dX7_collect_45 rfl ?_
          refine sx_bipush dX7_collect_47 ⟨by decide, by decide, by decide⟩ ?_
          refine sx_icmp_ge (tgt := 100) dX7_collect_49 (by decide) (fun c16 => ?_) (fun c16 => ?_)
          ·
            refine sx_aload_n dX7_collect_100 rfl ?_
            refine sx_getI (k := 10) cl_7 fl_X7_59 dX7_collect_101 s_189 (by decide) rfl (by decide) ?_
            have r17 : (0 : Int) ≤ h10 189 10 ∧ h10 189 10 ≤ 15 := Ih10.1.1 189 10
            refine sx_ireturn dX7_collect_104 ?_
            exact ⟨_, rfl, ⟨Ih10, by omega, fun q => by omega⟩⟩
          ·
            refine sx_aload_n dX7_collect_52 rfl ?_
            refine sx_aload_n dX7_collect_53 rfl ?_
            refine sx_iload dX7_collect_54 rfl ?_
            refine sx_callVz lk_X7_77 cl_7 s_189 (by decide) dX7_collect_56 (vs := [_, _]) rfl rfl (Nat.le_of_ble_eq_true rfl) (Nat.le_of_ble_eq_true rfl) rfl (c_X7_canStandFirst_13 _ Ih10.1 _ (by omega)) (fun x19 h18 zx19 ph18 => ?_)
            have Kh18 := ph18
            have Ih18 := Ih10.tr Kh18 sb_prG_prU
            have th18_189_10 := Kh18.2 (189) 10 rfl
            have th18_13_0 := Kh18.2 (13) 0 rfl
            refine sx_if_eq (tgt := 94) dX7_collect_59 (by decide) (fun c20 => ?_) (fun c20 => ?_)
            ·
              refine sx_iinc dX7_collect_94 (by decide) rfl ?_
              rw [sw_w_id (by omega) (by omega)]
              refine sx_goto (tgt := 45) dX7_collect_97 (by decide) ?_
              exact ihh10 _ _ ⟨Ih18, by omega, by omega, by omega, by omega⟩ (by exact sy_dec (by omega) (by omega))
            ·
              refine sx_aload_n dX7_collect_62 rfl ?_
              refine sx_aload_n dX7_collect_63 rfl ?_
              refine sx_iload dX7_collect_64 rfl ?_
              refine sx_iload_n dX7_collect_66 rfl ?_
              refine sx_callVz lk_X7_81 cl_7 s_189 (by decide) dX7_collect_67 (vs := [_, _, _]) rfl rfl (Nat.le_of_ble_eq_true rfl) (Nat.le_of_ble_eq_true rfl) rfl (c_X7_agreesWithAll_13 _ Ih18.1 _ _ (by omega)) (fun x22 h21 zx22 ph21 => ?_)
              have Kh21 := ph21
              have Ih21 := Ih18.tr Kh21 sb_prG_prD
              have th21_189_10 := Kh21.2 (189) 10 rfl
              have th21_13_0 := Kh21.2 (13) 0 rfl
              refine sx_if_eq (tgt := 94) dX7_collect_70 (by decide) (fun c23 => ?_) (fun c23 => ?_)
              ·
                refine sx_iinc dX7_collect_94 (by decide) rfl ?_
                rw [sw_w_id (by omega) (by omega)]
                refine sx_goto (tgt := 45) dX7_collect_97 (by decide) ?_
                exact ihh10 _ _ ⟨Ih21, by omega, by omega, by omega, by omega⟩ (by exact sy_dec (by omega) (by omega))
              ·
                refine sx_aload_n dX7_collect_73 rfl ?_
                refine sx_getS (k := 9) (t := 213) cl_7 fl_X7_49 dX7_collect_74 s_189 (by decide) rfl (by decide) ?_
                refine sx_aload_n dX7_collect_77 rfl ?_
                refine sx_getI (k := 10) cl_7 fl_X7_59 dX7_collect_78 s_189 (by decide) rfl (by decide) ?_
                have r24 : (0 : Int) ≤ h21 189 10 ∧ h21 189 10 ≤ 15 := Ih21.1.1 189 10
                refine sx_iload dX7_collect_81 rfl ?_
                refine sy_iastore dX7_collect_83 s_213 (by decide) (by decide) ⟨by omega, by omega⟩ (fun h25 eh25 => ?_)
                have Ih25 := Ih21.up eh25 (show (0 : Int) ≤ _ ∧ _ ≤ (14 : Int) from ⟨by omega, by omega⟩) rfl rfl
                have th25_189_10 := eh25.2 (189) 10 (by omega)
                have th25_13_0 := eh25.2 (13) 0 (by omega)
                refine sx_aload_n dX7_collect_84 rfl ?_
                refine sx_dupr dX7_collect_85 ?_
                refine sx_getI (k := 10) cl_7 fl_X7_59 dX7_collect_86 s_189 (by decide) rfl (by decide) ?_
                have r26 : (0 : Int) ≤ h25 189 10 ∧ h25 189 10 ≤ 15 := Ih25.1.1 189 10
                refine sx_iconst dX7_collect_89 ⟨by decide, by decide⟩ ?_
                refine sx_iadd dX7_collect_90 ?_
                refine sy_topw (by omega) ?_
                refine sy_putI (k := 10) cl_7 fl_X7_59 dX7_collect_91 s_189 (by decide) rfl (by decide) rfl rfl (fun h27 eh27 => ?_)
                have Ih27 := Ih25.up eh27 (show (0 : Int) ≤ _ ∧ _ ≤ (15 : Int) from ⟨by omega, by omega⟩) rfl rfl
                have th27_189_10 := eh27.1
                have th27_13_0 := eh27.2 (13) 0 (by decide)
                refine sx_iinc dX7_collect_94 (by decide) rfl ?_
                rw [sw_w_id (by omega) (by omega)]
                refine sx_goto (tgt := 45) dX7_collect_97 (by decide) ?_
                exact ihh10 _ _ ⟨Ih27, by omega, by omega, by omega, by omega⟩ (by exact sy_dec (by omega) (by omega))
        · exact ⟨Ih1, by omega, by omega, by omega, by omega⟩
      ·
        refine sx_iconst dX7_collect_40 ⟨by decide, by decide⟩ ?_
        refine sx_ireturn dX7_collect_41 ?_
        exact ⟨_, rfl, ⟨Ih1, by omega, fun q => by omega⟩⟩
set_option maxRecDepth 20000 in
set_option maxHeartbeats 4000000 in
theorem c_X7_leftAtMost_13 {G : sw_G} (d : Nat) {h0 : sw_H} (hJ : cJ h0) (n : Int) (hw : 1 ≤ h0 13 0) : sw_E G NH SH (d + 18) mX7_leftAtMost 0 [some (sw_r 189), some (sw_r 13), some (sw_i n), none, none, none, none] [] h0 (sw_Qi (fun z h' => cK prG h0 h')) := by
  have hI : cK prG h0 h0 := cK.refl hJ
  refine sx_iconst dX7_leftAtMost_0 ⟨by decide, by decide⟩ ?_
  refine sx_istore_n dX7_leftAtMost_1 (by decide) ?_
  refine sx_iconst dX7_leftAtMost_2 ⟨by decide, by decide⟩ ?_
  refine sx_istore dX7_leftAtMost_3 (by decide) ?_
  refine sx_loop2 (fun (h : sw_H) (m : Int) (i : Int) => (cK prG h0 h) ∧ (h 13 0 = h0 13 0) ∧ (0 ≤ i)) (fun (h : sw_H) (m : Int) (i : Int) => (15 - i).toNat) (fun (h : sw_H) (m : Int) (i : Int) => sw_E G NH SH (d + 18) mX7_leftAtMost 5 [some (sw_r 189), some (sw_r 13), some (sw_i n), some (sw_i m), some (sw_i i), none, none] [] h (sw_Qi (fun z h' => cK prG h0 h'))) ?_ _ _ _ ?_
  · rintro h1 m_2 i_3 ⟨Ih1, j4, j5⟩ ihh1
    try dsimp only at ihh1
    refine sx_iload dX7_leftAtMost_5 rfl ?_
    refine sx_aload_n dX7_leftAtMost_7 rfl ?_
    refine sx_getI (k := 10) cl_7 fl_X7_59 dX7_leftAtMost_8 s_189 (by decide) rfl (by decide) ?_
    have r6 : (0 : Int) ≤ h1 189 10 ∧ h1 189 10 ≤ 15 := Ih1.1.1 189 10
    refine sx_icmp_ge (tgt := 93) dX7_leftAtMost_11 (by decide) (fun c7 => ?_) (fun c7 => ?_)
    ·
      refine sx_iload_n dX7_leftAtMost_93 rfl ?_
      refine sx_ireturn dX7_leftAtMost_94 ?_
      exact ⟨_, rfl, Ih1⟩
    ·
      refine sx_aload_n dX7_leftAtMost_14 rfl ?_
      refine sx_getS (k := 11) (t := 214) cl_7 fl_X7_52 dX7_leftAtMost_15 s_189 (by decide) rfl (by decide) ?_
      refine sx_iload dX7_leftAtMost_18 rfl ?_
      refine sx_aload_n dX7_leftAtMost_20 rfl ?_
      refine sx_aload_n dX7_leftAtMost_21 rfl ?_
      refine sx_aload_n dX7_leftAtMost_22 rfl ?_
      refine sx_getS (k := 9) (t := 213) cl_7 fl_X7_49 dX7_leftAtMost_23 s_189 (by decide) rfl (by decide) ?_
      refine sx_iload dX7_leftAtMost_26 rfl ?_
      refine sy_iaF (F := fun z => (0 : Int) ≤ z ∧ z ≤ 14) dX7_leftAtMost_28 s_213 (by decide) (by decide) ⟨by omega, by omega⟩ (Ih1.1.1 213 _) (fun r8 => ?_)
      refine sx_iload_n dX7_leftAtMost_29 rfl ?_
      refine sx_callVi lk_X7_109 cl_7 s_189 (by decide) dX7_leftAtMost_30 (vs := [_, _, _]) rfl rfl (Nat.le_of_ble_eq_true rfl) (Nat.le_of_ble_eq_true rfl) rfl (c_X7_topFor_13 _ Ih1.1 _ _ (by omega)) (fun x10 h9 ph9 => ?_)
      have Kh9 := ph9
      have Ih9 := Ih1.tr Kh9 sb_prG_prD
      have th9_13_0 := Kh9.2 (13) 0 rfl
      refine sy_iastore dX7_leftAtMost_33 s_214 (by decide) (by decide) ⟨by omega, by omega⟩ (fun h11 eh11 => ?_)
      have Ih11 := Ih9.up eh11 trivial rfl rfl
      have th11_13_0 := eh11.2 (13) 0 (by omega)
      refine sx_iconst dX7_leftAtMost_34 ⟨by decide, by decide⟩ ?_
      refine sx_istore dX7_leftAtMost_35 (by decide) ?_
      refine sx_iconst dX7_leftAtMost_37 ⟨by decide, by decide⟩ ?_
      refine sx_istore dX7_leftAtMost_38 (by decide) ?_
      refine sx_loop2 (fun (h : sw_H) (l : Int) (j : Int) => (cK prG h0 h) ∧ (h 13 0 = h0 13 0) ∧ (0 ≤ j)) (fun (h : sw_H) (l : Int) (j : Int) => (15 - j).toNat) (fun (h : sw_H) (l : Int) (j : Int) => sw_E G NH SH (d + 18) mX7_leftAtMost 40 [some (sw_r 189), some (sw_r 13), some (sw_i n), some (sw_i m_2), some (sw_i i_3), some (sw_i l), some (sw_i j)] [] h (sw_Qi (fun z h' => cK prG h0 h'))) ?_ _ _ _ ?_
      · rintro h12 l_13 j_14 ⟨Ih12, j15, j16⟩ ihh12
        try dsimp only at ihh12
        refine sx_iload dX7_leftAtMost_40 rfl ?_
        refine sx_iload dX7_leftAtMost_42 rfl ?_
        refine sx_icmp_gt (tgt := 80) dX7_leftAtMost_44 (by decide) (fun c17 => ?_) (fun c17 => ?_)
        ·
          refine sx_iload_n dX7_leftAtMost_80 rfl ?_
          refine sx_iload dX7_leftAtMost_81 rfl ?_
          refine sx_max lm_X7_134 lw_max dX7_leftAtMost_83 (Nat.le_of_ble_eq_true rfl) ?_
          refine sy_max (fun m18 em18 fm18 gm18 => ?_)
          refine sy_top (fun v19 ev19 => ?_)
          refine sx_istore_n dX7_leftAtMost_86 (by decide) ?_
          refine sx_iinc dX7_leftAtMost_87 (by decide) rfl ?_
          rw [sw_w_id (by omega) (by omega)]
          refine sx_goto (tgt := 5) dX7_leftAtMost_90 (by decide) ?_
          refine sx_kill 5 ?_
          refine sx_kill 6 ?_
          exact ihh1 _ _ _ ⟨Ih12, by omega, by omega⟩ (by exact sy_dec (by omega) (by omega))
        ·
          refine sx_iload dX7_leftAtMost_47 rfl ?_
          refine sx_aload_n dX7_leftAtMost_49 rfl ?_
          refine sx_getS (k := 11) (t := 214) cl_7 fl_X7_52 dX7_leftAtMost_50 s_189 (by decide) rfl (by decide) ?_
          refine sx_iload dX7_leftAtMost_53 rfl ?_
          refine sx_iaload dX7_leftAtMost_55 s_214 (by decide) (by decide) ⟨by omega, by omega⟩ ?_
          refine sx_aload_n dX7_leftAtMost_56 rfl ?_
          refine sx_getS (k := 11) (t := 214) cl_7 fl_X7_52 dX7_leftAtMost_57 s_189 (by decide) rfl (by decide) ?_
          refine sx_iload dX7_leftAtMost_60 rfl ?_
          refine sx_iaload dX7_leftAtMost_62 s_214 (by decide) (by decide) ⟨by omega, by omega⟩ ?_
          refine sx_icmp_ne (tgt := 70) dX7_leftAtMost_63 (by decide) (fun c20 => ?_) (fun c20 => ?_)
          ·
            refine sx_iconst dX7_leftAtMost_70 ⟨by decide, by decide⟩ ?_
            refine sx_iadd dX7_leftAtMost_71 ?_
            refine sy_top (fun v21 ev21 => ?_)
            refine sx_istore dX7_leftAtMost_72 (by decide) ?_
            refine sx_iinc dX7_leftAtMost_74 (by decide) rfl ?_
            rw [sw_w_id (by omega) (by omega)]
            refine sx_goto (tgt := 40) dX7_leftAtMost_77 (by decide) ?_
            exact ihh12 _ _ _ ⟨Ih12, by omega, by omega⟩ (by exact sy_dec (by omega) (by omega))
          ·
            refine sx_iconst dX7_leftAtMost_66 ⟨by decide, by decide⟩ ?_
            refine sx_goto (tgt := 71) dX7_leftAtMost_67 (by decide) ?_
            refine sx_iadd dX7_leftAtMost_71 ?_
            refine sy_top (fun v22 ev22 => ?_)
            refine sx_istore dX7_leftAtMost_72 (by decide) ?_
            refine sx_iinc dX7_leftAtMost_74 (by decide) rfl ?_
            rw [sw_w_id (by omega) (by omega)]
            refine sx_goto (tgt := 40) dX7_leftAtMost_77 (by decide) ?_
            exact ihh12 _ _ _ ⟨Ih12, by omega, by omega⟩ (by exact sy_dec (by omega) (by omega))
      · exact ⟨Ih11, by omega, by omega⟩
  · exact ⟨hI, by omega, by omega⟩
set_option maxRecDepth 20000 in
set_option maxHeartbeats 4000000 in
theorem c_X7_nextToTry_13 {G : sw_G} (d : Nat) {h0 : sw_H} (hJ : cJ h0) (n : Int) (hw : 1 ≤ h0 13 0) : sw_E G NH SH (d + 19) mX7_nextToTry 0 [some (sw_r 189), some (sw_r 13), some (sw_i n), none, none, none, none] [] h0 (sw_Qi (fun z h' => cK prG h0 h')) := by
  have hI : cK prG h0 h0 := cK.refl hJ
  refine sx_iconst dX7_nextToTry_0 ⟨by decide, by decide⟩ ?_
  refine sx_istore_n dX7_nextToTry_1 (by decide) ?_
  refine sx_ldc kc_X7_129 ⟨by decide, by decide⟩ dX7_nextToTry_2 ?_
  refine sx_istore dX7_nextToTry_4 (by decide) ?_
  refine sx_iconst dX7_nextToTry_6 ⟨by decide, by decide⟩ ?_
  refine sx_istore dX7_nextToTry_7 (by decide) ?_
  refine sx_loop3 (fun (h : sw_H) (a : Int) (b : Int) (q : Int) => (cK prG h0 h) ∧ (h 13 0 = h0 13 0) ∧ (0 ≤ q)) (fun (h : sw_H) (a : Int) (b : Int) (q : Int) => (10 - q).toNat) (fun (h : sw_H) (a : Int) (b : Int) (q : Int) => sw_E G NH SH (d + 19) mX7_nextToTry 9 [some (sw_r 189), some (sw_r 13), some (sw_i n), some (sw_i a), some (sw_i b), some (sw_i q), none] [] h (sw_Qi (fun z h' => cK prG h0 h'))) ?_ _ _ _ _ ?_
  · rintro h1 a_2 b_3 q_4 ⟨Ih1, j5, j6⟩ ihh1
    try dsimp only at ihh1
    refine sx_iload dX7_nextToTry_9 rfl ?_
    refine sx_bipush dX7_nextToTry_11 ⟨by decide, by decide, by decide⟩ ?_
    refine sx_icmp_gt (tgt := 50) dX7_nextToTry_13 (by decide) (fun c7 => ?_) (fun c7 => ?_)
    ·
      refine sx_iload_n dX7_nextToTry_50 rfl ?_
      refine sx_ireturn dX7_nextToTry_51 ?_
      exact ⟨_, rfl, Ih1⟩
    ·
      refine sx_aload_n dX7_nextToTry_16 rfl ?_
      refine sx_aload_n dX7_nextToTry_17 rfl ?_
      refine sx_iload_n dX7_nextToTry_18 rfl ?_
      refine sx_bipush dX7_nextToTry_19 ⟨by decide, by decide, by decide⟩ ?_
      refine sx_imul dX7_nextToTry_21 ?_
      refine sx_iload dX7_nextToTry_22 rfl ?_
      refine sx_iadd dX7_nextToTry_24 ?_
      refine sx_callVi lk_X7_130 cl_7 s_189 (by decide) dX7_nextToTry_25 (vs := [_, _]) rfl rfl (Nat.le_of_ble_eq_true rfl) (Nat.le_of_ble_eq_true rfl) rfl (c_X7_leftAtMost_13 _ Ih1.1 _ (by omega)) (fun x9 h8 ph8 => ?_)
      have Kh8 := ph8
      have Ih8 := Ih1.tr Kh8 sb_prG_prG
      have th8_13_0 := Kh8.2 (13) 0 rfl
      refine sx_istore dX7_nextToTry_28 (by decide) ?_
      refine sx_iload dX7_nextToTry_30 rfl ?_
      refine sx_iload dX7_nextToTry_32 rfl ?_
      refine sx_icmp_ge (tgt := 44) dX7_nextToTry_34 (by decide) (fun c10 => ?_) (fun c10 => ?_)
      ·
        refine sx_iinc dX7_nextToTry_44 (by decide) rfl ?_
        rw [sw_w_id (by omega) (by omega)]
        refine sx_goto (tgt := 9) dX7_nextToTry_47 (by decide) ?_
        refine sx_kill 6 ?_
        exact ihh1 _ _ _ _ ⟨Ih8, by omega, by omega⟩ (by exact sy_dec (by omega) (by omega))
      ·
        refine sx_iload dX7_nextToTry_37 rfl ?_
        refine sx_istore dX7_nextToTry_39 (by decide) ?_
        refine sx_iload dX7_nextToTry_41 rfl ?_
        refine sx_istore_n dX7_nextToTry_43 (by decide) ?_
        refine sx_iinc dX7_nextToTry_44 (by decide) rfl ?_
        rw [sw_w_id (by omega) (by omega)]
        refine sx_goto (tgt := 9) dX7_nextToTry_47 (by decide) ?_
        refine sx_kill 6 ?_
        exact ihh1 _ _ _ _ ⟨Ih8, by omega, by omega⟩ (by exact sy_dec (by omega) (by omega))
  · exact ⟨hI, by omega, by omega⟩

set_option maxRecDepth 20000 in
set_option maxHeartbeats 4000000 in
theorem c_X10_begin_36_1 {G : sw_G} (d : Nat) {h0 : sw_H} (hJ : cJ h0)  : sw_E G NH SH (d) mX10_begin 0 [some (sw_r 36), some (sw_r 1)] [] h0 (sw_Qv (fun h' => cK prU h0 h' ∧ h' 36 0 = 1)) := by
  have hI : cK prU h0 h0 := cK.refl hJ
  refine sx_aload_n dX10_begin_0 rfl ?_
  refine sx_aload_n dX10_begin_1 rfl ?_
  refine sy_putR (k := 0) cl_10 fl_X10_30 dX10_begin_2 s_36 (by decide) rfl (by decide) rfl rfl (by decide) (fun h1 eh1 => ?_)
  have Ih1 := hI.up eh1 trivial rfl rfl
  have th1_36_0 := eh1.1
  refine sx_aload_n dX10_begin_5 rfl ?_
  refine sx_iconst dX10_begin_6 ⟨by decide, by decide⟩ ?_
  refine sy_putI (k := 1) cl_10 fl_X10_34 dX10_begin_7 s_36 (by decide) rfl (by decide) rfl rfl (fun h2 eh2 => ?_)
  have Ih2 := Ih1.up eh2 trivial rfl rfl
  have th2_36_0 := eh2.2 (36) 0 (by decide)
  refine sx_aload_n dX10_begin_10 rfl ?_
  refine sx_iconst dX10_begin_11 ⟨by decide, by decide⟩ ?_
  refine sy_putI (k := 2) cl_10 fl_X10_38 dX10_begin_12 s_36 (by decide) rfl (by decide) rfl rfl (fun h3 eh3 => ?_)
  have Ih3 := Ih2.up eh3 trivial rfl rfl
  have th3_36_0 := eh3.2 (36) 0 (by decide)
  refine sx_aload_n dX10_begin_15 rfl ?_
  refine sx_iconst dX10_begin_16 ⟨by decide, by decide⟩ ?_
  refine sy_putI (k := 3) cl_10 fl_X10_41 dX10_begin_17 s_36 (by decide) rfl (by decide) rfl rfl (fun h4 eh4 => ?_)
  have Ih4 := Ih3.up eh4 (show (0 : Int) ≤ _ ∧ _ ≤ (2147483647 : Int) from ⟨by omega, by omega⟩) rfl rfl
  have th4_36_0 := eh4.2 (36) 0 (by decide)
  refine sx_aload_n dX10_begin_20 rfl ?_
  refine sx_iconst dX10_begin_21 ⟨by decide, by decide⟩ ?_
  refine sy_putI (k := 4) cl_10 fl_X10_44 dX10_begin_22 s_36 (by decide) rfl (by decide) rfl rfl (fun h5 eh5 => ?_)
  have Ih5 := Ih4.up eh5 trivial rfl rfl
  have th5_36_0 := eh5.2 (36) 0 (by decide)
  refine sx_aload_n dX10_begin_25 rfl ?_
  refine sx_iconst dX10_begin_26 ⟨by decide, by decide⟩ ?_
  refine sy_putI (k := 5) cl_10 fl_X10_47 dX10_begin_27 s_36 (by decide) rfl (by decide) rfl rfl (fun h6 eh6 => ?_)
  have Ih6 := Ih5.up eh6 trivial rfl rfl
  have th6_36_0 := eh6.2 (36) 0 (by decide)
  refine sx_aload_n dX10_begin_30 rfl ?_
  refine sx_iconst dX10_begin_31 ⟨by decide, by decide⟩ ?_
  refine sy_putI (k := 6) cl_10 fl_X10_50 dX10_begin_32 s_36 (by decide) rfl (by decide) rfl rfl (fun h7 eh7 => ?_)
  have Ih7 := Ih6.up eh7 trivial rfl rfl
  have th7_36_0 := eh7.2 (36) 0 (by decide)
  refine sx_aload_n dX10_begin_35 rfl ?_
  refine sx_iconst dX10_begin_36 ⟨by decide, by decide⟩ ?_
  refine sy_putI (k := 7) cl_10 fl_X10_53 dX10_begin_37 s_36 (by decide) rfl (by decide) rfl rfl (fun h8 eh8 => ?_)
  have Ih8 := Ih7.up eh8 (show (0 : Int) ≤ _ ∧ _ ≤ (4 : Int) from ⟨by omega, by omega⟩) rfl rfl
  have th8_36_0 := eh8.2 (36) 0 (by decide)
  refine sx_ret dX10_begin_40 ?_
  exact ⟨rfl, ⟨Ih8, by omega⟩⟩
set_option maxRecDepth 20000 in
set_option maxHeartbeats 4000000 in
theorem c_X10_begin_36_13 {G : sw_G} (d : Nat) {h0 : sw_H} (hJ : cJ h0)  : sw_E G NH SH (d) mX10_begin 0 [some (sw_r 36), some (sw_r 13)] [] h0 (sw_Qv (fun h' => cK prU h0 h' ∧ h' 36 0 = 13)) := by
  have hI : cK prU h0 h0 := cK.refl hJ
  refine sx_aload_n dX10_begin_0 rfl ?_
  refine sx_aload_n dX10_begin_1 rfl ?_
  refine sy_putR (k := 0) cl_10 fl_X10_30 dX10_begin_2 s_36 (by decide) rfl (by decide) rfl rfl (by decide) (fun h1 eh1 => ?_)
  have Ih1 := hI.up eh1 trivial rfl rfl
  have th1_36_0 := eh1.1
  refine sx_aload_n dX10_begin_5 rfl ?_
  refine sx_iconst dX10_begin_6 ⟨by decide, by decide⟩ ?_
  refine sy_putI (k := 1) cl_10 fl_X10_34 dX10_begin_7 s_36 (by decide) rfl (by decide) rfl rfl (fun h2 eh2 => ?_)
  have Ih2 := Ih1.up eh2 trivial rfl rfl
  have th2_36_0 := eh2.2 (36) 0 (by decide)
  refine sx_aload_n dX10_begin_10 rfl ?_
  refine sx_iconst dX10_begin_11 ⟨by decide, by decide⟩ ?_
  refine sy_putI (k := 2) cl_10 fl_X10_38 dX10_begin_12 s_36 (by decide) rfl (by decide) rfl rfl (fun h3 eh3 => ?_)
  have Ih3 := Ih2.up eh3 trivial rfl rfl
  have th3_36_0 := eh3.2 (36) 0 (by decide)
  refine sx_aload_n dX10_begin_15 rfl ?_
  refine sx_iconst dX10_begin_16 ⟨by decide, by decide⟩ ?_
  refine sy_putI (k := 3) cl_10 fl_X10_41 dX10_begin_17 s_36 (by decide) rfl (by decide) rfl rfl (fun h4 eh4 => ?_)
  have Ih4 := Ih3.up eh4 (show (0 : Int) ≤ _ ∧ _ ≤ (2147483647 : Int) from ⟨by omega, by omega⟩) rfl rfl
  have th4_36_0 := eh4.2 (36) 0 (by decide)
  refine sx_aload_n dX10_begin_20 rfl ?_
  refine sx_iconst dX10_begin_21 ⟨by decide, by decide⟩ ?_
  refine sy_putI (k := 4) cl_10 fl_X10_44 dX10_begin_22 s_36 (by decide) rfl (by decide) rfl rfl (fun h5 eh5 => ?_)
  have Ih5 := Ih4.up eh5 trivial rfl rfl
  have th5_36_0 := eh5.2 (36) 0 (by decide)
  refine sx_aload_n dX10_begin_25 rfl ?_
  refine sx_iconst dX10_begin_26 ⟨by decide, by decide⟩ ?_
  refine sy_putI (k := 5) cl_10 fl_X10_47 dX10_begin_27 s_36 (by decide) rfl (by decide) rfl rfl (fun h6 eh6 => ?_)
  have Ih6 := Ih5.up eh6 trivial rfl rfl
  have th6_36_0 := eh6.2 (36) 0 (by decide)
  refine sx_aload_n dX10_begin_30 rfl ?_
  refine sx_iconst dX10_begin_31 ⟨by decide, by decide⟩ ?_
  refine sy_putI (k := 6) cl_10 fl_X10_50 dX10_begin_32 s_36 (by decide) rfl (by decide) rfl rfl (fun h7 eh7 => ?_)
  have Ih7 := Ih6.up eh7 trivial rfl rfl
  have th7_36_0 := eh7.2 (36) 0 (by decide)
  refine sx_aload_n dX10_begin_35 rfl ?_
  refine sx_iconst dX10_begin_36 ⟨by decide, by decide⟩ ?_
  refine sy_putI (k := 7) cl_10 fl_X10_53 dX10_begin_37 s_36 (by decide) rfl (by decide) rfl rfl (fun h8 eh8 => ?_)
  have Ih8 := Ih7.up eh8 (show (0 : Int) ≤ _ ∧ _ ≤ (4 : Int) from ⟨by omega, by omega⟩) rfl rfl
  have th8_36_0 := eh8.2 (36) 0 (by decide)
  refine sx_ret dX10_begin_40 ?_
  exact ⟨rfl, ⟨Ih8, by omega⟩⟩
set_option maxRecDepth 20000 in
set_option maxHeartbeats 4000000 in
theorem c_X10_endsWell_36 {G : sw_G} (d : Nat) {h0 : sw_H} (hJ : cJ h0)  : sw_E G NH SH (d) mX10_endsWell 0 [some (sw_r 36)] [] h0 (sw_Qz (fun z h' => h0 = h')) := by
  have hI : cK pr0 h0 h0 := cK.refl hJ
  refine sx_aload_n dX10_endsWell_0 rfl ?_
  refine sx_getI (k := 7) cl_10 fl_X10_53 dX10_endsWell_1 s_36 (by decide) rfl (by decide) ?_
  have r1 : (0 : Int) ≤ h0 36 7 ∧ h0 36 7 ≤ 4 := hI.1.1 36 7
  refine sx_if_ne (tgt := 28) dX10_endsWell_4 (by decide) (fun c2 => ?_) (fun c2 => ?_)
  ·
    refine sx_iconst dX10_endsWell_28 ⟨by decide, by decide⟩ ?_
    refine sx_ireturn dX10_endsWell_29 ?_
    exact ⟨_, rfl, by omega, rfl⟩
  ·
    refine sx_aload_n dX10_endsWell_7 rfl ?_
    refine sx_getI (k := 2) cl_10 fl_X10_38 dX10_endsWell_8 s_36 (by decide) rfl (by decide) ?_
    refine sx_if_ne (tgt := 28) dX10_endsWell_11 (by decide) (fun c3 => ?_) (fun c3 => ?_)
    ·
      refine sx_iconst dX10_endsWell_28 ⟨by decide, by decide⟩ ?_
      refine sx_ireturn dX10_endsWell_29 ?_
      exact ⟨_, rfl, by omega, rfl⟩
    ·
      refine sx_aload_n dX10_endsWell_14 rfl ?_
      refine sx_getI (k := 6) cl_10 fl_X10_50 dX10_endsWell_15 s_36 (by decide) rfl (by decide) ?_
      refine sx_sipush dX10_endsWell_18 ⟨by decide, by decide, by decide⟩ ?_
      refine sx_icmp_gt (tgt := 28) dX10_endsWell_21 (by decide) (fun c4 => ?_) (fun c4 => ?_)
      ·
        refine sx_iconst dX10_endsWell_28 ⟨by decide, by decide⟩ ?_
        refine sx_ireturn dX10_endsWell_29 ?_
        exact ⟨_, rfl, by omega, rfl⟩
      ·
        refine sx_iconst dX10_endsWell_24 ⟨by decide, by decide⟩ ?_
        refine sx_goto (tgt := 29) dX10_endsWell_25 (by decide) ?_
        refine sx_ireturn dX10_endsWell_29 ?_
        exact ⟨_, rfl, by omega, rfl⟩
set_option maxRecDepth 20000 in
set_option maxHeartbeats 4000000 in
theorem c_X10_change_36 {G : sw_G} (d : Nat) {h0 : sw_H} (hJ : cJ h0) (a b c : Int) : sw_E G NH SH (d) mX10_change 0 [some (sw_r 36), some (sw_i a), some (sw_i b), some (sw_i c)] [] h0 (sw_Qi (fun z h' => cK prT h0 h')) := by
  have hI : cK prT h0 h0 := cK.refl hJ
  refine sx_aload_n dX10_change_0 rfl ?_
  refine sx_iload_n dX10_change_1 rfl ?_
  refine sx_aload_n dX10_change_2 rfl ?_
  refine sx_getI (k := 1) cl_10 fl_X10_34 dX10_change_3 s_36 (by decide) rfl (by decide) ?_
  refine sx_isub dX10_change_6 ?_
  refine sx_aload_n dX10_change_7 rfl ?_
  refine sx_getI (k := 3) cl_10 fl_X10_41 dX10_change_8 s_36 (by decide) rfl (by decide) ?_
  have r1 : (0 : Int) ≤ h0 36 3 ∧ h0 36 3 ≤ 2147483647 := hI.1.1 36 3
  refine sx_icmp_le (tgt := 23) dX10_change_11 (by decide) (fun c2 => ?_) (fun c2 => ?_)
  ·
    refine sx_aload_n dX10_change_23 rfl ?_
    refine sx_getI (k := 3) cl_10 fl_X10_41 dX10_change_24 s_36 (by decide) rfl (by decide) ?_
    have r3 : (0 : Int) ≤ h0 36 3 ∧ h0 36 3 ≤ 2147483647 := hI.1.1 36 3
    have ow : sw_w (a - h0 36 1) ≤ 2147483647 := (sw_w_ok _).2
    refine sy_putI (k := 3) cl_10 fl_X10_41 dX10_change_27 s_36 (by decide) rfl (by decide) rfl rfl (fun h4 eh4 => ?_)
    have Ih4 := hI.up eh4 (show (0 : Int) ≤ _ ∧ _ ≤ (2147483647 : Int) from ⟨by omega, by omega⟩) rfl rfl
    refine sx_aload_n dX10_change_30 rfl ?_
    refine sx_aload_n dX10_change_31 rfl ?_
    refine sx_getI (k := 1) cl_10 fl_X10_34 dX10_change_32 s_36 (by decide) rfl (by decide) ?_
    refine sx_iload_n dX10_change_35 rfl ?_
    refine sx_iadd dX10_change_36 ?_
    refine sx_aload_n dX10_change_37 rfl ?_
    refine sx_getI (k := 4) cl_10 fl_X10_44 dX10_change_38 s_36 (by decide) rfl (by decide) ?_
    refine sx_icmp_le (tgt := 53) dX10_change_41 (by decide) (fun c5 => ?_) (fun c5 => ?_)
    ·
      refine sx_aload_n dX10_change_53 rfl ?_
      refine sx_getI (k := 4) cl_10 fl_X10_44 dX10_change_54 s_36 (by decide) rfl (by decide) ?_
      refine sy_putI (k := 4) cl_10 fl_X10_44 dX10_change_57 s_36 (by decide) rfl (by decide) rfl rfl (fun h6 eh6 => ?_)
      have Ih6 := Ih4.up eh6 trivial rfl rfl
      refine sx_aload_n dX10_change_60 rfl ?_
      refine sx_dupr dX10_change_61 ?_
      refine sx_getI (k := 1) cl_10 fl_X10_34 dX10_change_62 s_36 (by decide) rfl (by decide) ?_
      refine sx_iload_n dX10_change_65 rfl ?_
      refine sx_iload_n dX10_change_66 rfl ?_
      refine sx_isub dX10_change_67 ?_
      refine sx_iadd dX10_change_68 ?_
      refine sy_putI (k := 1) cl_10 fl_X10_34 dX10_change_69 s_36 (by decide) rfl (by decide) rfl rfl (fun h7 eh7 => ?_)
      have Ih7 := Ih6.up eh7 trivial rfl rfl
      refine sx_aload_n dX10_change_72 rfl ?_
      refine sx_getI (k := 3) cl_10 fl_X10_41 dX10_change_73 s_36 (by decide) rfl (by decide) ?_
      have r8 : (0 : Int) ≤ h7 36 3 ∧ h7 36 3 ≤ 2147483647 := Ih7.1.1 36 3
      refine sx_bipush dX10_change_76 ⟨by decide, by decide, by decide⟩ ?_
      refine sx_icmp_gt (tgt := 90) dX10_change_78 (by decide) (fun c9 => ?_) (fun c9 => ?_)
      ·
        refine sx_bipush dX10_change_90 ⟨by decide, by decide, by decide⟩ ?_
        refine sx_goto (tgt := 96) dX10_change_92 (by decide) ?_
        refine sx_ireturn dX10_change_96 ?_
        exact ⟨_, rfl, Ih7⟩
      ·
        refine sx_aload_n dX10_change_81 rfl ?_
        refine sx_getI (k := 4) cl_10 fl_X10_44 dX10_change_82 s_36 (by decide) rfl (by decide) ?_
        refine sx_bipush dX10_change_85 ⟨by decide, by decide, by decide⟩ ?_
        refine sx_icmp_le (tgt := 95) dX10_change_87 (by decide) (fun c10 => ?_) (fun c10 => ?_)
        ·
          refine sx_iconst dX10_change_95 ⟨by decide, by decide⟩ ?_
          refine sx_ireturn dX10_change_96 ?_
          exact ⟨_, rfl, Ih7⟩
        ·
          refine sx_bipush dX10_change_90 ⟨by decide, by decide, by decide⟩ ?_
          refine sx_goto (tgt := 96) dX10_change_92 (by decide) ?_
          refine sx_ireturn dX10_change_96 ?_
          exact ⟨_, rfl, Ih7⟩
    ·
      refine sx_aload_n dX10_change_44 rfl ?_
      refine sx_getI (k := 1) cl_10 fl_X10_34 dX10_change_45 s_36 (by decide) rfl (by decide) ?_
      refine sx_iload_n dX10_change_48 rfl ?_
      refine sx_iadd dX10_change_49 ?_
      refine sx_goto (tgt := 57) dX10_change_50 (by decide) ?_
      refine sy_putI (k := 4) cl_10 fl_X10_44 dX10_change_57 s_36 (by decide) rfl (by decide) rfl rfl (fun h11 eh11 => ?_)
      have Ih11 := Ih4.up eh11 trivial rfl rfl
      refine sx_aload_n dX10_change_60 rfl ?_
      refine sx_dupr dX10_change_61 ?_
      refine sx_getI (k := 1) cl_10 fl_X10_34 dX10_change_62 s_36 (by decide) rfl (by decide) ?_
      refine sx_iload_n dX10_change_65 rfl ?_
      refine sx_iload_n dX10_change_66 rfl ?_
      refine sx_isub dX10_change_67 ?_
      refine sx_iadd dX10_change_68 ?_
      refine sy_putI (k := 1) cl_10 fl_X10_34 dX10_change_69 s_36 (by decide) rfl (by decide) rfl rfl (fun h12 eh12 => ?_)
      have Ih12 := Ih11.up eh12 trivial rfl rfl
      refine sx_aload_n dX10_change_72 rfl ?_
      refine sx_getI (k := 3) cl_10 fl_X10_41 dX10_change_73 s_36 (by decide) rfl (by decide) ?_
      have r13 : (0 : Int) ≤ h12 36 3 ∧ h12 36 3 ≤ 2147483647 := Ih12.1.1 36 3
      refine sx_bipush dX10_change_76 ⟨by decide, by decide, by decide⟩ ?_
      refine sx_icmp_gt (tgt := 90) dX10_change_78 (by decide) (fun c14 => ?_) (fun c14 => ?_)
      ·
        refine sx_bipush dX10_change_90 ⟨by decide, by decide, by decide⟩ ?_
        refine sx_goto (tgt := 96) dX10_change_92 (by decide) ?_
        refine sx_ireturn dX10_change_96 ?_
        exact ⟨_, rfl, Ih12⟩
      ·
        refine sx_aload_n dX10_change_81 rfl ?_
        refine sx_getI (k := 4) cl_10 fl_X10_44 dX10_change_82 s_36 (by decide) rfl (by decide) ?_
        refine sx_bipush dX10_change_85 ⟨by decide, by decide, by decide⟩ ?_
        refine sx_icmp_le (tgt := 95) dX10_change_87 (by decide) (fun c15 => ?_) (fun c15 => ?_)
        ·
          refine sx_iconst dX10_change_95 ⟨by decide, by decide⟩ ?_
          refine sx_ireturn dX10_change_96 ?_
          exact ⟨_, rfl, Ih12⟩
        ·
          refine sx_bipush dX10_change_90 ⟨by decide, by decide, by decide⟩ ?_
          refine sx_goto (tgt := 96) dX10_change_92 (by decide) ?_
          refine sx_ireturn dX10_change_96 ?_
          exact ⟨_, rfl, Ih12⟩
  ·
    refine sx_iload_n dX10_change_14 rfl ?_
    refine sx_aload_n dX10_change_15 rfl ?_
    refine sx_getI (k := 1) cl_10 fl_X10_34 dX10_change_16 s_36 (by decide) rfl (by decide) ?_
    refine sx_isub dX10_change_19 ?_
    refine sx_goto (tgt := 27) dX10_change_20 (by decide) ?_
    have ow : sw_w (a - h0 36 1) ≤ 2147483647 := (sw_w_ok _).2
    refine sy_putI (k := 3) cl_10 fl_X10_41 dX10_change_27 s_36 (by decide) rfl (by decide) rfl rfl (fun h16 eh16 => ?_)
    have Ih16 := hI.up eh16 (show (0 : Int) ≤ _ ∧ _ ≤ (2147483647 : Int) from ⟨by omega, by omega⟩) rfl rfl
    refine sx_aload_n dX10_change_30 rfl ?_
    refine sx_aload_n dX10_change_31 rfl ?_
    refine sx_getI (k := 1) cl_10 fl_X10_34 dX10_change_32 s_36 (by decide) rfl (by decide) ?_
    refine sx_iload_n dX10_change_35 rfl ?_
    refine sx_iadd dX10_change_36 ?_
    refine sx_aload_n dX10_change_37 rfl ?_
    refine sx_getI (k := 4) cl_10 fl_X10_44 dX10_change_38 s_36 (by decide) rfl (by decide) ?_
    refine sx_icmp_le (tgt := 53) dX10_change_41 (by decide) (fun c17 => ?_) (fun c17 => ?_)
    ·
      refine sx_aload_n dX10_change_53 rfl ?_
      refine sx_getI (k := 4) cl_10 fl_X10_44 dX10_change_54 s_36 (by decide) rfl (by decide) ?_
      refine sy_putI (k := 4) cl_10 fl_X10_44 dX10_change_57 s_36 (by decide) rfl (by decide) rfl rfl (fun h18 eh18 => ?_)
      have Ih18 := Ih16.up eh18 trivial rfl rfl
      refine sx_aload_n dX10_change_60 rfl ?_
      refine sx_dupr dX10_change_61 ?_
      refine sx_getI (k := 1) cl_10 fl_X10_34 dX10_change_62 s_36 (by decide) rfl (by decide) ?_
      refine sx_iload_n dX10_change_65 rfl ?_
      refine sx_iload_n dX10_change_66 rfl ?_
      refine sx_isub dX10_change_67 ?_
      refine sx_iadd dX10_change_68 ?_
      refine sy_putI (k := 1) cl_10 fl_X10_34 dX10_change_69 s_36 (by decide) rfl (by decide) rfl rfl (fun h19 eh19 => ?_)
      have Ih19 := Ih18.up eh19 trivial rfl rfl
      refine sx_aload_n dX10_change_72 rfl ?_
      refine sx_getI (k := 3) cl_10 fl_X10_41 dX10_change_73 s_36 (by decide) rfl (by decide) ?_
      have r20 : (0 : Int) ≤ h19 36 3 ∧ h19 36 3 ≤ 2147483647 := Ih19.1.1 36 3
      refine sx_bipush dX10_change_76 ⟨by decide, by decide, by decide⟩ ?_
      refine sx_icmp_gt (tgt := 90) dX10_change_78 (by decide) (fun c21 => ?_) (fun c21 => ?_)
      ·
        refine sx_bipush dX10_change_90 ⟨by decide, by decide, by decide⟩ ?_
        refine sx_goto (tgt := 96) dX10_change_92 (by decide) ?_
        refine sx_ireturn dX10_change_96 ?_
        exact ⟨_, rfl, Ih19⟩
      ·
        refine sx_aload_n dX10_change_81 rfl ?_
        refine sx_getI (k := 4) cl_10 fl_X10_44 dX10_change_82 s_36 (by decide) rfl (by decide) ?_
        refine sx_bipush dX10_change_85 ⟨by decide, by decide, by decide⟩ ?_
        refine sx_icmp_le (tgt := 95) dX10_change_87 (by decide) (fun c22 => ?_) (fun c22 => ?_)
        ·
          refine sx_iconst dX10_change_95 ⟨by decide, by decide⟩ ?_
          refine sx_ireturn dX10_change_96 ?_
          exact ⟨_, rfl, Ih19⟩
        ·
          refine sx_bipush dX10_change_90 ⟨by decide, by decide, by decide⟩ ?_
          refine sx_goto (tgt := 96) dX10_change_92 (by decide) ?_
          refine sx_ireturn dX10_change_96 ?_
          exact ⟨_, rfl, Ih19⟩
    ·
      refine sx_aload_n dX10_change_44 rfl ?_
      refine sx_getI (k := 1) cl_10 fl_X10_34 dX10_change_45 s_36 (by decide) rfl (by decide) ?_
      refine sx_iload_n dX10_change_48 rfl ?_
      refine sx_iadd dX10_change_49 ?_
      refine sx_goto (tgt := 57) dX10_change_50 (by decide) ?_
      refine sy_putI (k := 4) cl_10 fl_X10_44 dX10_change_57 s_36 (by decide) rfl (by decide) rfl rfl (fun h23 eh23 => ?_)
      have Ih23 := Ih16.up eh23 trivial rfl rfl
      refine sx_aload_n dX10_change_60 rfl ?_
      refine sx_dupr dX10_change_61 ?_
      refine sx_getI (k := 1) cl_10 fl_X10_34 dX10_change_62 s_36 (by decide) rfl (by decide) ?_
      refine sx_iload_n dX10_change_65 rfl ?_
      refine sx_iload_n dX10_change_66 rfl ?_
      refine sx_isub dX10_change_67 ?_
      refine sx_iadd dX10_change_68 ?_
      refine sy_putI (k := 1) cl_10 fl_X10_34 dX10_change_69 s_36 (by decide) rfl (by decide) rfl rfl (fun h24 eh24 => ?_)
      have Ih24 := Ih23.up eh24 trivial rfl rfl
      refine sx_aload_n dX10_change_72 rfl ?_
      refine sx_getI (k := 3) cl_10 fl_X10_41 dX10_change_73 s_36 (by decide) rfl (by decide) ?_
      have r25 : (0 : Int) ≤ h24 36 3 ∧ h24 36 3 ≤ 2147483647 := Ih24.1.1 36 3
      refine sx_bipush dX10_change_76 ⟨by decide, by decide, by decide⟩ ?_
      refine sx_icmp_gt (tgt := 90) dX10_change_78 (by decide) (fun c26 => ?_) (fun c26 => ?_)
      ·
        refine sx_bipush dX10_change_90 ⟨by decide, by decide, by decide⟩ ?_
        refine sx_goto (tgt := 96) dX10_change_92 (by decide) ?_
        refine sx_ireturn dX10_change_96 ?_
        exact ⟨_, rfl, Ih24⟩
      ·
        refine sx_aload_n dX10_change_81 rfl ?_
        refine sx_getI (k := 4) cl_10 fl_X10_44 dX10_change_82 s_36 (by decide) rfl (by decide) ?_
        refine sx_bipush dX10_change_85 ⟨by decide, by decide, by decide⟩ ?_
        refine sx_icmp_le (tgt := 95) dX10_change_87 (by decide) (fun c27 => ?_) (fun c27 => ?_)
        ·
          refine sx_iconst dX10_change_95 ⟨by decide, by decide⟩ ?_
          refine sx_ireturn dX10_change_96 ?_
          exact ⟨_, rfl, Ih24⟩
        ·
          refine sx_bipush dX10_change_90 ⟨by decide, by decide, by decide⟩ ?_
          refine sx_goto (tgt := 96) dX10_change_92 (by decide) ?_
          refine sx_ireturn dX10_change_96 ?_
          exact ⟨_, rfl, Ih24⟩
set_option maxRecDepth 20000 in
set_option maxHeartbeats 4000000 in
theorem c_X10_passThing_36 {G : sw_G} (d : Nat) {h0 : sw_H} (hJ : cJ h0) (a : Int) : sw_E G NH SH (d + 1) mX10_passThing 0 [some (sw_r 36), some (sw_i a), none] [] h0 (sw_Qi (fun z h' => cK prT h0 h' ∧ (z = 0 → 0 ≤ a ∧ a ≤ 14))) := by
  have hI : cK prT h0 h0 := cK.refl hJ
  refine sx_iload_n dX10_passThing_0 rfl ?_
  refine sx_if_lt (tgt := 23) dX10_passThing_1 (by decide) (fun c1 => ?_) (fun c1 => ?_)
  ·
    refine sx_bipush dX10_passThing_23 ⟨by decide, by decide, by decide⟩ ?_
    refine sx_ireturn dX10_passThing_25 ?_
    exact ⟨_, rfl, ⟨hI, by omega⟩⟩
  ·
    refine sx_iload_n dX10_passThing_4 rfl ?_
    refine sx_bipush dX10_passThing_5 ⟨by decide, by decide, by decide⟩ ?_
    refine sx_icmp_ge (tgt := 23) dX10_passThing_7 (by decide) (fun c2 => ?_) (fun c2 => ?_)
    ·
      refine sx_bipush dX10_passThing_23 ⟨by decide, by decide, by decide⟩ ?_
      refine sx_ireturn dX10_passThing_25 ?_
      exact ⟨_, rfl, ⟨hI, by omega⟩⟩
    ·
      refine sx_iload_n dX10_passThing_10 rfl ?_
      refine sx_bipush dX10_passThing_11 ⟨by decide, by decide, by decide⟩ ?_
      refine sx_icmp_ne (tgt := 26) dX10_passThing_13 (by decide) (fun c3 => ?_) (fun c3 => ?_)
      ·
        refine sx_aload_n dX10_passThing_26 rfl ?_
        refine sx_dupr dX10_passThing_27 ?_
        refine sx_getI (k := 6) cl_10 fl_X10_50 dX10_passThing_28 s_36 (by decide) rfl (by decide) ?_
        refine sx_iconst dX10_passThing_31 ⟨by decide, by decide⟩ ?_
        refine sx_iadd dX10_passThing_32 ?_
        refine sy_putI (k := 6) cl_10 fl_X10_50 dX10_passThing_33 s_36 (by decide) rfl (by decide) rfl rfl (fun h4 eh4 => ?_)
        have Ih4 := hI.up eh4 trivial rfl rfl
        refine sx_iload_n dX10_passThing_36 rfl ?_
        refine sx_bipush dX10_passThing_37 ⟨by decide, by decide, by decide⟩ ?_
        refine sx_icmp_ne (tgt := 70) dX10_passThing_39 (by decide) (fun c5 => ?_) (fun c5 => ?_)
        ·
          refine sx_iload_n dX10_passThing_70 rfl ?_
          refine sx_bipush dX10_passThing_71 ⟨by decide, by decide, by decide⟩ ?_
          refine sx_icmp_ne (tgt := 86) dX10_passThing_73 (by decide) (fun c6 => ?_) (fun c6 => ?_)
          ·
            refine sx_aload_n dX10_passThing_86 rfl ?_
            refine sx_gets (t := 0) (by decide) sl_X10_86 dX10_passThing_87 ?_
            refine sx_iload_n dX10_passThing_90 rfl ?_
            refine sy_sia (t := 0) (n := 15) (by decide) dX10_passThing_91 rfl ⟨by omega, by omega⟩ (fun r7 => ?_)
            refine sx_gets (t := 1) (by decide) sl_X10_89 dX10_passThing_92 ?_
            refine sx_iload_n dX10_passThing_95 rfl ?_
            refine sy_sia (t := 1) (n := 15) (by decide) dX10_passThing_96 rfl ⟨by omega, by omega⟩ (fun r8 => ?_)
            refine sx_gets (t := 1) (by decide) sl_X10_89 dX10_passThing_97 ?_
            refine sx_iload_n dX10_passThing_100 rfl ?_
            refine sy_sia (t := 1) (n := 15) (by decide) dX10_passThing_101 rfl ⟨by omega, by omega⟩ (fun r9 => ?_)
            refine sx_gets (t := 0) (by decide) sl_X10_86 dX10_passThing_102 ?_
            refine sx_iload_n dX10_passThing_105 rfl ?_
            refine sy_sia (t := 0) (n := 15) (by decide) dX10_passThing_106 rfl ⟨by omega, by omega⟩ (fun r10 => ?_)
            refine sx_isub dX10_passThing_107 ?_
            refine sx_callVi lk_X10_60 cl_10 s_36 (by decide) dX10_passThing_108 (vs := [_, _, _]) rfl rfl (Nat.le_of_ble_eq_true rfl) (Nat.le_of_ble_eq_true rfl) rfl (c_X10_change_36 _ Ih4.1 _ _ _) (fun x12 h11 ph11 => ?_)
            have Kh11 := ph11
            have Ih11 := Ih4.tr Kh11 sb_prT_prT
            refine sx_istore_n dX10_passThing_111 (by decide) ?_
            refine sx_aload_n dX10_passThing_112 rfl ?_
            refine sx_getI (k := 2) cl_10 fl_X10_38 dX10_passThing_113 s_36 (by decide) rfl (by decide) ?_
            refine sx_bipush dX10_passThing_116 ⟨by decide, by decide, by decide⟩ ?_
            refine sx_icmp_le (tgt := 126) dX10_passThing_118 (by decide) (fun c13 => ?_) (fun c13 => ?_)
            ·
              refine sx_iload_n dX10_passThing_126 rfl ?_
              refine sx_ireturn dX10_passThing_127 ?_
              exact ⟨_, rfl, ⟨Ih11, by omega⟩⟩
            ·
              refine sx_bipush dX10_passThing_121 ⟨by decide, by decide, by decide⟩ ?_
              refine sx_goto (tgt := 127) dX10_passThing_123 (by decide) ?_
              refine sx_ireturn dX10_passThing_127 ?_
              exact ⟨_, rfl, ⟨Ih11, by omega⟩⟩
          ·
            refine sx_aload_n dX10_passThing_76 rfl ?_
            refine sx_dupr dX10_passThing_77 ?_
            refine sx_getI (k := 2) cl_10 fl_X10_38 dX10_passThing_78 s_36 (by decide) rfl (by decide) ?_
            refine sx_iconst dX10_passThing_81 ⟨by decide, by decide⟩ ?_
            refine sx_isub dX10_passThing_82 ?_
            refine sy_putI (k := 2) cl_10 fl_X10_38 dX10_passThing_83 s_36 (by decide) rfl (by decide) rfl rfl (fun h14 eh14 => ?_)
            have Ih14 := Ih4.up eh14 trivial rfl rfl
            refine sx_aload_n dX10_passThing_86 rfl ?_
            refine sx_gets (t := 0) (by decide) sl_X10_86 dX10_passThing_87 ?_
            refine sx_iload_n dX10_passThing_90 rfl ?_
            refine sy_sia (t := 0) (n := 15) (by decide) dX10_passThing_91 rfl ⟨by omega, by omega⟩ (fun r15 => ?_)
            refine sx_gets (t := 1) (by decide) sl_X10_89 dX10_passThing_92 ?_
            refine sx_iload_n dX10_passThing_95 rfl ?_
            refine sy_sia (t := 1) (n := 15) (by decide) dX10_passThing_96 rfl ⟨by omega, by omega⟩ (fun r16 => ?_)
            refine sx_gets (t := 1) (by decide) sl_X10_89 dX10_passThing_97 ?_
            refine sx_iload_n dX10_passThing_100 rfl ?_
            refine sy_sia (t := 1) (n := 15) (by decide) dX10_passThing_101 rfl ⟨by omega, by omega⟩ (fun r17 => ?_)
            refine sx_gets (t := 0) (by decide) sl_X10_86 dX10_passThing_102 ?_
            refine sx_iload_n dX10_passThing_105 rfl ?_
            refine sy_sia (t := 0) (n := 15) (by decide) dX10_passThing_106 rfl ⟨by omega, by omega⟩ (fun r18 => ?_)
            refine sx_isub dX10_passThing_107 ?_
            refine sx_callVi lk_X10_60 cl_10 s_36 (by decide) dX10_passThing_108 (vs := [_, _, _]) rfl rfl (Nat.le_of_ble_eq_true rfl) (Nat.le_of_ble_eq_true rfl) rfl (c_X10_change_36 _ Ih14.1 _ _ _) (fun x20 h19 ph19 => ?_)
            have Kh19 := ph19
            have Ih19 := Ih14.tr Kh19 sb_prT_prT
            refine sx_istore_n dX10_passThing_111 (by decide) ?_
            refine sx_aload_n dX10_passThing_112 rfl ?_
            refine sx_getI (k := 2) cl_10 fl_X10_38 dX10_passThing_113 s_36 (by decide) rfl (by decide) ?_
            refine sx_bipush dX10_passThing_116 ⟨by decide, by decide, by decide⟩ ?_
            refine sx_icmp_le (tgt := 126) dX10_passThing_118 (by decide) (fun c21 => ?_) (fun c21 => ?_)
            ·
              refine sx_iload_n dX10_passThing_126 rfl ?_
              refine sx_ireturn dX10_passThing_127 ?_
              exact ⟨_, rfl, ⟨Ih19, by omega⟩⟩
            ·
              refine sx_bipush dX10_passThing_121 ⟨by decide, by decide, by decide⟩ ?_
              refine sx_goto (tgt := 127) dX10_passThing_123 (by decide) ?_
              refine sx_ireturn dX10_passThing_127 ?_
              exact ⟨_, rfl, ⟨Ih19, by omega⟩⟩
        ·
          refine sx_aload_n dX10_passThing_42 rfl ?_
          refine sx_dupr dX10_passThing_43 ?_
          refine sx_getI (k := 2) cl_10 fl_X10_38 dX10_passThing_44 s_36 (by decide) rfl (by decide) ?_
          refine sx_iconst dX10_passThing_47 ⟨by decide, by decide⟩ ?_
          refine sx_iadd dX10_passThing_48 ?_
          refine sy_putI (k := 2) cl_10 fl_X10_38 dX10_passThing_49 s_36 (by decide) rfl (by decide) rfl rfl (fun h22 eh22 => ?_)
          have Ih22 := Ih4.up eh22 trivial rfl rfl
          refine sx_aload_n dX10_passThing_52 rfl ?_
          refine sx_aload_n dX10_passThing_53 rfl ?_
          refine sx_getI (k := 5) cl_10 fl_X10_47 dX10_passThing_54 s_36 (by decide) rfl (by decide) ?_
          refine sx_aload_n dX10_passThing_57 rfl ?_
          refine sx_getI (k := 2) cl_10 fl_X10_38 dX10_passThing_58 s_36 (by decide) rfl (by decide) ?_
          refine sx_max lm_X10_80 lw_max dX10_passThing_61 (Nat.le_of_ble_eq_true rfl) ?_
          refine sy_max (fun m23 em23 fm23 gm23 => ?_)
          refine sy_putI (k := 5) cl_10 fl_X10_47 dX10_passThing_64 s_36 (by decide) rfl (by decide) rfl rfl (fun h24 eh24 => ?_)
          have Ih24 := Ih22.up eh24 trivial rfl rfl
          refine sx_goto (tgt := 86) dX10_passThing_67 (by decide) ?_
          refine sx_aload_n dX10_passThing_86 rfl ?_
          refine sx_gets (t := 0) (by decide) sl_X10_86 dX10_passThing_87 ?_
          refine sx_iload_n dX10_passThing_90 rfl ?_
          refine sy_sia (t := 0) (n := 15) (by decide) dX10_passThing_91 rfl ⟨by omega, by omega⟩ (fun r25 => ?_)
          refine sx_gets (t := 1) (by decide) sl_X10_89 dX10_passThing_92 ?_
          refine sx_iload_n dX10_passThing_95 rfl ?_
          refine sy_sia (t := 1) (n := 15) (by decide) dX10_passThing_96 rfl ⟨by omega, by omega⟩ (fun r26 => ?_)
          refine sx_gets (t := 1) (by decide) sl_X10_89 dX10_passThing_97 ?_
          refine sx_iload_n dX10_passThing_100 rfl ?_
          refine sy_sia (t := 1) (n := 15) (by decide) dX10_passThing_101 rfl ⟨by omega, by omega⟩ (fun r27 => ?_)
          refine sx_gets (t := 0) (by decide) sl_X10_86 dX10_passThing_102 ?_
          refine sx_iload_n dX10_passThing_105 rfl ?_
          refine sy_sia (t := 0) (n := 15) (by decide) dX10_passThing_106 rfl ⟨by omega, by omega⟩ (fun r28 => ?_)
          refine sx_isub dX10_passThing_107 ?_
          refine sx_callVi lk_X10_60 cl_10 s_36 (by decide) dX10_passThing_108 (vs := [_, _, _]) rfl rfl (Nat.le_of_ble_eq_true rfl) (Nat.le_of_ble_eq_true rfl) rfl (c_X10_change_36 _ Ih24.1 _ _ _) (fun x30 h29 ph29 => ?_)
          have Kh29 := ph29
          have Ih29 := Ih24.tr Kh29 sb_prT_prT
          refine sx_istore_n dX10_passThing_111 (by decide) ?_
          refine sx_aload_n dX10_passThing_112 rfl ?_
          refine sx_getI (k := 2) cl_10 fl_X10_38 dX10_passThing_113 s_36 (by decide) rfl (by decide) ?_
          refine sx_bipush dX10_passThing_116 ⟨by decide, by decide, by decide⟩ ?_
          refine sx_icmp_le (tgt := 126) dX10_passThing_118 (by decide) (fun c31 => ?_) (fun c31 => ?_)
          ·
            refine sx_iload_n dX10_passThing_126 rfl ?_
            refine sx_ireturn dX10_passThing_127 ?_
            exact ⟨_, rfl, ⟨Ih29, by omega⟩⟩
          ·
            refine sx_bipush dX10_passThing_121 ⟨by decide, by decide, by decide⟩ ?_
            refine sx_goto (tgt := 127) dX10_passThing_123 (by decide) ?_
            refine sx_ireturn dX10_passThing_127 ?_
            exact ⟨_, rfl, ⟨Ih29, by omega⟩⟩
      ·
        refine sx_aload_n dX10_passThing_16 rfl ?_
        refine sx_getI (k := 2) cl_10 fl_X10_38 dX10_passThing_17 s_36 (by decide) rfl (by decide) ?_
        refine sx_if_ne (tgt := 26) dX10_passThing_20 (by decide) (fun c32 => ?_) (fun c32 => ?_)
        ·
          refine sx_aload_n dX10_passThing_26 rfl ?_
          refine sx_dupr dX10_passThing_27 ?_
          refine sx_getI (k := 6) cl_10 fl_X10_50 dX10_passThing_28 s_36 (by decide) rfl (by decide) ?_
          refine sx_iconst dX10_passThing_31 ⟨by decide, by decide⟩ ?_
          refine sx_iadd dX10_passThing_32 ?_
          refine sy_putI (k := 6) cl_10 fl_X10_50 dX10_passThing_33 s_36 (by decide) rfl (by decide) rfl rfl (fun h33 eh33 => ?_)
          have Ih33 := hI.up eh33 trivial rfl rfl
          refine sx_iload_n dX10_passThing_36 rfl ?_
          refine sx_bipush dX10_passThing_37 ⟨by decide, by decide, by decide⟩ ?_
          refine sx_icmp_ne (tgt := 70) dX10_passThing_39 (by decide) (fun c34 => ?_) (fun c34 => ?_)
          ·
            refine sx_iload_n dX10_passThing_70 rfl ?_
            refine sx_bipush dX10_passThing_71 ⟨by decide, by decide, by decide⟩ ?_
            refine sx_icmp_ne (tgt := 86) dX10_passThing_73 (by decide) (fun c35 => ?_) (fun c35 => ?_)
            ·
              refine sx_aload_n dX10_passThing_86 rfl ?_
              refine sx_gets (t := 0) (by decide) sl_X10_86 dX10_passThing_87 ?_
              refine sx_iload_n dX10_passThing_90 rfl ?_
              refine sy_sia (t := 0) (n := 15) (by decide) dX10_passThing_91 rfl ⟨by omega, by omega⟩ (fun r36 => ?_)
              refine sx_gets (t := 1) (by decide) sl_X10_89 dX10_passThing_92 ?_
              refine sx_iload_n dX10_passThing_95 rfl ?_
              refine sy_sia (t := 1) (n := 15) (by decide) dX10_passThing_96 rfl ⟨by omega, by omega⟩ (fun r37 => ?_)
              refine sx_gets (t := 1) (by decide) sl_X10_89 dX10_passThing_97 ?_
              refine sx_iload_n dX10_passThing_100 rfl ?_
              refine sy_sia (t := 1) (n := 15) (by decide) dX10_passThing_101 rfl ⟨by omega, by omega⟩ (fun r38 => ?_)
              refine sx_gets (t := 0) (by decide) sl_X10_86 dX10_passThing_102 ?_
              refine sx_iload_n dX10_passThing_105 rfl ?_
              refine sy_sia (t := 0) (n := 15) (by decide) dX10_passThing_106 rfl ⟨by omega, by omega⟩ (fun r39 => ?_)
              refine sx_isub dX10_passThing_107 ?_
              refine sx_callVi lk_X10_60 cl_10 s_36 (by decide) dX10_passThing_108 (vs := [_, _, _]) rfl rfl (Nat.le_of_ble_eq_true rfl) (Nat.le_of_ble_eq_true rfl) rfl (c_X10_change_36 _ Ih33.1 _ _ _) (fun x41 h40 ph40 => ?_)
              have Kh40 := ph40
              have Ih40 := Ih33.tr Kh40 sb_prT_prT
              refine sx_istore_n dX10_passThing_111 (by decide) ?_
              refine sx_aload_n dX10_passThing_112 rfl ?_
              refine sx_getI (k := 2) cl_10 fl_X10_38 dX10_passThing_113 s_36 (by decide) rfl (by decide) ?_
              refine sx_bipush dX10_passThing_116 ⟨by decide, by decide, by decide⟩ ?_
              refine sx_icmp_le (tgt := 126) dX10_passThing_118 (by decide) (fun c42 => ?_) (fun c42 => ?_)
              ·
                refine sx_iload_n dX10_passThing_126 rfl ?_
                refine sx_ireturn dX10_passThing_127 ?_
                exact ⟨_, rfl, ⟨Ih40, by omega⟩⟩
              ·
                refine sx_bipush dX10_passThing_121 ⟨by decide, by decide, by decide⟩ ?_
                refine sx_goto (tgt := 127) dX10_passThing_123 (by decide) ?_
                refine sx_ireturn dX10_passThing_127 ?_
                exact ⟨_, rfl, ⟨Ih40, by omega⟩⟩
            ·
              refine sx_aload_n dX10_passThing_76 rfl ?_
              refine sx_dupr dX10_passThing_77 ?_
              refine sx_getI (k := 2) cl_10 fl_X10_38 dX10_passThing_78 s_36 (by decide) rfl (by decide) ?_
              refine sx_iconst dX10_passThing_81 ⟨by decide, by decide⟩ ?_
              refine sx_isub dX10_passThing_82 ?_
              refine sy_putI (k := 2) cl_10 fl_X10_38 dX10_passThing_83 s_36 (by decide) rfl (by decide) rfl rfl (fun h43 eh43 => ?_)
              have Ih43 := Ih33.up eh43 trivial rfl rfl
              refine sx_aload_n dX10_passThing_86 rfl ?_
              refine sx_gets (t := 0) (by decide) sl_X10_86 dX10_passThing_87 ?_
              refine sx_iload_n dX10_passThing_90 rfl ?_
              refine sy_sia (t := 0) (n := 15) (by decide) dX10_passThing_91 rfl ⟨by omega, by omega⟩ (fun r44 => ?_)
              refine sx_gets (t := 1) (by decide) sl_X10_89 dX10_passThing_92 ?_
              refine sx_iload_n dX10_passThing_95 rfl ?_
              refine sy_sia (t := 1) (n := 15) (by decide) dX10_passThing_96 rfl ⟨by omega, by omega⟩ (fun r45 => ?_)
              refine sx_gets (t := 1) (by decide) sl_X10_89 dX10_passThing_97 ?_
              refine sx_iload_n dX10_passThing_100 rfl ?_
              refine sy_sia (t := 1) (n := 15) (by decide) dX10_passThing_101 rfl ⟨by omega, by omega⟩ (fun r46 => ?_)
              refine sx_gets (t := 0) (by decide) sl_X10_86 dX10_passThing_102 ?_
              refine sx_iload_n dX10_passThing_105 rfl ?_
              refine sy_sia (t := 0) (n := 15) (by decide) dX10_passThing_106 rfl ⟨by omega, by omega⟩ (fun r47 => ?_)
              refine sx_isub dX10_passThing_107 ?_
              refine sx_callVi lk_X10_60 cl_10 s_36 (by decide) dX10_passThing_108 (vs := [_, _, _]) rfl rfl (Nat.le_of_ble_eq_true rfl) (Nat.le_of_ble_eq_true rfl) rfl (c_X10_change_36 _ Ih43.1 _ _ _) (fun x49 h48 ph48 => ?_)
              have Kh48 := ph48
              have Ih48 := Ih43.tr Kh48 sb_prT_prT
              refine sx_istore_n dX10_passThing_111 (by decide) ?_
              refine sx_aload_n dX10_passThing_112 rfl ?_
              refine sx_getI (k := 2) cl_10 fl_X10_38 dX10_passThing_113 s_36 (by decide) rfl (by decide) ?_
              refine sx_bipush dX10_passThing_116 ⟨by decide, by decide, by decide⟩ ?_
              refine sx_icmp_le (tgt := 126) dX10_passThing_118 (by decide) (fun c50 => ?_) (fun c50 => ?_)
              ·
                refine sx_iload_n dX10_passThing_126 rfl ?_
                refine sx_ireturn dX10_passThing_127 ?_
                exact ⟨_, rfl, ⟨Ih48, by omega⟩⟩
              ·
                refine sx_bipush dX10_passThing_121 ⟨by decide, by decide, by decide⟩ ?_
                refine sx_goto (tgt := 127) dX10_passThing_123 (by decide) ?_
                refine sx_ireturn dX10_passThing_127 ?_
                exact ⟨_, rfl, ⟨Ih48, by omega⟩⟩
          ·
            refine sx_aload_n dX10_passThing_42 rfl ?_
            refine sx_dupr dX10_passThing_43 ?_
            refine sx_getI (k := 2) cl_10 fl_X10_38 dX10_passThing_44 s_36 (by decide) rfl (by decide) ?_
            refine sx_iconst dX10_passThing_47 ⟨by decide, by decide⟩ ?_
            refine sx_iadd dX10_passThing_48 ?_
            refine sy_putI (k := 2) cl_10 fl_X10_38 dX10_passThing_49 s_36 (by decide) rfl (by decide) rfl rfl (fun h51 eh51 => ?_)
            have Ih51 := Ih33.up eh51 trivial rfl rfl
            refine sx_aload_n dX10_passThing_52 rfl ?_
            refine sx_aload_n dX10_passThing_53 rfl ?_
            refine sx_getI (k := 5) cl_10 fl_X10_47 dX10_passThing_54 s_36 (by decide) rfl (by decide) ?_
            refine sx_aload_n dX10_passThing_57 rfl ?_
            refine sx_getI (k := 2) cl_10 fl_X10_38 dX10_passThing_58 s_36 (by decide) rfl (by decide) ?_
            refine sx_max lm_X10_80 lw_max dX10_passThing_61 (Nat.le_of_ble_eq_true rfl) ?_
            refine sy_max (fun m52 em52 fm52 gm52 => ?_)
            refine sy_putI (k := 5) cl_10 fl_X10_47 dX10_passThing_64 s_36 (by decide) rfl (by decide) rfl rfl (fun h53 eh53 => ?_)
            have Ih53 := Ih51.up eh53 trivial rfl rfl
            refine sx_goto (tgt := 86) dX10_passThing_67 (by decide) ?_
            refine sx_aload_n dX10_passThing_86 rfl ?_
            refine sx_gets (t := 0) (by decide) sl_X10_86 dX10_passThing_87 ?_
            refine sx_iload_n dX10_passThing_90 rfl ?_
            refine sy_sia (t := 0) (n := 15) (by decide) dX10_passThing_91 rfl ⟨by omega, by omega⟩ (fun r54 => ?_)
            refine sx_gets (t := 1) (by decide) sl_X10_89 dX10_passThing_92 ?_
            refine sx_iload_n dX10_passThing_95 rfl ?_
            refine sy_sia (t := 1) (n := 15) (by decide) dX10_passThing_96 rfl ⟨by omega, by omega⟩ (fun r55 => ?_)
            refine sx_gets (t := 1) (by decide) sl_X10_89 dX10_passThing_97 ?_
            refine sx_iload_n dX10_passThing_100 rfl ?_
            refine sy_sia (t := 1) (n := 15) (by decide) dX10_passThing_101 rfl ⟨by omega, by omega⟩ (fun r56 => ?_)
            refine sx_gets (t := 0) (by decide) sl_X10_86 dX10_passThing_102 ?_
            refine sx_iload_n dX10_passThing_105 rfl ?_
            refine sy_sia (t := 0) (n := 15) (by decide) dX10_passThing_106 rfl ⟨by omega, by omega⟩ (fun r57 => ?_)
            refine sx_isub dX10_passThing_107 ?_
            refine sx_callVi lk_X10_60 cl_10 s_36 (by decide) dX10_passThing_108 (vs := [_, _, _]) rfl rfl (Nat.le_of_ble_eq_true rfl) (Nat.le_of_ble_eq_true rfl) rfl (c_X10_change_36 _ Ih53.1 _ _ _) (fun x59 h58 ph58 => ?_)
            have Kh58 := ph58
            have Ih58 := Ih53.tr Kh58 sb_prT_prT
            refine sx_istore_n dX10_passThing_111 (by decide) ?_
            refine sx_aload_n dX10_passThing_112 rfl ?_
            refine sx_getI (k := 2) cl_10 fl_X10_38 dX10_passThing_113 s_36 (by decide) rfl (by decide) ?_
            refine sx_bipush dX10_passThing_116 ⟨by decide, by decide, by decide⟩ ?_
            refine sx_icmp_le (tgt := 126) dX10_passThing_118 (by decide) (fun c60 => ?_) (fun c60 => ?_)
            ·
              refine sx_iload_n dX10_passThing_126 rfl ?_
              refine sx_ireturn dX10_passThing_127 ?_
              exact ⟨_, rfl, ⟨Ih58, by omega⟩⟩
            ·
              refine sx_bipush dX10_passThing_121 ⟨by decide, by decide, by decide⟩ ?_
              refine sx_goto (tgt := 127) dX10_passThing_123 (by decide) ?_
              refine sx_ireturn dX10_passThing_127 ?_
              exact ⟨_, rfl, ⟨Ih58, by omega⟩⟩
        ·
          refine sx_bipush dX10_passThing_23 ⟨by decide, by decide, by decide⟩ ?_
          refine sx_ireturn dX10_passThing_25 ?_
          exact ⟨_, rfl, ⟨hI, by omega⟩⟩
set_option maxRecDepth 20000 in
set_option maxHeartbeats 4000000 in
theorem c_X10_enter_36 {G : sw_G} (d : Nat) {h0 : sw_H} (hJ : cJ h0) (a : Int) : sw_E G NH SH (d) mX10_enter 0 [some (sw_r 36), some (sw_i a)] [] h0 (sw_Qi (fun z h' => cK prT h0 h')) := by
  have hI : cK prT h0 h0 := cK.refl hJ
  refine sx_aload_n dX10_enter_0 rfl ?_
  refine sx_getI (k := 7) cl_10 fl_X10_53 dX10_enter_1 s_36 (by decide) rfl (by decide) ?_
  have r1 : (0 : Int) ≤ h0 36 7 ∧ h0 36 7 ≤ 4 := hI.1.1 36 7
  refine sx_iconst dX10_enter_4 ⟨by decide, by decide⟩ ?_
  refine sx_icmp_lt (tgt := 10) dX10_enter_5 (by decide) (fun c2 => ?_) (fun c2 => ?_)
  ·
    refine sx_aload_n dX10_enter_10 rfl ?_
    refine sx_getS (k := 8) (t := 37) cl_10 fl_X10_9 dX10_enter_11 s_36 (by decide) rfl (by decide) ?_
    refine sx_aload_n dX10_enter_14 rfl ?_
    refine sx_getI (k := 7) cl_10 fl_X10_53 dX10_enter_15 s_36 (by decide) rfl (by decide) ?_
    have r3 : (0 : Int) ≤ h0 36 7 ∧ h0 36 7 ≤ 4 := hI.1.1 36 7
    refine sx_aload_n dX10_enter_18 rfl ?_
    refine sx_getI (k := 1) cl_10 fl_X10_34 dX10_enter_19 s_36 (by decide) rfl (by decide) ?_
    refine sy_iastore dX10_enter_22 s_37 (by decide) (by decide) ⟨by omega, by omega⟩ (fun h4 eh4 => ?_)
    have Ih4 := hI.up eh4 trivial rfl rfl
    have th4_36_7 := eh4.2 (36) 7 (by omega)
    refine sx_aload_n dX10_enter_23 rfl ?_
    refine sx_getS (k := 9) (t := 38) cl_10 fl_X10_15 dX10_enter_24 s_36 (by decide) rfl (by decide) ?_
    refine sx_aload_n dX10_enter_27 rfl ?_
    refine sx_getI (k := 7) cl_10 fl_X10_53 dX10_enter_28 s_36 (by decide) rfl (by decide) ?_
    have r5 : (0 : Int) ≤ h4 36 7 ∧ h4 36 7 ≤ 4 := Ih4.1.1 36 7
    refine sx_aload_n dX10_enter_31 rfl ?_
    refine sx_getI (k := 2) cl_10 fl_X10_38 dX10_enter_32 s_36 (by decide) rfl (by decide) ?_
    refine sy_iastore dX10_enter_35 s_38 (by decide) (by decide) ⟨by omega, by omega⟩ (fun h6 eh6 => ?_)
    have Ih6 := Ih4.up eh6 trivial rfl rfl
    have th6_36_7 := eh6.2 (36) 7 (by omega)
    refine sx_aload_n dX10_enter_36 rfl ?_
    refine sx_getS (k := 10) (t := 39) cl_10 fl_X10_18 dX10_enter_37 s_36 (by decide) rfl (by decide) ?_
    refine sx_aload_n dX10_enter_40 rfl ?_
    refine sx_getI (k := 7) cl_10 fl_X10_53 dX10_enter_41 s_36 (by decide) rfl (by decide) ?_
    have r7 : (0 : Int) ≤ h6 36 7 ∧ h6 36 7 ≤ 4 := Ih6.1.1 36 7
    refine sx_aload_n dX10_enter_44 rfl ?_
    refine sx_getI (k := 1) cl_10 fl_X10_34 dX10_enter_45 s_36 (by decide) rfl (by decide) ?_
    refine sy_iastore dX10_enter_48 s_39 (by decide) (by decide) ⟨by omega, by omega⟩ (fun h8 eh8 => ?_)
    have Ih8 := Ih6.up eh8 trivial rfl rfl
    have th8_36_7 := eh8.2 (36) 7 (by omega)
    refine sx_aload_n dX10_enter_49 rfl ?_
    refine sx_getS (k := 11) (t := 40) cl_10 fl_X10_21 dX10_enter_50 s_36 (by decide) rfl (by decide) ?_
    refine sx_aload_n dX10_enter_53 rfl ?_
    refine sx_getI (k := 7) cl_10 fl_X10_53 dX10_enter_54 s_36 (by decide) rfl (by decide) ?_
    have r9 : (0 : Int) ≤ h8 36 7 ∧ h8 36 7 ≤ 4 := Ih8.1.1 36 7
    refine sx_aload_n dX10_enter_57 rfl ?_
    refine sx_getI (k := 2) cl_10 fl_X10_38 dX10_enter_58 s_36 (by decide) rfl (by decide) ?_
    refine sy_iastore dX10_enter_61 s_40 (by decide) (by decide) ⟨by omega, by omega⟩ (fun h10 eh10 => ?_)
    have Ih10 := Ih8.up eh10 trivial rfl rfl
    have th10_36_7 := eh10.2 (36) 7 (by omega)
    refine sx_aload_n dX10_enter_62 rfl ?_
    refine sx_getS (k := 12) (t := 41) cl_10 fl_X10_24 dX10_enter_63 s_36 (by decide) rfl (by decide) ?_
    refine sx_aload_n dX10_enter_66 rfl ?_
    refine sx_getI (k := 7) cl_10 fl_X10_53 dX10_enter_67 s_36 (by decide) rfl (by decide) ?_
    have r11 : (0 : Int) ≤ h10 36 7 ∧ h10 36 7 ≤ 4 := Ih10.1.1 36 7
    refine sx_iload_n dX10_enter_70 rfl ?_
    refine sy_iastore dX10_enter_71 s_41 (by decide) (by decide) ⟨by omega, by omega⟩ (fun h12 eh12 => ?_)
    have Ih12 := Ih10.up eh12 trivial rfl rfl
    have th12_36_7 := eh12.2 (36) 7 (by omega)
    refine sx_aload_n dX10_enter_72 rfl ?_
    refine sx_getS (k := 13) (t := 42) cl_10 fl_X10_27 dX10_enter_73 s_36 (by decide) rfl (by decide) ?_
    refine sx_aload_n dX10_enter_76 rfl ?_
    refine sx_getI (k := 7) cl_10 fl_X10_53 dX10_enter_77 s_36 (by decide) rfl (by decide) ?_
    have r13 : (0 : Int) ≤ h12 36 7 ∧ h12 36 7 ≤ 4 := Ih12.1.1 36 7
    refine sx_aload_n dX10_enter_80 rfl ?_
    refine sx_getI (k := 6) cl_10 fl_X10_50 dX10_enter_81 s_36 (by decide) rfl (by decide) ?_
    refine sx_iconst dX10_enter_84 ⟨by decide, by decide⟩ ?_
    refine sx_iadd dX10_enter_85 ?_
    refine sy_iastore dX10_enter_86 s_42 (by decide) (by decide) ⟨by omega, by omega⟩ (fun h14 eh14 => ?_)
    have Ih14 := Ih12.up eh14 trivial rfl rfl
    have th14_36_7 := eh14.2 (36) 7 (by omega)
    refine sx_aload_n dX10_enter_87 rfl ?_
    refine sx_iconst dX10_enter_88 ⟨by decide, by decide⟩ ?_
    refine sy_putI (k := 6) cl_10 fl_X10_50 dX10_enter_89 s_36 (by decide) rfl (by decide) rfl rfl (fun h15 eh15 => ?_)
    have Ih15 := Ih14.up eh15 trivial rfl rfl
    have th15_36_7 := eh15.2 (36) 7 (by decide)
    refine sx_aload_n dX10_enter_92 rfl ?_
    refine sx_dupr dX10_enter_93 ?_
    refine sx_getI (k := 7) cl_10 fl_X10_53 dX10_enter_94 s_36 (by decide) rfl (by decide) ?_
    have r16 : (0 : Int) ≤ h15 36 7 ∧ h15 36 7 ≤ 4 := Ih15.1.1 36 7
    refine sx_iconst dX10_enter_97 ⟨by decide, by decide⟩ ?_
    refine sx_iadd dX10_enter_98 ?_
    refine sy_topw (by omega) ?_
    refine sy_putI (k := 7) cl_10 fl_X10_53 dX10_enter_99 s_36 (by decide) rfl (by decide) rfl rfl (fun h17 eh17 => ?_)
    have Ih17 := Ih15.up eh17 (show (0 : Int) ≤ _ ∧ _ ≤ (4 : Int) from ⟨by omega, by omega⟩) rfl rfl
    have th17_36_7 := eh17.1
    refine sx_iconst dX10_enter_102 ⟨by decide, by decide⟩ ?_
    refine sx_ireturn dX10_enter_103 ?_
    exact ⟨_, rfl, Ih17⟩
  ·
    refine sx_iconst dX10_enter_8 ⟨by decide, by decide⟩ ?_
    refine sx_ireturn dX10_enter_9 ?_
    exact ⟨_, rfl, hI⟩
set_option maxRecDepth 20000 in
set_option maxHeartbeats 4000000 in
theorem c_X10_passElse_36 {G : sw_G} (d : Nat) {h0 : sw_H} (hJ : cJ h0)  : sw_E G NH SH (d) mX10_passElse 0 [some (sw_r 36), none] [] h0 (sw_Qi (fun z h' => cK prT h0 h')) := by
  have hI : cK prT h0 h0 := cK.refl hJ
  refine sx_aload_n dX10_passElse_0 rfl ?_
  refine sx_getI (k := 7) cl_10 fl_X10_53 dX10_passElse_1 s_36 (by decide) rfl (by decide) ?_
  have r1 : (0 : Int) ≤ h0 36 7 ∧ h0 36 7 ≤ 4 := hI.1.1 36 7
  refine sx_if_ne (tgt := 9) dX10_passElse_4 (by decide) (fun c2 => ?_) (fun c2 => ?_)
  ·
    refine sx_aload_n dX10_passElse_9 rfl ?_
    refine sx_getI (k := 7) cl_10 fl_X10_53 dX10_passElse_10 s_36 (by decide) rfl (by decide) ?_
    have r3 : (0 : Int) ≤ h0 36 7 ∧ h0 36 7 ≤ 4 := hI.1.1 36 7
    refine sx_iconst dX10_passElse_13 ⟨by decide, by decide⟩ ?_
    refine sx_isub dX10_passElse_14 ?_
    refine sy_topw (by omega) ?_
    refine sy_top (fun v4 ev4 => ?_)
    refine sx_istore_n dX10_passElse_15 (by decide) ?_
    refine sx_aload_n dX10_passElse_16 rfl ?_
    refine sx_getS (k := 10) (t := 39) cl_10 fl_X10_18 dX10_passElse_17 s_36 (by decide) rfl (by decide) ?_
    refine sx_iload_n dX10_passElse_20 rfl ?_
    refine sx_aload_n dX10_passElse_21 rfl ?_
    refine sx_getI (k := 1) cl_10 fl_X10_34 dX10_passElse_22 s_36 (by decide) rfl (by decide) ?_
    refine sy_iastore dX10_passElse_25 s_39 (by decide) (by decide) ⟨by omega, by omega⟩ (fun h5 eh5 => ?_)
    have Ih5 := hI.up eh5 trivial rfl rfl
    have th5_36_7 := eh5.2 (36) 7 (by omega)
    refine sx_aload_n dX10_passElse_26 rfl ?_
    refine sx_getS (k := 11) (t := 40) cl_10 fl_X10_21 dX10_passElse_27 s_36 (by decide) rfl (by decide) ?_
    refine sx_iload_n dX10_passElse_30 rfl ?_
    refine sx_aload_n dX10_passElse_31 rfl ?_
    refine sx_getI (k := 2) cl_10 fl_X10_38 dX10_passElse_32 s_36 (by decide) rfl (by decide) ?_
    refine sy_iastore dX10_passElse_35 s_40 (by decide) (by decide) ⟨by omega, by omega⟩ (fun h6 eh6 => ?_)
    have Ih6 := Ih5.up eh6 trivial rfl rfl
    have th6_36_7 := eh6.2 (36) 7 (by omega)
    refine sx_aload_n dX10_passElse_36 rfl ?_
    refine sx_getS (k := 12) (t := 41) cl_10 fl_X10_24 dX10_passElse_37 s_36 (by decide) rfl (by decide) ?_
    refine sx_iload_n dX10_passElse_40 rfl ?_
    refine sx_aload_n dX10_passElse_41 rfl ?_
    refine sx_getI (k := 6) cl_10 fl_X10_50 dX10_passElse_42 s_36 (by decide) rfl (by decide) ?_
    refine sy_iastore dX10_passElse_45 s_41 (by decide) (by decide) ⟨by omega, by omega⟩ (fun h7 eh7 => ?_)
    have Ih7 := Ih6.up eh7 trivial rfl rfl
    have th7_36_7 := eh7.2 (36) 7 (by omega)
    refine sx_aload_n dX10_passElse_46 rfl ?_
    refine sx_aload_n dX10_passElse_47 rfl ?_
    refine sx_getS (k := 8) (t := 37) cl_10 fl_X10_9 dX10_passElse_48 s_36 (by decide) rfl (by decide) ?_
    refine sx_iload_n dX10_passElse_51 rfl ?_
    refine sx_iaload dX10_passElse_52 s_37 (by decide) (by decide) ⟨by omega, by omega⟩ ?_
    refine sy_putI (k := 1) cl_10 fl_X10_34 dX10_passElse_53 s_36 (by decide) rfl (by decide) rfl rfl (fun h8 eh8 => ?_)
    have Ih8 := Ih7.up eh8 trivial rfl rfl
    have th8_36_7 := eh8.2 (36) 7 (by decide)
    refine sx_aload_n dX10_passElse_56 rfl ?_
    refine sx_aload_n dX10_passElse_57 rfl ?_
    refine sx_getS (k := 9) (t := 38) cl_10 fl_X10_15 dX10_passElse_58 s_36 (by decide) rfl (by decide) ?_
    refine sx_iload_n dX10_passElse_61 rfl ?_
    refine sx_iaload dX10_passElse_62 s_38 (by decide) (by decide) ⟨by omega, by omega⟩ ?_
    refine sy_putI (k := 2) cl_10 fl_X10_38 dX10_passElse_63 s_36 (by decide) rfl (by decide) rfl rfl (fun h9 eh9 => ?_)
    have Ih9 := Ih8.up eh9 trivial rfl rfl
    have th9_36_7 := eh9.2 (36) 7 (by decide)
    refine sx_aload_n dX10_passElse_66 rfl ?_
    refine sx_iconst dX10_passElse_67 ⟨by decide, by decide⟩ ?_
    refine sy_putI (k := 6) cl_10 fl_X10_50 dX10_passElse_68 s_36 (by decide) rfl (by decide) rfl rfl (fun h10 eh10 => ?_)
    have Ih10 := Ih9.up eh10 trivial rfl rfl
    have th10_36_7 := eh10.2 (36) 7 (by decide)
    refine sx_iconst dX10_passElse_71 ⟨by decide, by decide⟩ ?_
    refine sx_ireturn dX10_passElse_72 ?_
    exact ⟨_, rfl, Ih10⟩
  ·
    refine sx_iconst dX10_passElse_7 ⟨by decide, by decide⟩ ?_
    refine sx_ireturn dX10_passElse_8 ?_
    exact ⟨_, rfl, hI⟩
set_option maxRecDepth 20000 in
set_option maxHeartbeats 4000000 in
theorem c_X10_passThen_36 {G : sw_G} (d : Nat) {h0 : sw_H} (hJ : cJ h0)  : sw_E G NH SH (d + 1) mX10_passThen 0 [some (sw_r 36)] [] h0 (sw_Qi (fun z h' => cK prT h0 h')) := by
  have hI : cK prT h0 h0 := cK.refl hJ
  refine sx_aload_n dX10_passThen_0 rfl ?_
  refine sx_getI (k := 7) cl_10 fl_X10_53 dX10_passThen_1 s_36 (by decide) rfl (by decide) ?_
  have r1 : (0 : Int) ≤ h0 36 7 ∧ h0 36 7 ≤ 4 := hI.1.1 36 7
  refine sx_if_ne (tgt := 9) dX10_passThen_4 (by decide) (fun c2 => ?_) (fun c2 => ?_)
  ·
    refine sx_aload_n dX10_passThen_9 rfl ?_
    refine sx_dupr dX10_passThen_10 ?_
    refine sx_getI (k := 7) cl_10 fl_X10_53 dX10_passThen_11 s_36 (by decide) rfl (by decide) ?_
    have r3 : (0 : Int) ≤ h0 36 7 ∧ h0 36 7 ≤ 4 := hI.1.1 36 7
    refine sx_iconst dX10_passThen_14 ⟨by decide, by decide⟩ ?_
    refine sx_isub dX10_passThen_15 ?_
    refine sy_topw (by omega) ?_
    refine sy_putI (k := 7) cl_10 fl_X10_53 dX10_passThen_16 s_36 (by decide) rfl (by decide) rfl rfl (fun h4 eh4 => ?_)
    have Ih4 := hI.up eh4 (show (0 : Int) ≤ _ ∧ _ ≤ (4 : Int) from ⟨by omega, by omega⟩) rfl rfl
    have th4_36_7 := eh4.1
    refine sx_aload_n dX10_passThen_19 rfl ?_
    refine sx_aload_n dX10_passThen_20 rfl ?_
    refine sx_getS (k := 13) (t := 42) cl_10 fl_X10_27 dX10_passThen_21 s_36 (by decide) rfl (by decide) ?_
    refine sx_aload_n dX10_passThen_24 rfl ?_
    refine sx_getI (k := 7) cl_10 fl_X10_53 dX10_passThen_25 s_36 (by decide) rfl (by decide) ?_
    have r5 : (0 : Int) ≤ h4 36 7 ∧ h4 36 7 ≤ 4 := Ih4.1.1 36 7
    refine sx_iaload dX10_passThen_28 s_42 (by decide) (by decide) ⟨by omega, by omega⟩ ?_
    refine sx_aload_n dX10_passThen_29 rfl ?_
    refine sx_getI (k := 6) cl_10 fl_X10_50 dX10_passThen_30 s_36 (by decide) rfl (by decide) ?_
    refine sx_aload_n dX10_passThen_33 rfl ?_
    refine sx_getS (k := 12) (t := 41) cl_10 fl_X10_24 dX10_passThen_34 s_36 (by decide) rfl (by decide) ?_
    refine sx_aload_n dX10_passThen_37 rfl ?_
    refine sx_getI (k := 7) cl_10 fl_X10_53 dX10_passThen_38 s_36 (by decide) rfl (by decide) ?_
    have r6 : (0 : Int) ≤ h4 36 7 ∧ h4 36 7 ≤ 4 := Ih4.1.1 36 7
    refine sx_iaload dX10_passThen_41 s_41 (by decide) (by decide) ⟨by omega, by omega⟩ ?_
    refine sx_max lm_X10_80 lw_max dX10_passThen_42 (Nat.le_of_ble_eq_true rfl) ?_
    refine sy_max (fun m7 em7 fm7 gm7 => ?_)
    refine sx_iadd dX10_passThen_45 ?_
    refine sy_putI (k := 6) cl_10 fl_X10_50 dX10_passThen_46 s_36 (by decide) rfl (by decide) rfl rfl (fun h8 eh8 => ?_)
    have Ih8 := Ih4.up eh8 trivial rfl rfl
    have th8_36_7 := eh8.2 (36) 7 (by decide)
    refine sx_aload_n dX10_passThen_49 rfl ?_
    refine sx_getI (k := 1) cl_10 fl_X10_34 dX10_passThen_50 s_36 (by decide) rfl (by decide) ?_
    refine sx_aload_n dX10_passThen_53 rfl ?_
    refine sx_getS (k := 10) (t := 39) cl_10 fl_X10_18 dX10_passThen_54 s_36 (by decide) rfl (by decide) ?_
    refine sx_aload_n dX10_passThen_57 rfl ?_
    refine sx_getI (k := 7) cl_10 fl_X10_53 dX10_passThen_58 s_36 (by decide) rfl (by decide) ?_
    have r9 : (0 : Int) ≤ h8 36 7 ∧ h8 36 7 ≤ 4 := Ih8.1.1 36 7
    refine sx_iaload dX10_passThen_61 s_39 (by decide) (by decide) ⟨by omega, by omega⟩ ?_
    refine sx_icmp_ne (tgt := 85) dX10_passThen_62 (by decide) (fun c10 => ?_) (fun c10 => ?_)
    ·
      refine sx_bipush dX10_passThen_85 ⟨by decide, by decide, by decide⟩ ?_
      refine sx_ireturn dX10_passThen_87 ?_
      exact ⟨_, rfl, Ih8⟩
    ·
      refine sx_aload_n dX10_passThen_65 rfl ?_
      refine sx_getI (k := 2) cl_10 fl_X10_38 dX10_passThen_66 s_36 (by decide) rfl (by decide) ?_
      refine sx_aload_n dX10_passThen_69 rfl ?_
      refine sx_getS (k := 11) (t := 40) cl_10 fl_X10_21 dX10_passThen_70 s_36 (by decide) rfl (by decide) ?_
      refine sx_aload_n dX10_passThen_73 rfl ?_
      refine sx_getI (k := 7) cl_10 fl_X10_53 dX10_passThen_74 s_36 (by decide) rfl (by decide) ?_
      have r11 : (0 : Int) ≤ h8 36 7 ∧ h8 36 7 ≤ 4 := Ih8.1.1 36 7
      refine sx_iaload dX10_passThen_77 s_40 (by decide) (by decide) ⟨by omega, by omega⟩ ?_
      refine sx_icmp_ne (tgt := 85) dX10_passThen_78 (by decide) (fun c12 => ?_) (fun c12 => ?_)
      ·
        refine sx_bipush dX10_passThen_85 ⟨by decide, by decide, by decide⟩ ?_
        refine sx_ireturn dX10_passThen_87 ?_
        exact ⟨_, rfl, Ih8⟩
      ·
        refine sx_iconst dX10_passThen_81 ⟨by decide, by decide⟩ ?_
        refine sx_goto (tgt := 87) dX10_passThen_82 (by decide) ?_
        refine sx_ireturn dX10_passThen_87 ?_
        exact ⟨_, rfl, Ih8⟩
  ·
    refine sx_iconst dX10_passThen_7 ⟨by decide, by decide⟩ ?_
    refine sx_ireturn dX10_passThen_8 ?_
    exact ⟨_, rfl, hI⟩
set_option maxRecDepth 20000 in
set_option maxHeartbeats 4000000 in
theorem c_X10_passNext_36 {G : sw_G} (d : Nat) {h0 : sw_H} (hJ : cJ h0)  : sw_E G NH SH (d) mX10_passNext 0 [some (sw_r 36)] [] h0 (sw_Qi (fun z h' => cK prT h0 h')) := by
  have hI : cK prT h0 h0 := cK.refl hJ
  refine sx_aload_n dX10_passNext_0 rfl ?_
  refine sx_getI (k := 7) cl_10 fl_X10_53 dX10_passNext_1 s_36 (by decide) rfl (by decide) ?_
  have r1 : (0 : Int) ≤ h0 36 7 ∧ h0 36 7 ≤ 4 := hI.1.1 36 7
  refine sx_if_ne (tgt := 9) dX10_passNext_4 (by decide) (fun c2 => ?_) (fun c2 => ?_)
  ·
    refine sx_aload_n dX10_passNext_9 rfl ?_
    refine sx_dupr dX10_passNext_10 ?_
    refine sx_getI (k := 7) cl_10 fl_X10_53 dX10_passNext_11 s_36 (by decide) rfl (by decide) ?_
    have r3 : (0 : Int) ≤ h0 36 7 ∧ h0 36 7 ≤ 4 := hI.1.1 36 7
    refine sx_iconst dX10_passNext_14 ⟨by decide, by decide⟩ ?_
    refine sx_isub dX10_passNext_15 ?_
    refine sy_topw (by omega) ?_
    refine sy_putI (k := 7) cl_10 fl_X10_53 dX10_passNext_16 s_36 (by decide) rfl (by decide) rfl rfl (fun h4 eh4 => ?_)
    have Ih4 := hI.up eh4 (show (0 : Int) ≤ _ ∧ _ ≤ (4 : Int) from ⟨by omega, by omega⟩) rfl rfl
    have th4_36_7 := eh4.1
    refine sx_aload_n dX10_passNext_19 rfl ?_
    refine sx_aload_n dX10_passNext_20 rfl ?_
    refine sx_getS (k := 13) (t := 42) cl_10 fl_X10_27 dX10_passNext_21 s_36 (by decide) rfl (by decide) ?_
    refine sx_aload_n dX10_passNext_24 rfl ?_
    refine sx_getI (k := 7) cl_10 fl_X10_53 dX10_passNext_25 s_36 (by decide) rfl (by decide) ?_
    have r5 : (0 : Int) ≤ h4 36 7 ∧ h4 36 7 ≤ 4 := Ih4.1.1 36 7
    refine sx_iaload dX10_passNext_28 s_42 (by decide) (by decide) ⟨by omega, by omega⟩ ?_
    refine sx_aload_n dX10_passNext_29 rfl ?_
    refine sx_getS (k := 12) (t := 41) cl_10 fl_X10_24 dX10_passNext_30 s_36 (by decide) rfl (by decide) ?_
    refine sx_aload_n dX10_passNext_33 rfl ?_
    refine sx_getI (k := 7) cl_10 fl_X10_53 dX10_passNext_34 s_36 (by decide) rfl (by decide) ?_
    have r6 : (0 : Int) ≤ h4 36 7 ∧ h4 36 7 ≤ 4 := Ih4.1.1 36 7
    refine sx_iaload dX10_passNext_37 s_41 (by decide) (by decide) ⟨by omega, by omega⟩ ?_
    refine sx_aload_n dX10_passNext_38 rfl ?_
    refine sx_getI (k := 6) cl_10 fl_X10_50 dX10_passNext_39 s_36 (by decide) rfl (by decide) ?_
    refine sx_imul dX10_passNext_42 ?_
    refine sx_iadd dX10_passNext_43 ?_
    refine sy_putI (k := 6) cl_10 fl_X10_50 dX10_passNext_44 s_36 (by decide) rfl (by decide) rfl rfl (fun h7 eh7 => ?_)
    have Ih7 := Ih4.up eh7 trivial rfl rfl
    have th7_36_7 := eh7.2 (36) 7 (by decide)
    refine sx_aload_n dX10_passNext_47 rfl ?_
    refine sx_getI (k := 1) cl_10 fl_X10_34 dX10_passNext_48 s_36 (by decide) rfl (by decide) ?_
    refine sx_aload_n dX10_passNext_51 rfl ?_
    refine sx_getS (k := 8) (t := 37) cl_10 fl_X10_9 dX10_passNext_52 s_36 (by decide) rfl (by decide) ?_
    refine sx_aload_n dX10_passNext_55 rfl ?_
    refine sx_getI (k := 7) cl_10 fl_X10_53 dX10_passNext_56 s_36 (by decide) rfl (by decide) ?_
    have r8 : (0 : Int) ≤ h7 36 7 ∧ h7 36 7 ≤ 4 := Ih7.1.1 36 7
    refine sx_iaload dX10_passNext_59 s_37 (by decide) (by decide) ⟨by omega, by omega⟩ ?_
    refine sx_icmp_ne (tgt := 83) dX10_passNext_60 (by decide) (fun c9 => ?_) (fun c9 => ?_)
    ·
      refine sx_bipush dX10_passNext_83 ⟨by decide, by decide, by decide⟩ ?_
      refine sx_ireturn dX10_passNext_85 ?_
      exact ⟨_, rfl, Ih7⟩
    ·
      refine sx_aload_n dX10_passNext_63 rfl ?_
      refine sx_getI (k := 2) cl_10 fl_X10_38 dX10_passNext_64 s_36 (by decide) rfl (by decide) ?_
      refine sx_aload_n dX10_passNext_67 rfl ?_
      refine sx_getS (k := 9) (t := 38) cl_10 fl_X10_15 dX10_passNext_68 s_36 (by decide) rfl (by decide) ?_
      refine sx_aload_n dX10_passNext_71 rfl ?_
      refine sx_getI (k := 7) cl_10 fl_X10_53 dX10_passNext_72 s_36 (by decide) rfl (by decide) ?_
      have r10 : (0 : Int) ≤ h7 36 7 ∧ h7 36 7 ≤ 4 := Ih7.1.1 36 7
      refine sx_iaload dX10_passNext_75 s_38 (by decide) (by decide) ⟨by omega, by omega⟩ ?_
      refine sx_icmp_ne (tgt := 83) dX10_passNext_76 (by decide) (fun c11 => ?_) (fun c11 => ?_)
      ·
        refine sx_bipush dX10_passNext_83 ⟨by decide, by decide, by decide⟩ ?_
        refine sx_ireturn dX10_passNext_85 ?_
        exact ⟨_, rfl, Ih7⟩
      ·
        refine sx_iconst dX10_passNext_79 ⟨by decide, by decide⟩ ?_
        refine sx_goto (tgt := 85) dX10_passNext_80 (by decide) ?_
        refine sx_ireturn dX10_passNext_85 ?_
        exact ⟨_, rfl, Ih7⟩
  ·
    refine sx_iconst dX10_passNext_7 ⟨by decide, by decide⟩ ?_
    refine sx_ireturn dX10_passNext_8 ?_
    exact ⟨_, rfl, hI⟩
set_option maxRecDepth 20000 in
set_option maxHeartbeats 4000000 in
theorem c_X10_passCall_36_1 {G : sw_G} (d : Nat) {h0 : sw_H} (hJ : cJ h0) (hc : h0 36 0 = 1) (w : Int) : sw_E G NH SH (d + 1) mX10_passCall 0 [some (sw_r 36), some (sw_i w)] [] h0 (sw_Qi (fun z h' => cK prT h0 h' ∧ (z = 0 → 0 ≤ w ∧ w ≤ 5))) := by
  have hI : cK prT h0 h0 := cK.refl hJ
  have rw : (0 : Int) ≤ h0 1 0 ∧ h0 1 0 ≤ 6 := hI.1.1 1 0
  refine sx_aload_n dX10_passCall_0 rfl ?_
  refine sx_getR (k := 0) (t := 1) cl_10 fl_X10_30 dX10_passCall_1 s_36 (by decide) rfl (by decide) (by omega) ?_
  refine sx_iload_n dX10_passCall_4 rfl ?_
  refine sx_callVz lk_X10_92 cl_0 s_1 (by decide) dX10_passCall_5 (vs := [_]) rfl rfl (Nat.le_of_ble_eq_true rfl) (Nat.le_of_ble_eq_true rfl) rfl (c_X0_hasWord_1 _ hI.1 _) (fun x2 h1 zx2 ph1 => ?_)
  obtain ⟨rfl, w_x2⟩ := ph1
  refine sx_if_ne (tgt := 13) dX10_passCall_8 (by decide) (fun c3 => ?_) (fun c3 => ?_)
  ·
    refine sx_aload_n dX10_passCall_13 rfl ?_
    refine sx_dupr dX10_passCall_14 ?_
    refine sx_getI (k := 6) cl_10 fl_X10_50 dX10_passCall_15 s_36 (by decide) rfl (by decide) ?_
    refine sx_iconst dX10_passCall_18 ⟨by decide, by decide⟩ ?_
    refine sx_aload_n dX10_passCall_19 rfl ?_
    refine sx_getR (k := 0) (t := 1) cl_10 fl_X10_30 dX10_passCall_20 s_36 (by decide) rfl (by decide) (by omega) ?_
    refine sx_getS (k := 14) (t := 11) cl_0 fl_X10_98 dX10_passCall_23 s_1 (by decide) rfl (by decide) ?_
    refine sx_iload_n dX10_passCall_26 rfl ?_
    refine sx_iaload dX10_passCall_27 s_11 (by decide) (by decide) ⟨by omega, by omega⟩ ?_
    refine sx_iadd dX10_passCall_28 ?_
    refine sx_iadd dX10_passCall_29 ?_
    refine sy_putI (k := 6) cl_10 fl_X10_50 dX10_passCall_30 s_36 (by decide) rfl (by decide) rfl rfl (fun h4 eh4 => ?_)
    have Ih4 := hI.up eh4 trivial rfl rfl
    have th4_36_0 := eh4.2 (36) 0 (by decide)
    refine sx_aload_n dX10_passCall_33 rfl ?_
    refine sx_aload_n dX10_passCall_34 rfl ?_
    refine sx_getR (k := 0) (t := 1) cl_10 fl_X10_30 dX10_passCall_35 s_36 (by decide) rfl (by decide) (by omega) ?_
    refine sx_getS (k := 10) (t := 7) cl_0 fl_X10_100 dX10_passCall_38 s_1 (by decide) rfl (by decide) ?_
    refine sx_iload_n dX10_passCall_41 rfl ?_
    refine sy_iaF (F := fun z => (0 : Int) ≤ z ∧ z ≤ 2147483647) dX10_passCall_42 s_7 (by decide) (by decide) ⟨by omega, by omega⟩ (Ih4.1.1 7 _) (fun r5 => ?_)
    refine sx_aload_n dX10_passCall_43 rfl ?_
    refine sx_getR (k := 0) (t := 1) cl_10 fl_X10_30 dX10_passCall_44 s_36 (by decide) rfl (by decide) (by omega) ?_
    refine sx_getS (k := 11) (t := 8) cl_0 fl_X10_102 dX10_passCall_47 s_1 (by decide) rfl (by decide) ?_
    refine sx_iload_n dX10_passCall_50 rfl ?_
    refine sx_iaload dX10_passCall_51 s_8 (by decide) (by decide) ⟨by omega, by omega⟩ ?_
    refine sx_aload_n dX10_passCall_52 rfl ?_
    refine sx_getR (k := 0) (t := 1) cl_10 fl_X10_30 dX10_passCall_53 s_36 (by decide) rfl (by decide) (by omega) ?_
    refine sx_getS (k := 12) (t := 9) cl_0 fl_X10_105 dX10_passCall_56 s_1 (by decide) rfl (by decide) ?_
    refine sx_iload_n dX10_passCall_59 rfl ?_
    refine sx_iaload dX10_passCall_60 s_9 (by decide) (by decide) ⟨by omega, by omega⟩ ?_
    refine sx_callVi lk_X10_60 cl_10 s_36 (by decide) dX10_passCall_61 (vs := [_, _, _]) rfl rfl (Nat.le_of_ble_eq_true rfl) (Nat.le_of_ble_eq_true rfl) rfl (c_X10_change_36 _ Ih4.1 _ _ _) (fun x7 h6 ph6 => ?_)
    have Kh6 := ph6
    have Ih6 := Ih4.tr Kh6 sb_prT_prT
    have th6_36_0 := Kh6.2 (36) 0 rfl
    refine sx_ireturn dX10_passCall_64 ?_
    exact ⟨_, rfl, ⟨Ih6, by omega⟩⟩
  ·
    refine sx_iconst dX10_passCall_11 ⟨by decide, by decide⟩ ?_
    refine sx_ireturn dX10_passCall_12 ?_
    exact ⟨_, rfl, ⟨hI, by omega⟩⟩
set_option maxRecDepth 20000 in
set_option maxHeartbeats 4000000 in
theorem c_X10_pass_36_1 {G : sw_G} (d : Nat) {h0 : sw_H} (hJ : cJ h0) (hc : h0 36 0 = 1) (a b : Int) : sw_E G NH SH (d + 2) mX10_pass 0 [some (sw_r 36), some (sw_i a), some (sw_i b), none] [] h0 (sw_Qi (fun z h' => cK prT h0 h' ∧ (z = 0 → (a = 0 → 0 ≤ b ∧ b ≤ 14) ∧ (a = 2 → 0 ≤ b ∧ b ≤ 5)))) := by
  have hI : cK prT h0 h0 := cK.refl hJ
  refine sx_iload_n dX10_pass_0 rfl ?_
  refine sx_tsw (dt := 121) (ts := [48, 54, 72, 78, 106, 111, 100, 116]) dX10_pass_1 (by decide) (by decide) (by decide) (fun c1 => ?_) (And.intro (fun c1 => ?_) (And.intro (fun c1 => ?_) (And.intro (fun c1 => ?_) (And.intro (fun c1 => ?_) (And.intro (fun c1 => ?_) (And.intro (fun c1 => ?_) (And.intro (fun c1 => ?_) (And.intro (fun c1 => ?_) trivial))))))))
  ·
    refine sx_iconst dX10_pass_121 ⟨by decide, by decide⟩ ?_
    refine sx_ireturn dX10_pass_122 ?_
    exact ⟨_, rfl, ⟨hI, by omega⟩⟩
  ·
    refine sx_aload_n dX10_pass_48 rfl ?_
    refine sx_iload_n dX10_pass_49 rfl ?_
    refine sx_callVi lk_X10_56 cl_10 s_36 (by decide) dX10_pass_50 (vs := [_]) rfl rfl (Nat.le_of_ble_eq_true rfl) (Nat.le_of_ble_eq_true rfl) rfl (c_X10_passThing_36 _ hI.1 _) (fun x3 h2 ph2 => ?_)
    obtain ⟨Kh2, f_h2⟩ := ph2
    have Ih2 := hI.tr Kh2 sb_prT_prT
    have th2_36_0 := Kh2.2 (36) 0 rfl
    refine sx_ireturn dX10_pass_53 ?_
    exact ⟨_, rfl, ⟨Ih2, by omega⟩⟩
  ·
    refine sx_aload_n dX10_pass_54 rfl ?_
    refine sx_dupr dX10_pass_55 ?_
    refine sx_getI (k := 6) cl_10 fl_X10_50 dX10_pass_56 s_36 (by decide) rfl (by decide) ?_
    refine sx_iconst dX10_pass_59 ⟨by decide, by decide⟩ ?_
    refine sx_iadd dX10_pass_60 ?_
    refine sy_putI (k := 6) cl_10 fl_X10_50 dX10_pass_61 s_36 (by decide) rfl (by decide) rfl rfl (fun h4 eh4 => ?_)
    have Ih4 := hI.up eh4 trivial rfl rfl
    have th4_36_0 := eh4.2 (36) 0 (by decide)
    refine sx_aload_n dX10_pass_64 rfl ?_
    refine sx_iconst dX10_pass_65 ⟨by decide, by decide⟩ ?_
    refine sx_iconst dX10_pass_66 ⟨by decide, by decide⟩ ?_
    refine sx_iconst dX10_pass_67 ⟨by decide, by decide⟩ ?_
    refine sx_callVi lk_X10_60 cl_10 s_36 (by decide) dX10_pass_68 (vs := [_, _, _]) rfl rfl (Nat.le_of_ble_eq_true rfl) (Nat.le_of_ble_eq_true rfl) rfl (c_X10_change_36 _ Ih4.1 _ _ _) (fun x6 h5 ph5 => ?_)
    have Kh5 := ph5
    have Ih5 := Ih4.tr Kh5 sb_prT_prT
    have th5_36_0 := Kh5.2 (36) 0 rfl
    refine sx_ireturn dX10_pass_71 ?_
    exact ⟨_, rfl, ⟨Ih5, by omega⟩⟩
  ·
    refine sx_aload_n dX10_pass_72 rfl ?_
    refine sx_iload_n dX10_pass_73 rfl ?_
    refine sx_callVi lk_X10_64 cl_10 s_36 (by decide) dX10_pass_74 (vs := [_]) rfl rfl (Nat.le_of_ble_eq_true rfl) (Nat.le_of_ble_eq_true rfl) rfl (c_X10_passCall_36_1 _ hI.1 (by omega) _) (fun x8 h7 ph7 => ?_)
    obtain ⟨Kh7, f_h7⟩ := ph7
    have Ih7 := hI.tr Kh7 sb_prT_prT
    have th7_36_0 := Kh7.2 (36) 0 rfl
    refine sx_ireturn dX10_pass_77 ?_
    exact ⟨_, rfl, ⟨Ih7, by omega⟩⟩
  ·
    refine sx_aload_n dX10_pass_78 rfl ?_
    refine sx_iconst dX10_pass_79 ⟨by decide, by decide⟩ ?_
    refine sx_iconst dX10_pass_80 ⟨by decide, by decide⟩ ?_
    refine sx_iconst dX10_pass_81 ⟨by decide, by decide⟩ ?_
    refine sx_callVi lk_X10_60 cl_10 s_36 (by decide) dX10_pass_82 (vs := [_, _, _]) rfl rfl (Nat.le_of_ble_eq_true rfl) (Nat.le_of_ble_eq_true rfl) rfl (c_X10_change_36 _ hI.1 _ _ _) (fun x10 h9 ph9 => ?_)
    have Kh9 := ph9
    have Ih9 := hI.tr Kh9 sb_prT_prT
    have th9_36_0 := Kh9.2 (36) 0 rfl
    refine sx_istore_n dX10_pass_85 (by decide) ?_
    refine sx_iload_n dX10_pass_86 rfl ?_
    refine sx_if_eq (tgt := 94) dX10_pass_87 (by decide) (fun c11 => ?_) (fun c11 => ?_)
    ·
      refine sx_aload_n dX10_pass_94 rfl ?_
      refine sx_iconst dX10_pass_95 ⟨by decide, by decide⟩ ?_
      refine sx_callVi lk_X10_67 cl_10 s_36 (by decide) dX10_pass_96 (vs := [_]) rfl rfl (Nat.le_of_ble_eq_true rfl) (Nat.le_of_ble_eq_true rfl) rfl (c_X10_enter_36 _ Ih9.1 _) (fun x13 h12 ph12 => ?_)
      have Kh12 := ph12
      have Ih12 := Ih9.tr Kh12 sb_prT_prT
      have th12_36_0 := Kh12.2 (36) 0 rfl
      refine sx_ireturn dX10_pass_99 ?_
      exact ⟨_, rfl, ⟨Ih12, by omega⟩⟩
    ·
      refine sx_iload_n dX10_pass_90 rfl ?_
      refine sx_goto (tgt := 99) dX10_pass_91 (by decide) ?_
      refine sx_ireturn dX10_pass_99 ?_
      exact ⟨_, rfl, ⟨Ih9, by omega⟩⟩
  ·
    refine sx_aload_n dX10_pass_106 rfl ?_
    refine sx_callVi lk_X10_70 cl_10 s_36 (by decide) dX10_pass_107 (vs := []) rfl rfl (Nat.le_of_ble_eq_true rfl) (Nat.le_of_ble_eq_true rfl) rfl (c_X10_passElse_36 _ hI.1) (fun x15 h14 ph14 => ?_)
    have Kh14 := ph14
    have Ih14 := hI.tr Kh14 sb_prT_prT
    have th14_36_0 := Kh14.2 (36) 0 rfl
    refine sx_ireturn dX10_pass_110 ?_
    exact ⟨_, rfl, ⟨Ih14, by omega⟩⟩
  ·
    refine sx_aload_n dX10_pass_111 rfl ?_
    refine sx_callVi lk_X10_74 cl_10 s_36 (by decide) dX10_pass_112 (vs := []) rfl rfl (Nat.le_of_ble_eq_true rfl) (Nat.le_of_ble_eq_true rfl) rfl (c_X10_passThen_36 _ hI.1) (fun x17 h16 ph16 => ?_)
    have Kh16 := ph16
    have Ih16 := hI.tr Kh16 sb_prT_prT
    have th16_36_0 := Kh16.2 (36) 0 rfl
    refine sx_ireturn dX10_pass_115 ?_
    exact ⟨_, rfl, ⟨Ih16, by omega⟩⟩
  ·
    refine sx_aload_n dX10_pass_100 rfl ?_
    refine sx_iload_n dX10_pass_101 rfl ?_
    refine sx_callVi lk_X10_67 cl_10 s_36 (by decide) dX10_pass_102 (vs := [_]) rfl rfl (Nat.le_of_ble_eq_true rfl) (Nat.le_of_ble_eq_true rfl) rfl (c_X10_enter_36 _ hI.1 _) (fun x19 h18 ph18 => ?_)
    have Kh18 := ph18
    have Ih18 := hI.tr Kh18 sb_prT_prT
    have th18_36_0 := Kh18.2 (36) 0 rfl
    refine sx_ireturn dX10_pass_105 ?_
    exact ⟨_, rfl, ⟨Ih18, by omega⟩⟩
  ·
    refine sx_aload_n dX10_pass_116 rfl ?_
    refine sx_callVi lk_X10_77 cl_10 s_36 (by decide) dX10_pass_117 (vs := []) rfl rfl (Nat.le_of_ble_eq_true rfl) (Nat.le_of_ble_eq_true rfl) rfl (c_X10_passNext_36 _ hI.1) (fun x21 h20 ph20 => ?_)
    have Kh20 := ph20
    have Ih20 := hI.tr Kh20 sb_prT_prT
    have th20_36_0 := Kh20.2 (36) 0 rfl
    refine sx_ireturn dX10_pass_120 ?_
    exact ⟨_, rfl, ⟨Ih20, by omega⟩⟩
set_option maxRecDepth 20000 in
set_option maxHeartbeats 4000000 in
theorem c_X10_passCall_36_13 {G : sw_G} (d : Nat) {h0 : sw_H} (hJ : cJ h0) (hc : h0 36 0 = 13) (w : Int) : sw_E G NH SH (d + 1) mX10_passCall 0 [some (sw_r 36), some (sw_i w)] [] h0 (sw_Qi (fun z h' => cK prT h0 h' ∧ (z = 0 → 0 ≤ w ∧ w ≤ 5))) := by
  have hI : cK prT h0 h0 := cK.refl hJ
  have rw : (0 : Int) ≤ h0 13 0 ∧ h0 13 0 ≤ 6 := hI.1.1 13 0
  refine sx_aload_n dX10_passCall_0 rfl ?_
  refine sx_getR (k := 0) (t := 13) cl_10 fl_X10_30 dX10_passCall_1 s_36 (by decide) rfl (by decide) (by omega) ?_
  refine sx_iload_n dX10_passCall_4 rfl ?_
  refine sx_callVz lk_X10_92 cl_0 s_13 (by decide) dX10_passCall_5 (vs := [_]) rfl rfl (Nat.le_of_ble_eq_true rfl) (Nat.le_of_ble_eq_true rfl) rfl (c_X0_hasWord_13 _ hI.1 _) (fun x2 h1 zx2 ph1 => ?_)
  obtain ⟨rfl, w_x2⟩ := ph1
  refine sx_if_ne (tgt := 13) dX10_passCall_8 (by decide) (fun c3 => ?_) (fun c3 => ?_)
  ·
    refine sx_aload_n dX10_passCall_13 rfl ?_
    refine sx_dupr dX10_passCall_14 ?_
    refine sx_getI (k := 6) cl_10 fl_X10_50 dX10_passCall_15 s_36 (by decide) rfl (by decide) ?_
    refine sx_iconst dX10_passCall_18 ⟨by decide, by decide⟩ ?_
    refine sx_aload_n dX10_passCall_19 rfl ?_
    refine sx_getR (k := 0) (t := 13) cl_10 fl_X10_30 dX10_passCall_20 s_36 (by decide) rfl (by decide) (by omega) ?_
    refine sx_getS (k := 14) (t := 23) cl_0 fl_X10_98 dX10_passCall_23 s_13 (by decide) rfl (by decide) ?_
    refine sx_iload_n dX10_passCall_26 rfl ?_
    refine sx_iaload dX10_passCall_27 s_23 (by decide) (by decide) ⟨by omega, by omega⟩ ?_
    refine sx_iadd dX10_passCall_28 ?_
    refine sx_iadd dX10_passCall_29 ?_
    refine sy_putI (k := 6) cl_10 fl_X10_50 dX10_passCall_30 s_36 (by decide) rfl (by decide) rfl rfl (fun h4 eh4 => ?_)
    have Ih4 := hI.up eh4 trivial rfl rfl
    have th4_36_0 := eh4.2 (36) 0 (by decide)
    refine sx_aload_n dX10_passCall_33 rfl ?_
    refine sx_aload_n dX10_passCall_34 rfl ?_
    refine sx_getR (k := 0) (t := 13) cl_10 fl_X10_30 dX10_passCall_35 s_36 (by decide) rfl (by decide) (by omega) ?_
    refine sx_getS (k := 10) (t := 19) cl_0 fl_X10_100 dX10_passCall_38 s_13 (by decide) rfl (by decide) ?_
    refine sx_iload_n dX10_passCall_41 rfl ?_
    refine sy_iaF (F := fun z => (0 : Int) ≤ z ∧ z ≤ 2147483647) dX10_passCall_42 s_19 (by decide) (by decide) ⟨by omega, by omega⟩ (Ih4.1.1 19 _) (fun r5 => ?_)
    refine sx_aload_n dX10_passCall_43 rfl ?_
    refine sx_getR (k := 0) (t := 13) cl_10 fl_X10_30 dX10_passCall_44 s_36 (by decide) rfl (by decide) (by omega) ?_
    refine sx_getS (k := 11) (t := 20) cl_0 fl_X10_102 dX10_passCall_47 s_13 (by decide) rfl (by decide) ?_
    refine sx_iload_n dX10_passCall_50 rfl ?_
    refine sx_iaload dX10_passCall_51 s_20 (by decide) (by decide) ⟨by omega, by omega⟩ ?_
    refine sx_aload_n dX10_passCall_52 rfl ?_
    refine sx_getR (k := 0) (t := 13) cl_10 fl_X10_30 dX10_passCall_53 s_36 (by decide) rfl (by decide) (by omega) ?_
    refine sx_getS (k := 12) (t := 21) cl_0 fl_X10_105 dX10_passCall_56 s_13 (by decide) rfl (by decide) ?_
    refine sx_iload_n dX10_passCall_59 rfl ?_
    refine sx_iaload dX10_passCall_60 s_21 (by decide) (by decide) ⟨by omega, by omega⟩ ?_
    refine sx_callVi lk_X10_60 cl_10 s_36 (by decide) dX10_passCall_61 (vs := [_, _, _]) rfl rfl (Nat.le_of_ble_eq_true rfl) (Nat.le_of_ble_eq_true rfl) rfl (c_X10_change_36 _ Ih4.1 _ _ _) (fun x7 h6 ph6 => ?_)
    have Kh6 := ph6
    have Ih6 := Ih4.tr Kh6 sb_prT_prT
    have th6_36_0 := Kh6.2 (36) 0 rfl
    refine sx_ireturn dX10_passCall_64 ?_
    exact ⟨_, rfl, ⟨Ih6, by omega⟩⟩
  ·
    refine sx_iconst dX10_passCall_11 ⟨by decide, by decide⟩ ?_
    refine sx_ireturn dX10_passCall_12 ?_
    exact ⟨_, rfl, ⟨hI, by omega⟩⟩
set_option maxRecDepth 20000 in
set_option maxHeartbeats 4000000 in
theorem c_X10_pass_36_13 {G : sw_G} (d : Nat) {h0 : sw_H} (hJ : cJ h0) (hc : h0 36 0 = 13) (a b : Int) : sw_E G NH SH (d + 2) mX10_pass 0 [some (sw_r 36), some (sw_i a), some (sw_i b), none] [] h0 (sw_Qi (fun z h' => cK prT h0 h' ∧ (z = 0 → (a = 0 → 0 ≤ b ∧ b ≤ 14) ∧ (a = 2 → 0 ≤ b ∧ b ≤ 5)))) := by
  have hI : cK prT h0 h0 := cK.refl hJ
  refine sx_iload_n dX10_pass_0 rfl ?_
  refine sx_tsw (dt := 121) (ts := [48, 54, 72, 78, 106, 111, 100, 116]) dX10_pass_1 (by decide) (by decide) (by decide) (fun c1 => ?_) (And.intro (fun c1 => ?_) (And.intro (fun c1 => ?_) (And.intro (fun c1 => ?_) (And.intro (fun c1 => ?_) (And.intro (fun c1 => ?_) (And.intro (fun c1 => ?_) (And.intro (fun c1 => ?_) (And.intro (fun c1 => ?_) trivial))))))))
  ·
    refine sx_iconst dX10_pass_121 ⟨by decide, by decide⟩ ?_
    refine sx_ireturn dX10_pass_122 ?_
    exact ⟨_, rfl, ⟨hI, by omega⟩⟩
  ·
    refine sx_aload_n dX10_pass_48 rfl ?_
    refine sx_iload_n dX10_pass_49 rfl ?_
    refine sx_callVi lk_X10_56 cl_10 s_36 (by decide) dX10_pass_50 (vs := [_]) rfl rfl (Nat.le_of_ble_eq_true rfl) (Nat.le_of_ble_eq_true rfl) rfl (c_X10_passThing_36 _ hI.1 _) (fun x3 h2 ph2 => ?_)
    obtain ⟨Kh2, f_h2⟩ := ph2
    have Ih2 := hI.tr Kh2 sb_prT_prT
    have th2_36_0 := Kh2.2 (36) 0 rfl
    refine sx_ireturn dX10_pass_53 ?_
    exact ⟨_, rfl, ⟨Ih2, by omega⟩⟩
  ·
    refine sx_aload_n dX10_pass_54 rfl ?_
    refine sx_dupr dX10_pass_55 ?_
    refine sx_getI (k := 6) cl_10 fl_X10_50 dX10_pass_56 s_36 (by decide) rfl (by decide) ?_
    refine sx_iconst dX10_pass_59 ⟨by decide, by decide⟩ ?_
    refine sx_iadd dX10_pass_60 ?_
    refine sy_putI (k := 6) cl_10 fl_X10_50 dX10_pass_61 s_36 (by decide) rfl (by decide) rfl rfl (fun h4 eh4 => ?_)
    have Ih4 := hI.up eh4 trivial rfl rfl
    have th4_36_0 := eh4.2 (36) 0 (by decide)
    refine sx_aload_n dX10_pass_64 rfl ?_
    refine sx_iconst dX10_pass_65 ⟨by decide, by decide⟩ ?_
    refine sx_iconst dX10_pass_66 ⟨by decide, by decide⟩ ?_
    refine sx_iconst dX10_pass_67 ⟨by decide, by decide⟩ ?_
    refine sx_callVi lk_X10_60 cl_10 s_36 (by decide) dX10_pass_68 (vs := [_, _, _]) rfl rfl (Nat.le_of_ble_eq_true rfl) (Nat.le_of_ble_eq_true rfl) rfl (c_X10_change_36 _ Ih4.1 _ _ _) (fun x6 h5 ph5 => ?_)
    have Kh5 := ph5
    have Ih5 := Ih4.tr Kh5 sb_prT_prT
    have th5_36_0 := Kh5.2 (36) 0 rfl
    refine sx_ireturn dX10_pass_71 ?_
    exact ⟨_, rfl, ⟨Ih5, by omega⟩⟩
  ·
    refine sx_aload_n dX10_pass_72 rfl ?_
    refine sx_iload_n dX10_pass_73 rfl ?_
    refine sx_callVi lk_X10_64 cl_10 s_36 (by decide) dX10_pass_74 (vs := [_]) rfl rfl (Nat.le_of_ble_eq_true rfl) (Nat.le_of_ble_eq_true rfl) rfl (c_X10_passCall_36_13 _ hI.1 (by omega) _) (fun x8 h7 ph7 => ?_)
    obtain ⟨Kh7, f_h7⟩ := ph7
    have Ih7 := hI.tr Kh7 sb_prT_prT
    have th7_36_0 := Kh7.2 (36) 0 rfl
    refine sx_ireturn dX10_pass_77 ?_
    exact ⟨_, rfl, ⟨Ih7, by omega⟩⟩
  ·
    refine sx_aload_n dX10_pass_78 rfl ?_
    refine sx_iconst dX10_pass_79 ⟨by decide, by decide⟩ ?_
    refine sx_iconst dX10_pass_80 ⟨by decide, by decide⟩ ?_
    refine sx_iconst dX10_pass_81 ⟨by decide, by decide⟩ ?_
    refine sx_callVi lk_X10_60 cl_10 s_36 (by decide) dX10_pass_82 (vs := [_, _, _]) rfl rfl (Nat.le_of_ble_eq_true rfl) (Nat.le_of_ble_eq_true rfl) rfl (c_X10_change_36 _ hI.1 _ _ _) (fun x10 h9 ph9 => ?_)
    have Kh9 := ph9
    have Ih9 := hI.tr Kh9 sb_prT_prT
    have th9_36_0 := Kh9.2 (36) 0 rfl
    refine sx_istore_n dX10_pass_85 (by decide) ?_
    refine sx_iload_n dX10_pass_86 rfl ?_
    refine sx_if_eq (tgt := 94) dX10_pass_87 (by decide) (fun c11 => ?_) (fun c11 => ?_)
    ·
      refine sx_aload_n dX10_pass_94 rfl ?_
      refine sx_iconst dX10_pass_95 ⟨by decide, by decide⟩ ?_
      refine sx_callVi lk_X10_67 cl_10 s_36 (by decide) dX10_pass_96 (vs := [_]) rfl rfl (Nat.le_of_ble_eq_true rfl) (Nat.le_of_ble_eq_true rfl) rfl (c_X10_enter_36 _ Ih9.1 _) (fun x13 h12 ph12 => ?_)
      have Kh12 := ph12
      have Ih12 := Ih9.tr Kh12 sb_prT_prT
      have th12_36_0 := Kh12.2 (36) 0 rfl
      refine sx_ireturn dX10_pass_99 ?_
      exact ⟨_, rfl, ⟨Ih12, by omega⟩⟩
    ·
      refine sx_iload_n dX10_pass_90 rfl ?_
      refine sx_goto (tgt := 99) dX10_pass_91 (by decide) ?_
      refine sx_ireturn dX10_pass_99 ?_
      exact ⟨_, rfl, ⟨Ih9, by omega⟩⟩
  ·
    refine sx_aload_n dX10_pass_106 rfl ?_
    refine sx_callVi lk_X10_70 cl_10 s_36 (by decide) dX10_pass_107 (vs := []) rfl rfl (Nat.le_of_ble_eq_true rfl) (Nat.le_of_ble_eq_true rfl) rfl (c_X10_passElse_36 _ hI.1) (fun x15 h14 ph14 => ?_)
    have Kh14 := ph14
    have Ih14 := hI.tr Kh14 sb_prT_prT
    have th14_36_0 := Kh14.2 (36) 0 rfl
    refine sx_ireturn dX10_pass_110 ?_
    exact ⟨_, rfl, ⟨Ih14, by omega⟩⟩
  ·
    refine sx_aload_n dX10_pass_111 rfl ?_
    refine sx_callVi lk_X10_74 cl_10 s_36 (by decide) dX10_pass_112 (vs := []) rfl rfl (Nat.le_of_ble_eq_true rfl) (Nat.le_of_ble_eq_true rfl) rfl (c_X10_passThen_36 _ hI.1) (fun x17 h16 ph16 => ?_)
    have Kh16 := ph16
    have Ih16 := hI.tr Kh16 sb_prT_prT
    have th16_36_0 := Kh16.2 (36) 0 rfl
    refine sx_ireturn dX10_pass_115 ?_
    exact ⟨_, rfl, ⟨Ih16, by omega⟩⟩
  ·
    refine sx_aload_n dX10_pass_100 rfl ?_
    refine sx_iload_n dX10_pass_101 rfl ?_
    refine sx_callVi lk_X10_67 cl_10 s_36 (by decide) dX10_pass_102 (vs := [_]) rfl rfl (Nat.le_of_ble_eq_true rfl) (Nat.le_of_ble_eq_true rfl) rfl (c_X10_enter_36 _ hI.1 _) (fun x19 h18 ph18 => ?_)
    have Kh18 := ph18
    have Ih18 := hI.tr Kh18 sb_prT_prT
    have th18_36_0 := Kh18.2 (36) 0 rfl
    refine sx_ireturn dX10_pass_105 ?_
    exact ⟨_, rfl, ⟨Ih18, by omega⟩⟩
  ·
    refine sx_aload_n dX10_pass_116 rfl ?_
    refine sx_callVi lk_X10_77 cl_10 s_36 (by decide) dX10_pass_117 (vs := []) rfl rfl (Nat.le_of_ble_eq_true rfl) (Nat.le_of_ble_eq_true rfl) rfl (c_X10_passNext_36 _ hI.1) (fun x21 h20 ph20 => ?_)
    have Kh20 := ph20
    have Ih20 := hI.tr Kh20 sb_prT_prT
    have th20_36_0 := Kh20.2 (36) 0 rfl
    refine sx_ireturn dX10_pass_120 ?_
    exact ⟨_, rfl, ⟨Ih20, by omega⟩⟩
set_option maxRecDepth 20000 in
set_option maxHeartbeats 4000000 in
theorem c_X10_begin_190_1 {G : sw_G} (d : Nat) {h0 : sw_H} (hJ : cJ h0)  : sw_E G NH SH (d) mX10_begin 0 [some (sw_r 190), some (sw_r 1)] [] h0 (sw_Qv (fun h' => cK prU h0 h' ∧ h' 190 0 = 1)) := by
  have hI : cK prU h0 h0 := cK.refl hJ
  refine sx_aload_n dX10_begin_0 rfl ?_
  refine sx_aload_n dX10_begin_1 rfl ?_
  refine sy_putR (k := 0) cl_10 fl_X10_30 dX10_begin_2 s_190 (by decide) rfl (by decide) rfl rfl (by decide) (fun h1 eh1 => ?_)
  have Ih1 := hI.up eh1 trivial rfl rfl
  have th1_190_0 := eh1.1
  refine sx_aload_n dX10_begin_5 rfl ?_
  refine sx_iconst dX10_begin_6 ⟨by decide, by decide⟩ ?_
  refine sy_putI (k := 1) cl_10 fl_X10_34 dX10_begin_7 s_190 (by decide) rfl (by decide) rfl rfl (fun h2 eh2 => ?_)
  have Ih2 := Ih1.up eh2 trivial rfl rfl
  have th2_190_0 := eh2.2 (190) 0 (by decide)
  refine sx_aload_n dX10_begin_10 rfl ?_
  refine sx_iconst dX10_begin_11 ⟨by decide, by decide⟩ ?_
  refine sy_putI (k := 2) cl_10 fl_X10_38 dX10_begin_12 s_190 (by decide) rfl (by decide) rfl rfl (fun h3 eh3 => ?_)
  have Ih3 := Ih2.up eh3 trivial rfl rfl
  have th3_190_0 := eh3.2 (190) 0 (by decide)
  refine sx_aload_n dX10_begin_15 rfl ?_
  refine sx_iconst dX10_begin_16 ⟨by decide, by decide⟩ ?_
  refine sy_putI (k := 3) cl_10 fl_X10_41 dX10_begin_17 s_190 (by decide) rfl (by decide) rfl rfl (fun h4 eh4 => ?_)
  have Ih4 := Ih3.up eh4 (show (0 : Int) ≤ _ ∧ _ ≤ (2147483647 : Int) from ⟨by omega, by omega⟩) rfl rfl
  have th4_190_0 := eh4.2 (190) 0 (by decide)
  refine sx_aload_n dX10_begin_20 rfl ?_
  refine sx_iconst dX10_begin_21 ⟨by decide, by decide⟩ ?_
  refine sy_putI (k := 4) cl_10 fl_X10_44 dX10_begin_22 s_190 (by decide) rfl (by decide) rfl rfl (fun h5 eh5 => ?_)
  have Ih5 := Ih4.up eh5 trivial rfl rfl
  have th5_190_0 := eh5.2 (190) 0 (by decide)
  refine sx_aload_n dX10_begin_25 rfl ?_
  refine sx_iconst dX10_begin_26 ⟨by decide, by decide⟩ ?_
  refine sy_putI (k := 5) cl_10 fl_X10_47 dX10_begin_27 s_190 (by decide) rfl (by decide) rfl rfl (fun h6 eh6 => ?_)
  have Ih6 := Ih5.up eh6 trivial rfl rfl
  have th6_190_0 := eh6.2 (190) 0 (by decide)
  refine sx_aload_n dX10_begin_30 rfl ?_
  refine sx_iconst dX10_begin_31 ⟨by decide, by decide⟩ ?_
  refine sy_putI (k := 6) cl_10 fl_X10_50 dX10_begin_32 s_190 (by decide) rfl (by decide) rfl rfl (fun h7 eh7 => ?_)
  have Ih7 := Ih6.up eh7 trivial rfl rfl
  have th7_190_0 := eh7.2 (190) 0 (by decide)
  refine sx_aload_n dX10_begin_35 rfl ?_
  refine sx_iconst dX10_begin_36 ⟨by decide, by decide⟩ ?_
  refine sy_putI (k := 7) cl_10 fl_X10_53 dX10_begin_37 s_190 (by decide) rfl (by decide) rfl rfl (fun h8 eh8 => ?_)
  have Ih8 := Ih7.up eh8 (show (0 : Int) ≤ _ ∧ _ ≤ (4 : Int) from ⟨by omega, by omega⟩) rfl rfl
  have th8_190_0 := eh8.2 (190) 0 (by decide)
  refine sx_ret dX10_begin_40 ?_
  exact ⟨rfl, ⟨Ih8, by omega⟩⟩
set_option maxRecDepth 20000 in
set_option maxHeartbeats 4000000 in
theorem c_X10_begin_190_13 {G : sw_G} (d : Nat) {h0 : sw_H} (hJ : cJ h0)  : sw_E G NH SH (d) mX10_begin 0 [some (sw_r 190), some (sw_r 13)] [] h0 (sw_Qv (fun h' => cK prU h0 h' ∧ h' 190 0 = 13)) := by
  have hI : cK prU h0 h0 := cK.refl hJ
  refine sx_aload_n dX10_begin_0 rfl ?_
  refine sx_aload_n dX10_begin_1 rfl ?_
  refine sy_putR (k := 0) cl_10 fl_X10_30 dX10_begin_2 s_190 (by decide) rfl (by decide) rfl rfl (by decide) (fun h1 eh1 => ?_)
  have Ih1 := hI.up eh1 trivial rfl rfl
  have th1_190_0 := eh1.1
  refine sx_aload_n dX10_begin_5 rfl ?_
  refine sx_iconst dX10_begin_6 ⟨by decide, by decide⟩ ?_
  refine sy_putI (k := 1) cl_10 fl_X10_34 dX10_begin_7 s_190 (by decide) rfl (by decide) rfl rfl (fun h2 eh2 => ?_)
  have Ih2 := Ih1.up eh2 trivial rfl rfl
  have th2_190_0 := eh2.2 (190) 0 (by decide)
  refine sx_aload_n dX10_begin_10 rfl ?_
  refine sx_iconst dX10_begin_11 ⟨by decide, by decide⟩ ?_
  refine sy_putI (k := 2) cl_10 fl_X10_38 dX10_begin_12 s_190 (by decide) rfl (by decide) rfl rfl (fun h3 eh3 => ?_)
  have Ih3 := Ih2.up eh3 trivial rfl rfl
  have th3_190_0 := eh3.2 (190) 0 (by decide)
  refine sx_aload_n dX10_begin_15 rfl ?_
  refine sx_iconst dX10_begin_16 ⟨by decide, by decide⟩ ?_
  refine sy_putI (k := 3) cl_10 fl_X10_41 dX10_begin_17 s_190 (by decide) rfl (by decide) rfl rfl (fun h4 eh4 => ?_)
  have Ih4 := Ih3.up eh4 (show (0 : Int) ≤ _ ∧ _ ≤ (2147483647 : Int) from ⟨by omega, by omega⟩) rfl rfl
  have th4_190_0 := eh4.2 (190) 0 (by decide)
  refine sx_aload_n dX10_begin_20 rfl ?_
  refine sx_iconst dX10_begin_21 ⟨by decide, by decide⟩ ?_
  refine sy_putI (k := 4) cl_10 fl_X10_44 dX10_begin_22 s_190 (by decide) rfl (by decide) rfl rfl (fun h5 eh5 => ?_)
  have Ih5 := Ih4.up eh5 trivial rfl rfl
  have th5_190_0 := eh5.2 (190) 0 (by decide)
  refine sx_aload_n dX10_begin_25 rfl ?_
  refine sx_iconst dX10_begin_26 ⟨by decide, by decide⟩ ?_
  refine sy_putI (k := 5) cl_10 fl_X10_47 dX10_begin_27 s_190 (by decide) rfl (by decide) rfl rfl (fun h6 eh6 => ?_)
  have Ih6 := Ih5.up eh6 trivial rfl rfl
  have th6_190_0 := eh6.2 (190) 0 (by decide)
  refine sx_aload_n dX10_begin_30 rfl ?_
  refine sx_iconst dX10_begin_31 ⟨by decide, by decide⟩ ?_
  refine sy_putI (k := 6) cl_10 fl_X10_50 dX10_begin_32 s_190 (by decide) rfl (by decide) rfl rfl (fun h7 eh7 => ?_)
  have Ih7 := Ih6.up eh7 trivial rfl rfl
  have th7_190_0 := eh7.2 (190) 0 (by decide)
  refine sx_aload_n dX10_begin_35 rfl ?_
  refine sx_iconst dX10_begin_36 ⟨by decide, by decide⟩ ?_
  refine sy_putI (k := 7) cl_10 fl_X10_53 dX10_begin_37 s_190 (by decide) rfl (by decide) rfl rfl (fun h8 eh8 => ?_)
  have Ih8 := Ih7.up eh8 (show (0 : Int) ≤ _ ∧ _ ≤ (4 : Int) from ⟨by omega, by omega⟩) rfl rfl
  have th8_190_0 := eh8.2 (190) 0 (by decide)
  refine sx_ret dX10_begin_40 ?_
  exact ⟨rfl, ⟨Ih8, by omega⟩⟩
set_option maxRecDepth 20000 in
set_option maxHeartbeats 4000000 in
theorem c_X10_endsWell_190 {G : sw_G} (d : Nat) {h0 : sw_H} (hJ : cJ h0)  : sw_E G NH SH (d) mX10_endsWell 0 [some (sw_r 190)] [] h0 (sw_Qz (fun z h' => h0 = h')) := by
  have hI : cK pr0 h0 h0 := cK.refl hJ
  refine sx_aload_n dX10_endsWell_0 rfl ?_
  refine sx_getI (k := 7) cl_10 fl_X10_53 dX10_endsWell_1 s_190 (by decide) rfl (by decide) ?_
  have r1 : (0 : Int) ≤ h0 190 7 ∧ h0 190 7 ≤ 4 := hI.1.1 190 7
  refine sx_if_ne (tgt := 28) dX10_endsWell_4 (by decide) (fun c2 => ?_) (fun c2 => ?_)
  ·
    refine sx_iconst dX10_endsWell_28 ⟨by decide, by decide⟩ ?_
    refine sx_ireturn dX10_endsWell_29 ?_
    exact ⟨_, rfl, by omega, rfl⟩
  ·
    refine sx_aload_n dX10_endsWell_7 rfl ?_
    refine sx_getI (k := 2) cl_10 fl_X10_38 dX10_endsWell_8 s_190 (by decide) rfl (by decide) ?_
    refine sx_if_ne (tgt := 28) dX10_endsWell_11 (by decide) (fun c3 => ?_) (fun c3 => ?_)
    ·
      refine sx_iconst dX10_endsWell_28 ⟨by decide, by decide⟩ ?_
      refine sx_ireturn dX10_endsWell_29 ?_
      exact ⟨_, rfl, by omega, rfl⟩
    ·
      refine sx_aload_n dX10_endsWell_14 rfl ?_
      refine sx_getI (k := 6) cl_10 fl_X10_50 dX10_endsWell_15 s_190 (by decide) rfl (by decide) ?_
      refine sx_sipush dX10_endsWell_18 ⟨by decide, by decide, by decide⟩ ?_
      refine sx_icmp_gt (tgt := 28) dX10_endsWell_21 (by decide) (fun c4 => ?_) (fun c4 => ?_)
      ·
        refine sx_iconst dX10_endsWell_28 ⟨by decide, by decide⟩ ?_
        refine sx_ireturn dX10_endsWell_29 ?_
        exact ⟨_, rfl, by omega, rfl⟩
      ·
        refine sx_iconst dX10_endsWell_24 ⟨by decide, by decide⟩ ?_
        refine sx_goto (tgt := 29) dX10_endsWell_25 (by decide) ?_
        refine sx_ireturn dX10_endsWell_29 ?_
        exact ⟨_, rfl, by omega, rfl⟩
set_option maxRecDepth 20000 in
set_option maxHeartbeats 4000000 in
theorem c_X10_change_190 {G : sw_G} (d : Nat) {h0 : sw_H} (hJ : cJ h0) (a b c : Int) : sw_E G NH SH (d) mX10_change 0 [some (sw_r 190), some (sw_i a), some (sw_i b), some (sw_i c)] [] h0 (sw_Qi (fun z h' => cK prT h0 h')) := by
  have hI : cK prT h0 h0 := cK.refl hJ
  refine sx_aload_n dX10_change_0 rfl ?_
  refine sx_iload_n dX10_change_1 rfl ?_
  refine sx_aload_n dX10_change_2 rfl ?_
  refine sx_getI (k := 1) cl_10 fl_X10_34 dX10_change_3 s_190 (by decide) rfl (by decide) ?_
  refine sx_isub dX10_change_6 ?_
  refine sx_aload_n dX10_change_7 rfl ?_
  refine sx_getI (k := 3) cl_10 fl_X10_41 dX10_change_8 s_190 (by decide) rfl (by decide) ?_
  have r1 : (0 : Int) ≤ h0 190 3 ∧ h0 190 3 ≤ 2147483647 := hI.1.1 190 3
  refine sx_icmp_le (tgt := 23) dX10_change_11 (by decide) (fun c2 => ?_) (fun c2 => ?_)
  ·
    refine sx_aload_n dX10_change_23 rfl ?_
    refine sx_getI (k := 3) cl_10 fl_X10_41 dX10_change_24 s_190 (by decide) rfl (by decide) ?_
    have r3 : (0 : Int) ≤ h0 190 3 ∧ h0 190 3 ≤ 2147483647 := hI.1.1 190 3
    have ow : sw_w (a - h0 190 1) ≤ 2147483647 := (sw_w_ok _).2
    refine sy_putI (k := 3) cl_10 fl_X10_41 dX10_change_27 s_190 (by decide) rfl (by decide) rfl rfl (fun h4 eh4 => ?_)
    have Ih4 := hI.up eh4 (show (0 : Int) ≤ _ ∧ _ ≤ (2147483647 : Int) from ⟨by omega, by omega⟩) rfl rfl
    refine sx_aload_n dX10_change_30 rfl ?_
    refine sx_aload_n dX10_change_31 rfl ?_
    refine sx_getI (k := 1) cl_10 fl_X10_34 dX10_change_32 s_190 (by decide) rfl (by decide) ?_
    refine sx_iload_n dX10_change_35 rfl ?_
    refine sx_iadd dX10_change_36 ?_
    refine sx_aload_n dX10_change_37 rfl ?_
    refine sx_getI (k := 4) cl_10 fl_X10_44 dX10_change_38 s_190 (by decide) rfl (by decide) ?_
    refine sx_icmp_le (tgt := 53) dX10_change_41 (by decide) (fun c5 => ?_) (fun c5 => ?_)
    ·
      refine sx_aload_n dX10_change_53 rfl ?_
      refine sx_getI (k := 4) cl_10 fl_X10_44 dX10_change_54 s_190 (by decide) rfl (by decide) ?_
      refine sy_putI (k := 4) cl_10 fl_X10_44 dX10_change_57 s_190 (by decide) rfl (by decide) rfl rfl (fun h6 eh6 => ?_)
      have Ih6 := Ih4.up eh6 trivial rfl rfl
      refine sx_aload_n dX10_change_60 rfl ?_
      refine sx_dupr dX10_change_61 ?_
      refine sx_getI (k := 1) cl_10 fl_X10_34 dX10_change_62 s_190 (by decide) rfl (by decide) ?_
      refine sx_iload_n dX10_change_65 rfl ?_
      refine sx_iload_n dX10_change_66 rfl ?_
      refine sx_isub dX10_change_67 ?_
      refine sx_iadd dX10_change_68 ?_
      refine sy_putI (k := 1) cl_10 fl_X10_34 dX10_change_69 s_190 (by decide) rfl (by decide) rfl rfl (fun h7 eh7 => ?_)
      have Ih7 := Ih6.up eh7 trivial rfl rfl
      refine sx_aload_n dX10_change_72 rfl ?_
      refine sx_getI (k := 3) cl_10 fl_X10_41 dX10_change_73 s_190 (by decide) rfl (by decide) ?_
      have r8 : (0 : Int) ≤ h7 190 3 ∧ h7 190 3 ≤ 2147483647 := Ih7.1.1 190 3
      refine sx_bipush dX10_change_76 ⟨by decide, by decide, by decide⟩ ?_
      refine sx_icmp_gt (tgt := 90) dX10_change_78 (by decide) (fun c9 => ?_) (fun c9 => ?_)
      ·
        refine sx_bipush dX10_change_90 ⟨by decide, by decide, by decide⟩ ?_
        refine sx_goto (tgt := 96) dX10_change_92 (by decide) ?_
        refine sx_ireturn dX10_change_96 ?_
        exact ⟨_, rfl, Ih7⟩
      ·
        refine sx_aload_n dX10_change_81 rfl ?_
        refine sx_getI (k := 4) cl_10 fl_X10_44 dX10_change_82 s_190 (by decide) rfl (by decide) ?_
        refine sx_bipush dX10_change_85 ⟨by decide, by decide, by decide⟩ ?_
        refine sx_icmp_le (tgt := 95) dX10_change_87 (by decide) (fun c10 => ?_) (fun c10 => ?_)
        ·
          refine sx_iconst dX10_change_95 ⟨by decide, by decide⟩ ?_
          refine sx_ireturn dX10_change_96 ?_
          exact ⟨_, rfl, Ih7⟩
        ·
          refine sx_bipush dX10_change_90 ⟨by decide, by decide, by decide⟩ ?_
          refine sx_goto (tgt := 96) dX10_change_92 (by decide) ?_
          refine sx_ireturn dX10_change_96 ?_
          exact ⟨_, rfl, Ih7⟩
    ·
      refine sx_aload_n dX10_change_44 rfl ?_
      refine sx_getI (k := 1) cl_10 fl_X10_34 dX10_change_45 s_190 (by decide) rfl (by decide) ?_
      refine sx_iload_n dX10_change_48 rfl ?_
      refine sx_iadd dX10_change_49 ?_
      refine sx_goto (tgt := 57) dX10_change_50 (by decide) ?_
      refine sy_putI (k := 4) cl_10 fl_X10_44 dX10_change_57 s_190 (by decide) rfl (by decide) rfl rfl (fun h11 eh11 => ?_)
      have Ih11 := Ih4.up eh11 trivial rfl rfl
      refine sx_aload_n dX10_change_60 rfl ?_
      refine sx_dupr dX10_change_61 ?_
      refine sx_getI (k := 1) cl_10 fl_X10_34 dX10_change_62 s_190 (by decide) rfl (by decide) ?_
      refine sx_iload_n dX10_change_65 rfl ?_
      refine sx_iload_n dX10_change_66 rfl ?_
      refine sx_isub dX10_change_67 ?_
      refine sx_iadd dX10_change_68 ?_
      refine sy_putI (k := 1) cl_10 fl_X10_34 dX10_change_69 s_190 (by decide) rfl (by decide) rfl rfl (fun h12 eh12 => ?_)
      have Ih12 := Ih11.up eh12 trivial rfl rfl
      refine sx_aload_n dX10_change_72 rfl ?_
      refine sx_getI (k := 3) cl_10 fl_X10_41 dX10_change_73 s_190 (by decide) rfl (by decide) ?_
      have r13 : (0 : Int) ≤ h12 190 3 ∧ h12 190 3 ≤ 2147483647 := Ih12.1.1 190 3
      refine sx_bipush dX10_change_76 ⟨by decide, by decide, by decide⟩ ?_
      refine sx_icmp_gt (tgt := 90) dX10_change_78 (by decide) (fun c14 => ?_) (fun c14 => ?_)
      ·
        refine sx_bipush dX10_change_90 ⟨by decide, by decide, by decide⟩ ?_
        refine sx_goto (tgt := 96) dX10_change_92 (by decide) ?_
        refine sx_ireturn dX10_change_96 ?_
        exact ⟨_, rfl, Ih12⟩
      ·
        refine sx_aload_n dX10_change_81 rfl ?_
        refine sx_getI (k := 4) cl_10 fl_X10_44 dX10_change_82 s_190 (by decide) rfl (by decide) ?_
        refine sx_bipush dX10_change_85 ⟨by decide, by decide, by decide⟩ ?_
        refine sx_icmp_le (tgt := 95) dX10_change_87 (by decide) (fun c15 => ?_) (fun c15 => ?_)
        ·
          refine sx_iconst dX10_change_95 ⟨by decide, by decide⟩ ?_
          refine sx_ireturn dX10_change_96 ?_
          exact ⟨_, rfl, Ih12⟩
        ·
          refine sx_bipush dX10_change_90 ⟨by decide, by decide, by decide⟩ ?_
          refine sx_goto (tgt := 96) dX10_change_92 (by decide) ?_
          refine sx_ireturn dX10_change_96 ?_
          exact ⟨_, rfl, Ih12⟩
  ·
    refine sx_iload_n dX10_change_14 rfl ?_
    refine sx_aload_n dX10_change_15 rfl ?_
    refine sx_getI (k := 1) cl_10 fl_X10_34 dX10_change_16 s_190 (by decide) rfl (by decide) ?_
    refine sx_isub dX10_change_19 ?_
    refine sx_goto (tgt := 27) dX10_change_20 (by decide) ?_
    have ow : sw_w (a - h0 190 1) ≤ 2147483647 := (sw_w_ok _).2
    refine sy_putI (k := 3) cl_10 fl_X10_41 dX10_change_27 s_190 (by decide) rfl (by decide) rfl rfl (fun h16 eh16 => ?_)
    have Ih16 := hI.up eh16 (show (0 : Int) ≤ _ ∧ _ ≤ (2147483647 : Int) from ⟨by omega, by omega⟩) rfl rfl
    refine sx_aload_n dX10_change_30 rfl ?_
    refine sx_aload_n dX10_change_31 rfl ?_
    refine sx_getI (k := 1) cl_10 fl_X10_34 dX10_change_32 s_190 (by decide) rfl (by decide) ?_
    refine sx_iload_n dX10_change_35 rfl ?_
    refine sx_iadd dX10_change_36 ?_
    refine sx_aload_n dX10_change_37 rfl ?_
    refine sx_getI (k := 4) cl_10 fl_X10_44 dX10_change_38 s_190 (by decide) rfl (by decide) ?_
    refine sx_icmp_le (tgt := 53) dX10_change_41 (by decide) (fun c17 => ?_) (fun c17 => ?_)
    ·
      refine sx_aload_n dX10_change_53 rfl ?_
      refine sx_getI (k := 4) cl_10 fl_X10_44 dX10_change_54 s_190 (by decide) rfl (by decide) ?_
      refine sy_putI (k := 4) cl_10 fl_X10_44 dX10_change_57 s_190 (by decide) rfl (by decide) rfl rfl (fun h18 eh18 => ?_)
      have Ih18 := Ih16.up eh18 trivial rfl rfl
      refine sx_aload_n dX10_change_60 rfl ?_
      refine sx_dupr dX10_change_61 ?_
      refine sx_getI (k := 1) cl_10 fl_X10_34 dX10_change_62 s_190 (by decide) rfl (by decide) ?_
      refine sx_iload_n dX10_change_65 rfl ?_
      refine sx_iload_n dX10_change_66 rfl ?_
      refine sx_isub dX10_change_67 ?_
      refine sx_iadd dX10_change_68 ?_
      refine sy_putI (k := 1) cl_10 fl_X10_34 dX10_change_69 s_190 (by decide) rfl (by decide) rfl rfl (fun h19 eh19 => ?_)
      have Ih19 := Ih18.up eh19 trivial rfl rfl
      refine sx_aload_n dX10_change_72 rfl ?_
      refine sx_getI (k := 3) cl_10 fl_X10_41 dX10_change_73 s_190 (by decide) rfl (by decide) ?_
      have r20 : (0 : Int) ≤ h19 190 3 ∧ h19 190 3 ≤ 2147483647 := Ih19.1.1 190 3
      refine sx_bipush dX10_change_76 ⟨by decide, by decide, by decide⟩ ?_
      refine sx_icmp_gt (tgt := 90) dX10_change_78 (by decide) (fun c21 => ?_) (fun c21 => ?_)
      ·
        refine sx_bipush dX10_change_90 ⟨by decide, by decide, by decide⟩ ?_
        refine sx_goto (tgt := 96) dX10_change_92 (by decide) ?_
        refine sx_ireturn dX10_change_96 ?_
        exact ⟨_, rfl, Ih19⟩
      ·
        refine sx_aload_n dX10_change_81 rfl ?_
        refine sx_getI (k := 4) cl_10 fl_X10_44 dX10_change_82 s_190 (by decide) rfl (by decide) ?_
        refine sx_bipush dX10_change_85 ⟨by decide, by decide, by decide⟩ ?_
        refine sx_icmp_le (tgt := 95) dX10_change_87 (by decide) (fun c22 => ?_) (fun c22 => ?_)
        ·
          refine sx_iconst dX10_change_95 ⟨by decide, by decide⟩ ?_
          refine sx_ireturn dX10_change_96 ?_
          exact ⟨_, rfl, Ih19⟩
        ·
          refine sx_bipush dX10_change_90 ⟨by decide, by decide, by decide⟩ ?_
          refine sx_goto (tgt := 96) dX10_change_92 (by decide) ?_
          refine sx_ireturn dX10_change_96 ?_
          exact ⟨_, rfl, Ih19⟩
    ·
      refine sx_aload_n dX10_change_44 rfl ?_
      refine sx_getI (k := 1) cl_10 fl_X10_34 dX10_change_45 s_190 (by decide) rfl (by decide) ?_
      refine sx_iload_n dX10_change_48 rfl ?_
      refine sx_iadd dX10_change_49 ?_
      refine sx_goto (tgt := 57) dX10_change_50 (by decide) ?_
      refine sy_putI (k := 4) cl_10 fl_X10_44 dX10_change_57 s_190 (by decide) rfl (by decide) rfl rfl (fun h23 eh23 => ?_)
      have Ih23 := Ih16.up eh23 trivial rfl rfl
      refine sx_aload_n dX10_change_60 rfl ?_
      refine sx_dupr dX10_change_61 ?_
      refine sx_getI (k := 1) cl_10 fl_X10_34 dX10_change_62 s_190 (by decide) rfl (by decide) ?_
      refine sx_iload_n dX10_change_65 rfl ?_
      refine sx_iload_n dX10_change_66 rfl ?_
      refine sx_isub dX10_change_67 ?_
      refine sx_iadd dX10_change_68 ?_
      refine sy_putI (k := 1) cl_10 fl_X10_34 dX10_change_69 s_190 (by decide) rfl (by decide) rfl rfl (fun h24 eh24 => ?_)
      have Ih24 := Ih23.up eh24 trivial rfl rfl
      refine sx_aload_n dX10_change_72 rfl ?_
      refine sx_getI (k := 3) cl_10 fl_X10_41 dX10_change_73 s_190 (by decide) rfl (by decide) ?_
      have r25 : (0 : Int) ≤ h24 190 3 ∧ h24 190 3 ≤ 2147483647 := Ih24.1.1 190 3
      refine sx_bipush dX10_change_76 ⟨by decide, by decide, by decide⟩ ?_
      refine sx_icmp_gt (tgt := 90) dX10_change_78 (by decide) (fun c26 => ?_) (fun c26 => ?_)
      ·
        refine sx_bipush dX10_change_90 ⟨by decide, by decide, by decide⟩ ?_
        refine sx_goto (tgt := 96) dX10_change_92 (by decide) ?_
        refine sx_ireturn dX10_change_96 ?_
        exact ⟨_, rfl, Ih24⟩
      ·
        refine sx_aload_n dX10_change_81 rfl ?_
        refine sx_getI (k := 4) cl_10 fl_X10_44 dX10_change_82 s_190 (by decide) rfl (by decide) ?_
        refine sx_bipush dX10_change_85 ⟨by decide, by decide, by decide⟩ ?_
        refine sx_icmp_le (tgt := 95) dX10_change_87 (by decide) (fun c27 => ?_) (fun c27 => ?_)
        ·
          refine sx_iconst dX10_change_95 ⟨by decide, by decide⟩ ?_
          refine sx_ireturn dX10_change_96 ?_
          exact ⟨_, rfl, Ih24⟩
        ·
          refine sx_bipush dX10_change_90 ⟨by decide, by decide, by decide⟩ ?_
          refine sx_goto (tgt := 96) dX10_change_92 (by decide) ?_
          refine sx_ireturn dX10_change_96 ?_
          exact ⟨_, rfl, Ih24⟩
set_option maxRecDepth 20000 in
set_option maxHeartbeats 4000000 in
theorem c_X10_passThing_190 {G : sw_G} (d : Nat) {h0 : sw_H} (hJ : cJ h0) (a : Int) : sw_E G NH SH (d + 1) mX10_passThing 0 [some (sw_r 190), some (sw_i a), none] [] h0 (sw_Qi (fun z h' => cK prT h0 h' ∧ (z = 0 → 0 ≤ a ∧ a ≤ 14))) := by
  have hI : cK prT h0 h0 := cK.refl hJ
  refine sx_iload_n dX10_passThing_0 rfl ?_
  refine sx_if_lt (tgt := 23) dX10_passThing_1 (by decide) (fun c1 => ?_) (fun c1 => ?_)
  ·
    refine sx_bipush dX10_passThing_23 ⟨by decide, by decide, by decide⟩ ?_
    refine sx_ireturn dX10_passThing_25 ?_
    exact ⟨_, rfl, ⟨hI, by omega⟩⟩
  ·
    refine sx_iload_n dX10_passThing_4 rfl ?_
    refine sx_bipush dX10_passThing_5 ⟨by decide, by decide, by decide⟩ ?_
    refine sx_icmp_ge (tgt := 23) dX10_passThing_7 (by decide) (fun c2 => ?_) (fun c2 => ?_)
    ·
      refine sx_bipush dX10_passThing_23 ⟨by decide, by decide, by decide⟩ ?_
      refine sx_ireturn dX10_passThing_25 ?_
      exact ⟨_, rfl, ⟨hI, by omega⟩⟩
    ·
      refine sx_iload_n dX10_passThing_10 rfl ?_
      refine sx_bipush dX10_passThing_11 ⟨by decide, by decide, by decide⟩ ?_
      refine sx_icmp_ne (tgt := 26) dX10_passThing_13 (by decide) (fun c3 => ?_) (fun c3 => ?_)
      ·
        refine sx_aload_n dX10_passThing_26 rfl ?_
        refine sx_dupr dX10_passThing_27 ?_
        refine sx_getI (k := 6) cl_10 fl_X10_50 dX10_passThing_28 s_190 (by decide) rfl (by decide) ?_
        refine sx_iconst dX10_passThing_31 ⟨by decide, by decide⟩ ?_
        refine sx_iadd dX10_passThing_32 ?_
        refine sy_putI (k := 6) cl_10 fl_X10_50 dX10_passThing_33 s_190 (by decide) rfl (by decide) rfl rfl (fun h4 eh4 => ?_)
        have Ih4 := hI.up eh4 trivial rfl rfl
        refine sx_iload_n dX10_passThing_36 rfl ?_
        refine sx_bipush dX10_passThing_37 ⟨by decide, by decide, by decide⟩ ?_
        refine sx_icmp_ne (tgt := 70) dX10_passThing_39 (by decide) (fun c5 => ?_) (fun c5 => ?_)
        ·
          refine sx_iload_n dX10_passThing_70 rfl ?_
          refine sx_bipush dX10_passThing_71 ⟨by decide, by decide, by decide⟩ ?_
          refine sx_icmp_ne (tgt := 86) dX10_passThing_73 (by decide) (fun c6 => ?_) (fun c6 => ?_)
          ·
            refine sx_aload_n dX10_passThing_86 rfl ?_
            refine sx_gets (t := 0) (by decide) sl_X10_86 dX10_passThing_87 ?_
            refine sx_iload_n dX10_passThing_90 rfl ?_
            refine sy_sia (t := 0) (n := 15) (by decide) dX10_passThing_91 rfl ⟨by omega, by omega⟩ (fun r7 => ?_)
            refine sx_gets (t := 1) (by decide) sl_X10_89 dX10_passThing_92 ?_
            refine sx_iload_n dX10_passThing_95 rfl ?_
            refine sy_sia (t := 1) (n := 15) (by decide) dX10_passThing_96 rfl ⟨by omega, by omega⟩ (fun r8 => ?_)
            refine sx_gets (t := 1) (by decide) sl_X10_89 dX10_passThing_97 ?_
            refine sx_iload_n dX10_passThing_100 rfl ?_
            refine sy_sia (t := 1) (n := 15) (by decide) dX10_passThing_101 rfl ⟨by omega, by omega⟩ (fun r9 => ?_)
            refine sx_gets (t := 0) (by decide) sl_X10_86 dX10_passThing_102 ?_
            refine sx_iload_n dX10_passThing_105 rfl ?_
            refine sy_sia (t := 0) (n := 15) (by decide) dX10_passThing_106 rfl ⟨by omega, by omega⟩ (fun r10 => ?_)
            refine sx_isub dX10_passThing_107 ?_
            refine sx_callVi lk_X10_60 cl_10 s_190 (by decide) dX10_passThing_108 (vs := [_, _, _]) rfl rfl (Nat.le_of_ble_eq_true rfl) (Nat.le_of_ble_eq_true rfl) rfl (c_X10_change_190 _ Ih4.1 _ _ _) (fun x12 h11 ph11 => ?_)
            have Kh11 := ph11
            have Ih11 := Ih4.tr Kh11 sb_prT_prT
            refine sx_istore_n dX10_passThing_111 (by decide) ?_
            refine sx_aload_n dX10_passThing_112 rfl ?_
            refine sx_getI (k := 2) cl_10 fl_X10_38 dX10_passThing_113 s_190 (by decide) rfl (by decide) ?_
            refine sx_bipush dX10_passThing_116 ⟨by decide, by decide, by decide⟩ ?_
            refine sx_icmp_le (tgt := 126) dX10_passThing_118 (by decide) (fun c13 => ?_) (fun c13 => ?_)
            ·
              refine sx_iload_n dX10_passThing_126 rfl ?_
              refine sx_ireturn dX10_passThing_127 ?_
              exact ⟨_, rfl, ⟨Ih11, by omega⟩⟩
            ·
              refine sx_bipush dX10_passThing_121 ⟨by decide, by decide, by decide⟩ ?_
              refine sx_goto (tgt := 127) dX10_passThing_123 (by decide) ?_
              refine sx_ireturn dX10_passThing_127 ?_
              exact ⟨_, rfl, ⟨Ih11, by omega⟩⟩
          ·
            refine sx_aload_n dX10_passThing_76 rfl ?_
            refine sx_dupr dX10_passThing_77 ?_
            refine sx_getI (k := 2) cl_10 fl_X10_38 dX10_passThing_78 s_190 (by decide) rfl (by decide) ?_
            refine sx_iconst dX10_passThing_81 ⟨by decide, by decide⟩ ?_
            refine sx_isub dX10_passThing_82 ?_
            refine sy_putI (k := 2) cl_10 fl_X10_38 dX10_passThing_83 s_190 (by decide) rfl (by decide) rfl rfl (fun h14 eh14 => ?_)
            have Ih14 := Ih4.up eh14 trivial rfl rfl
            refine sx_aload_n dX10_passThing_86 rfl ?_
            refine sx_gets (t := 0) (by decide) sl_X10_86 dX10_passThing_87 ?_
            refine sx_iload_n dX10_passThing_90 rfl ?_
            refine sy_sia (t := 0) (n := 15) (by decide) dX10_passThing_91 rfl ⟨by omega, by omega⟩ (fun r15 => ?_)
            refine sx_gets (t := 1) (by decide) sl_X10_89 dX10_passThing_92 ?_
            refine sx_iload_n dX10_passThing_95 rfl ?_
            refine sy_sia (t := 1) (n := 15) (by decide) dX10_passThing_96 rfl ⟨by omega, by omega⟩ (fun r16 => ?_)
            refine sx_gets (t := 1) (by decide) sl_X10_89 dX10_passThing_97 ?_
            refine sx_iload_n dX10_passThing_100 rfl ?_
            refine sy_sia (t := 1) (n := 15) (by decide) dX10_passThing_101 rfl ⟨by omega, by omega⟩ (fun r17 => ?_)
            refine sx_gets (t := 0) (by decide) sl_X10_86 dX10_passThing_102 ?_
            refine sx_iload_n dX10_passThing_105 rfl ?_
            refine sy_sia (t := 0) (n := 15) (by decide) dX10_passThing_106 rfl ⟨by omega, by omega⟩ (fun r18 => ?_)
            refine sx_isub dX10_passThing_107 ?_
            refine sx_callVi lk_X10_60 cl_10 s_190 (by decide) dX10_passThing_108 (vs := [_, _, _]) rfl rfl (Nat.le_of_ble_eq_true rfl) (Nat.le_of_ble_eq_true rfl) rfl (c_X10_change_190 _ Ih14.1 _ _ _) (fun x20 h19 ph19 => ?_)
            have Kh19 := ph19
            have Ih19 := Ih14.tr Kh19 sb_prT_prT
            refine sx_istore_n dX10_passThing_111 (by decide) ?_
            refine sx_aload_n dX10_passThing_112 rfl ?_
            refine sx_getI (k := 2) cl_10 fl_X10_38 dX10_passThing_113 s_190 (by decide) rfl (by decide) ?_
            refine sx_bipush dX10_passThing_116 ⟨by decide, by decide, by decide⟩ ?_
            refine sx_icmp_le (tgt := 126) dX10_passThing_118 (by decide) (fun c21 => ?_) (fun c21 => ?_)
            ·
              refine sx_iload_n dX10_passThing_126 rfl ?_
              refine sx_ireturn dX10_passThing_127 ?_
              exact ⟨_, rfl, ⟨Ih19, by omega⟩⟩
            ·
              refine sx_bipush dX10_passThing_121 ⟨by decide, by decide, by decide⟩ ?_
              refine sx_goto (tgt := 127) dX10_passThing_123 (by decide) ?_
              refine sx_ireturn dX10_passThing_127 ?_
              exact ⟨_, rfl, ⟨Ih19, by omega⟩⟩
        ·
          refine sx_aload_n dX10_passThing_42 rfl ?_
          refine sx_dupr dX10_passThing_43 ?_
          refine sx_getI (k := 2) cl_10 fl_X10_38 dX10_passThing_44 s_190 (by decide) rfl (by decide) ?_
          refine sx_iconst dX10_passThing_47 ⟨by decide, by decide⟩ ?_
          refine sx_iadd dX10_passThing_48 ?_
          refine sy_putI (k := 2) cl_10 fl_X10_38 dX10_passThing_49 s_190 (by decide) rfl (by decide) rfl rfl (fun h22 eh22 => ?_)
          have Ih22 := Ih4.up eh22 trivial rfl rfl
          refine sx_aload_n dX10_passThing_52 rfl ?_
          refine sx_aload_n dX10_passThing_53 rfl ?_
          refine sx_getI (k := 5) cl_10 fl_X10_47 dX10_passThing_54 s_190 (by decide) rfl (by decide) ?_
          refine sx_aload_n dX10_passThing_57 rfl ?_
          refine sx_getI (k := 2) cl_10 fl_X10_38 dX10_passThing_58 s_190 (by decide) rfl (by decide) ?_
          refine sx_max lm_X10_80 lw_max dX10_passThing_61 (Nat.le_of_ble_eq_true rfl) ?_
          refine sy_max (fun m23 em23 fm23 gm23 => ?_)
          refine sy_putI (k := 5) cl_10 fl_X10_47 dX10_passThing_64 s_190 (by decide) rfl (by decide) rfl rfl (fun h24 eh24 => ?_)
          have Ih24 := Ih22.up eh24 trivial rfl rfl
          refine sx_goto (tgt := 86) dX10_passThing_67 (by decide) ?_
          refine sx_aload_n dX10_passThing_86 rfl ?_
          refine sx_gets (t := 0) (by decide) sl_X10_86 dX10_passThing_87 ?_
          refine sx_iload_n dX10_passThing_90 rfl ?_
          refine sy_sia (t := 0) (n := 15) (by decide) dX10_passThing_91 rfl ⟨by omega, by omega⟩ (fun r25 => ?_)
          refine sx_gets (t := 1) (by decide) sl_X10_89 dX10_passThing_92 ?_
          refine sx_iload_n dX10_passThing_95 rfl ?_
          refine sy_sia (t := 1) (n := 15) (by decide) dX10_passThing_96 rfl ⟨by omega, by omega⟩ (fun r26 => ?_)
          refine sx_gets (t := 1) (by decide) sl_X10_89 dX10_passThing_97 ?_
          refine sx_iload_n dX10_passThing_100 rfl ?_
          refine sy_sia (t := 1) (n := 15) (by decide) dX10_passThing_101 rfl ⟨by omega, by omega⟩ (fun r27 => ?_)
          refine sx_gets (t := 0) (by decide) sl_X10_86 dX10_passThing_102 ?_
          refine sx_iload_n dX10_passThing_105 rfl ?_
          refine sy_sia (t := 0) (n := 15) (by decide) dX10_passThing_106 rfl ⟨by omega, by omega⟩ (fun r28 => ?_)
          refine sx_isub dX10_passThing_107 ?_
          refine sx_callVi lk_X10_60 cl_10 s_190 (by decide) dX10_passThing_108 (vs := [_, _, _]) rfl rfl (Nat.le_of_ble_eq_true rfl) (Nat.le_of_ble_eq_true rfl) rfl (c_X10_change_190 _ Ih24.1 _ _ _) (fun x30 h29 ph29 => ?_)
          have Kh29 := ph29
          have Ih29 := Ih24.tr Kh29 sb_prT_prT
          refine sx_istore_n dX10_passThing_111 (by decide) ?_
          refine sx_aload_n dX10_passThing_112 rfl ?_
          refine sx_getI (k := 2) cl_10 fl_X10_38 dX10_passThing_113 s_190 (by decide) rfl (by decide) ?_
          refine sx_bipush dX10_passThing_116 ⟨by decide, by decide, by decide⟩ ?_
          refine sx_icmp_le (tgt := 126) dX10_passThing_118 (by decide) (fun c31 => ?_) (fun c31 => ?_)
          ·
            refine sx_iload_n dX10_passThing_126 rfl ?_
            refine sx_ireturn dX10_passThing_127 ?_
            exact ⟨_, rfl, ⟨Ih29, by omega⟩⟩
          ·
            refine sx_bipush dX10_passThing_121 ⟨by decide, by decide, by decide⟩ ?_
            refine sx_goto (tgt := 127) dX10_passThing_123 (by decide) ?_
            refine sx_ireturn dX10_passThing_127 ?_
            exact ⟨_, rfl, ⟨Ih29, by omega⟩⟩
      ·
        refine sx_aload_n dX10_passThing_16 rfl ?_
        refine sx_getI (k := 2) cl_10 fl_X10_38 dX10_passThing_17 s_190 (by decide) rfl (by decide) ?_
        refine sx_if_ne (tgt := 26) dX10_passThing_20 (by decide) (fun c32 => ?_) (fun c32 => ?_)
        ·
          refine sx_aload_n dX10_passThing_26 rfl ?_
          refine sx_dupr dX10_passThing_27 ?_
          refine sx_getI (k := 6) cl_10 fl_X10_50 dX10_passThing_28 s_190 (by decide) rfl (by decide) ?_
          refine sx_iconst dX10_passThing_31 ⟨by decide, by decide⟩ ?_
          refine sx_iadd dX10_passThing_32 ?_
          refine sy_putI (k := 6) cl_10 fl_X10_50 dX10_passThing_33 s_190 (by decide) rfl (by decide) rfl rfl (fun h33 eh33 => ?_)
          have Ih33 := hI.up eh33 trivial rfl rfl
          refine sx_iload_n dX10_passThing_36 rfl ?_
          refine sx_bipush dX10_passThing_37 ⟨by decide, by decide, by decide⟩ ?_
          refine sx_icmp_ne (tgt := 70) dX10_passThing_39 (by decide) (fun c34 => ?_) (fun c34 => ?_)
          ·
            refine sx_iload_n dX10_passThing_70 rfl ?_
            refine sx_bipush dX10_passThing_71 ⟨by decide, by decide, by decide⟩ ?_
            refine sx_icmp_ne (tgt := 86) dX10_passThing_73 (by decide) (fun c35 => ?_) (fun c35 => ?_)
            ·
              refine sx_aload_n dX10_passThing_86 rfl ?_
              refine sx_gets (t := 0) (by decide) sl_X10_86 dX10_passThing_87 ?_
              refine sx_iload_n dX10_passThing_90 rfl ?_
              refine sy_sia (t := 0) (n := 15) (by decide) dX10_passThing_91 rfl ⟨by omega, by omega⟩ (fun r36 => ?_)
              refine sx_gets (t := 1) (by decide) sl_X10_89 dX10_passThing_92 ?_
              refine sx_iload_n dX10_passThing_95 rfl ?_
              refine sy_sia (t := 1) (n := 15) (by decide) dX10_passThing_96 rfl ⟨by omega, by omega⟩ (fun r37 => ?_)
              refine sx_gets (t := 1) (by decide) sl_X10_89 dX10_passThing_97 ?_
              refine sx_iload_n dX10_passThing_100 rfl ?_
              refine sy_sia (t := 1) (n := 15) (by decide) dX10_passThing_101 rfl ⟨by omega, by omega⟩ (fun r38 => ?_)
              refine sx_gets (t := 0) (by decide) sl_X10_86 dX10_passThing_102 ?_
              refine sx_iload_n dX10_passThing_105 rfl ?_
              refine sy_sia (t := 0) (n := 15) (by decide) dX10_passThing_106 rfl ⟨by omega, by omega⟩ (fun r39 => ?_)
              refine sx_isub dX10_passThing_107 ?_
              refine sx_callVi lk_X10_60 cl_10 s_190 (by decide) dX10_passThing_108 (vs := [_, _, _]) rfl rfl (Nat.le_of_ble_eq_true rfl) (Nat.le_of_ble_eq_true rfl) rfl (c_X10_change_190 _ Ih33.1 _ _ _) (fun x41 h40 ph40 => ?_)
              have Kh40 := ph40
              have Ih40 := Ih33.tr Kh40 sb_prT_prT
              refine sx_istore_n dX10_passThing_111 (by decide) ?_
              refine sx_aload_n dX10_passThing_112 rfl ?_
              refine sx_getI (k := 2) cl_10 fl_X10_38 dX10_passThing_113 s_190 (by decide) rfl (by decide) ?_
              refine sx_bipush dX10_passThing_116 ⟨by decide, by decide, by decide⟩ ?_
              refine sx_icmp_le (tgt := 126) dX10_passThing_118 (by decide) (fun c42 => ?_) (fun c42 => ?_)
              ·
                refine sx_iload_n dX10_passThing_126 rfl ?_
                refine sx_ireturn dX10_passThing_127 ?_
                exact ⟨_, rfl, ⟨Ih40, by omega⟩⟩
              ·
                refine sx_bipush dX10_passThing_121 ⟨by decide, by decide, by decide⟩ ?_
                refine sx_goto (tgt := 127) dX10_passThing_123 (by decide) ?_
                refine sx_ireturn dX10_passThing_127 ?_
                exact ⟨_, rfl, ⟨Ih40, by omega⟩⟩
            ·
              refine sx_aload_n dX10_passThing_76 rfl ?_
              refine sx_dupr dX10_passThing_77 ?_
              refine sx_getI (k := 2) cl_10 fl_X10_38 dX10_passThing_78 s_190 (by decide) rfl (by decide) ?_
              refine sx_iconst dX10_passThing_81 ⟨by decide, by decide⟩ ?_
              refine sx_isub dX10_passThing_82 ?_
              refine sy_putI (k := 2) cl_10 fl_X10_38 dX10_passThing_83 s_190 (by decide) rfl (by decide) rfl rfl (fun h43 eh43 => ?_)
              have Ih43 := Ih33.up eh43 trivial rfl rfl
              refine sx_aload_n dX10_passThing_86 rfl ?_
              refine sx_gets (t := 0) (by decide) sl_X10_86 dX10_passThing_87 ?_
              refine sx_iload_n dX10_passThing_90 rfl ?_
              refine sy_sia (t := 0) (n := 15) (by decide) dX10_passThing_91 rfl ⟨by omega, by omega⟩ (fun r44 => ?_)
              refine sx_gets (t := 1) (by decide) sl_X10_89 dX10_passThing_92 ?_
              refine sx_iload_n dX10_passThing_95 rfl ?_
              refine sy_sia (t := 1) (n := 15) (by decide) dX10_passThing_96 rfl ⟨by omega, by omega⟩ (fun r45 => ?_)
              refine sx_gets (t := 1) (by decide) sl_X10_89 dX10_passThing_97 ?_
              refine sx_iload_n dX10_passThing_100 rfl ?_
              refine sy_sia (t := 1) (n := 15) (by decide) dX10_passThing_101 rfl ⟨by omega, by omega⟩ (fun r46 => ?_)
              refine sx_gets (t := 0) (by decide) sl_X10_86 dX10_passThing_102 ?_
              refine sx_iload_n dX10_passThing_105 rfl ?_
              refine sy_sia (t := 0) (n := 15) (by decide) dX10_passThing_106 rfl ⟨by omega, by omega⟩ (fun r47 => ?_)
              refine sx_isub dX10_passThing_107 ?_
              refine sx_callVi lk_X10_60 cl_10 s_190 (by decide) dX10_passThing_108 (vs := [_, _, _]) rfl rfl (Nat.le_of_ble_eq_true rfl) (Nat.le_of_ble_eq_true rfl) rfl (c_X10_change_190 _ Ih43.1 _ _ _) (fun x49 h48 ph48 => ?_)
              have Kh48 := ph48
              have Ih48 := Ih43.tr Kh48 sb_prT_prT
              refine sx_istore_n dX10_passThing_111 (by decide) ?_
              refine sx_aload_n dX10_passThing_112 rfl ?_
              refine sx_getI (k := 2) cl_10 fl_X10_38 dX10_passThing_113 s_190 (by decide) rfl (by decide) ?_
              refine sx_bipush dX10_passThing_116 ⟨by decide, by decide, by decide⟩ ?_
              refine sx_icmp_le (tgt := 126) dX10_passThing_118 (by decide) (fun c50 => ?_) (fun c50 => ?_)
              ·
                refine sx_iload_n dX10_passThing_126 rfl ?_
                refine sx_ireturn dX10_passThing_127 ?_
                exact ⟨_, rfl, ⟨Ih48, by omega⟩⟩
              ·
                refine sx_bipush dX10_passThing_121 ⟨by decide, by decide, by decide⟩ ?_
                refine sx_goto (tgt := 127) dX10_passThing_123 (by decide) ?_
                refine sx_ireturn dX10_passThing_127 ?_
                exact ⟨_, rfl, ⟨Ih48, by omega⟩⟩
          ·
            refine sx_aload_n dX10_passThing_42 rfl ?_
            refine sx_dupr dX10_passThing_43 ?_
            refine sx_getI (k := 2) cl_10 fl_X10_38 dX10_passThing_44 s_190 (by decide) rfl (by decide) ?_
            refine sx_iconst dX10_passThing_47 ⟨by decide, by decide⟩ ?_
            refine sx_iadd dX10_passThing_48 ?_
            refine sy_putI (k := 2) cl_10 fl_X10_38 dX10_passThing_49 s_190 (by decide) rfl (by decide) rfl rfl (fun h51 eh51 => ?_)
            have Ih51 := Ih33.up eh51 trivial rfl rfl
            refine sx_aload_n dX10_passThing_52 rfl ?_
            refine sx_aload_n dX10_passThing_53 rfl ?_
            refine sx_getI (k := 5) cl_10 fl_X10_47 dX10_passThing_54 s_190 (by decide) rfl (by decide) ?_
            refine sx_aload_n dX10_passThing_57 rfl ?_
            refine sx_getI (k := 2) cl_10 fl_X10_38 dX10_passThing_58 s_190 (by decide) rfl (by decide) ?_
            refine sx_max lm_X10_80 lw_max dX10_passThing_61 (Nat.le_of_ble_eq_true rfl) ?_
            refine sy_max (fun m52 em52 fm52 gm52 => ?_)
            refine sy_putI (k := 5) cl_10 fl_X10_47 dX10_passThing_64 s_190 (by decide) rfl (by decide) rfl rfl (fun h53 eh53 => ?_)
            have Ih53 := Ih51.up eh53 trivial rfl rfl
            refine sx_goto (tgt := 86) dX10_passThing_67 (by decide) ?_
            refine sx_aload_n dX10_passThing_86 rfl ?_
            refine sx_gets (t := 0) (by decide) sl_X10_86 dX10_passThing_87 ?_
            refine sx_iload_n dX10_passThing_90 rfl ?_
            refine sy_sia (t := 0) (n := 15) (by decide) dX10_passThing_91 rfl ⟨by omega, by omega⟩ (fun r54 => ?_)
            refine sx_gets (t := 1) (by decide) sl_X10_89 dX10_passThing_92 ?_
            refine sx_iload_n dX10_passThing_95 rfl ?_
            refine sy_sia (t := 1) (n := 15) (by decide) dX10_passThing_96 rfl ⟨by omega, by omega⟩ (fun r55 => ?_)
            refine sx_gets (t := 1) (by decide) sl_X10_89 dX10_passThing_97 ?_
            refine sx_iload_n dX10_passThing_100 rfl ?_
            refine sy_sia (t := 1) (n := 15) (by decide) dX10_passThing_101 rfl ⟨by omega, by omega⟩ (fun r56 => ?_)
            refine sx_gets (t := 0) (by decide) sl_X10_86 dX10_passThing_102 ?_
            refine sx_iload_n dX10_passThing_105 rfl ?_
            refine sy_sia (t := 0) (n := 15) (by decide) dX10_passThing_106 rfl ⟨by omega, by omega⟩ (fun r57 => ?_)
            refine sx_isub dX10_passThing_107 ?_
            refine sx_callVi lk_X10_60 cl_10 s_190 (by decide) dX10_passThing_108 (vs := [_, _, _]) rfl rfl (Nat.le_of_ble_eq_true rfl) (Nat.le_of_ble_eq_true rfl) rfl (c_X10_change_190 _ Ih53.1 _ _ _) (fun x59 h58 ph58 => ?_)
            have Kh58 := ph58
            have Ih58 := Ih53.tr Kh58 sb_prT_prT
            refine sx_istore_n dX10_passThing_111 (by decide) ?_
            refine sx_aload_n dX10_passThing_112 rfl ?_
            refine sx_getI (k := 2) cl_10 fl_X10_38 dX10_passThing_113 s_190 (by decide) rfl (by decide) ?_
            refine sx_bipush dX10_passThing_116 ⟨by decide, by decide, by decide⟩ ?_
            refine sx_icmp_le (tgt := 126) dX10_passThing_118 (by decide) (fun c60 => ?_) (fun c60 => ?_)
            ·
              refine sx_iload_n dX10_passThing_126 rfl ?_
              refine sx_ireturn dX10_passThing_127 ?_
              exact ⟨_, rfl, ⟨Ih58, by omega⟩⟩
            ·
              refine sx_bipush dX10_passThing_121 ⟨by decide, by decide, by decide⟩ ?_
              refine sx_goto (tgt := 127) dX10_passThing_123 (by decide) ?_
              refine sx_ireturn dX10_passThing_127 ?_
              exact ⟨_, rfl, ⟨Ih58, by omega⟩⟩
        ·
          refine sx_bipush dX10_passThing_23 ⟨by decide, by decide, by decide⟩ ?_
          refine sx_ireturn dX10_passThing_25 ?_
          exact ⟨_, rfl, ⟨hI, by omega⟩⟩
set_option maxRecDepth 20000 in
set_option maxHeartbeats 4000000 in
theorem c_X10_enter_190 {G : sw_G} (d : Nat) {h0 : sw_H} (hJ : cJ h0) (a : Int) : sw_E G NH SH (d) mX10_enter 0 [some (sw_r 190), some (sw_i a)] [] h0 (sw_Qi (fun z h' => cK prT h0 h')) := by
  have hI : cK prT h0 h0 := cK.refl hJ
  refine sx_aload_n dX10_enter_0 rfl ?_
  refine sx_getI (k := 7) cl_10 fl_X10_53 dX10_enter_1 s_190 (by decide) rfl (by decide) ?_
  have r1 : (0 : Int) ≤ h0 190 7 ∧ h0 190 7 ≤ 4 := hI.1.1 190 7
  refine sx_iconst dX10_enter_4 ⟨by decide, by decide⟩ ?_
  refine sx_icmp_lt (tgt := 10) dX10_enter_5 (by decide) (fun c2 => ?_) (fun c2 => ?_)
  ·
    refine sx_aload_n dX10_enter_10 rfl ?_
    refine sx_getS (k := 8) (t := 191) cl_10 fl_X10_9 dX10_enter_11 s_190 (by decide) rfl (by decide) ?_
    refine sx_aload_n dX10_enter_14 rfl ?_
    refine sx_getI (k := 7) cl_10 fl_X10_53 dX10_enter_15 s_190 (by decide) rfl (by decide) ?_
    have r3 : (0 : Int) ≤ h0 190 7 ∧ h0 190 7 ≤ 4 := hI.1.1 190 7
    refine sx_aload_n dX10_enter_18 rfl ?_
    refine sx_getI (k := 1) cl_10 fl_X10_34 dX10_enter_19 s_190 (by decide) rfl (by decide) ?_
    refine sy_iastore dX10_enter_22 s_191 (by decide) (by decide) ⟨by omega, by omega⟩ (fun h4 eh4 => ?_)
    have Ih4 := hI.up eh4 trivial rfl rfl
    have th4_190_7 := eh4.2 (190) 7 (by omega)
    refine sx_aload_n dX10_enter_23 rfl ?_
    refine sx_getS (k := 9) (t := 192) cl_10 fl_X10_15 dX10_enter_24 s_190 (by decide) rfl (by decide) ?_
    refine sx_aload_n dX10_enter_27 rfl ?_
    refine sx_getI (k := 7) cl_10 fl_X10_53 dX10_enter_28 s_190 (by decide) rfl (by decide) ?_
    have r5 : (0 : Int) ≤ h4 190 7 ∧ h4 190 7 ≤ 4 := Ih4.1.1 190 7
    refine sx_aload_n dX10_enter_31 rfl ?_
    refine sx_getI (k := 2) cl_10 fl_X10_38 dX10_enter_32 s_190 (by decide) rfl (by decide) ?_
    refine sy_iastore dX10_enter_35 s_192 (by decide) (by decide) ⟨by omega, by omega⟩ (fun h6 eh6 => ?_)
    have Ih6 := Ih4.up eh6 trivial rfl rfl
    have th6_190_7 := eh6.2 (190) 7 (by omega)
    refine sx_aload_n dX10_enter_36 rfl ?_
    refine sx_getS (k := 10) (t := 193) cl_10 fl_X10_18 dX10_enter_37 s_190 (by decide) rfl (by decide) ?_
    refine sx_aload_n dX10_enter_40 rfl ?_
    refine sx_getI (k := 7) cl_10 fl_X10_53 dX10_enter_41 s_190 (by decide) rfl (by decide) ?_
    have r7 : (0 : Int) ≤ h6 190 7 ∧ h6 190 7 ≤ 4 := Ih6.1.1 190 7
    refine sx_aload_n dX10_enter_44 rfl ?_
    refine sx_getI (k := 1) cl_10 fl_X10_34 dX10_enter_45 s_190 (by decide) rfl (by decide) ?_
    refine sy_iastore dX10_enter_48 s_193 (by decide) (by decide) ⟨by omega, by omega⟩ (fun h8 eh8 => ?_)
    have Ih8 := Ih6.up eh8 trivial rfl rfl
    have th8_190_7 := eh8.2 (190) 7 (by omega)
    refine sx_aload_n dX10_enter_49 rfl ?_
    refine sx_getS (k := 11) (t := 194) cl_10 fl_X10_21 dX10_enter_50 s_190 (by decide) rfl (by decide) ?_
    refine sx_aload_n dX10_enter_53 rfl ?_
    refine sx_getI (k := 7) cl_10 fl_X10_53 dX10_enter_54 s_190 (by decide) rfl (by decide) ?_
    have r9 : (0 : Int) ≤ h8 190 7 ∧ h8 190 7 ≤ 4 := Ih8.1.1 190 7
    refine sx_aload_n dX10_enter_57 rfl ?_
    refine sx_getI (k := 2) cl_10 fl_X10_38 dX10_enter_58 s_190 (by decide) rfl (by decide) ?_
    refine sy_iastore dX10_enter_61 s_194 (by decide) (by decide) ⟨by omega, by omega⟩ (fun h10 eh10 => ?_)
    have Ih10 := Ih8.up eh10 trivial rfl rfl
    have th10_190_7 := eh10.2 (190) 7 (by omega)
    refine sx_aload_n dX10_enter_62 rfl ?_
    refine sx_getS (k := 12) (t := 195) cl_10 fl_X10_24 dX10_enter_63 s_190 (by decide) rfl (by decide) ?_
    refine sx_aload_n dX10_enter_66 rfl ?_
    refine sx_getI (k := 7) cl_10 fl_X10_53 dX10_enter_67 s_190 (by decide) rfl (by decide) ?_
    have r11 : (0 : Int) ≤ h10 190 7 ∧ h10 190 7 ≤ 4 := Ih10.1.1 190 7
    refine sx_iload_n dX10_enter_70 rfl ?_
    refine sy_iastore dX10_enter_71 s_195 (by decide) (by decide) ⟨by omega, by omega⟩ (fun h12 eh12 => ?_)
    have Ih12 := Ih10.up eh12 trivial rfl rfl
    have th12_190_7 := eh12.2 (190) 7 (by omega)
    refine sx_aload_n dX10_enter_72 rfl ?_
    refine sx_getS (k := 13) (t := 196) cl_10 fl_X10_27 dX10_enter_73 s_190 (by decide) rfl (by decide) ?_
    refine sx_aload_n dX10_enter_76 rfl ?_
    refine sx_getI (k := 7) cl_10 fl_X10_53 dX10_enter_77 s_190 (by decide) rfl (by decide) ?_
    have r13 : (0 : Int) ≤ h12 190 7 ∧ h12 190 7 ≤ 4 := Ih12.1.1 190 7
    refine sx_aload_n dX10_enter_80 rfl ?_
    refine sx_getI (k := 6) cl_10 fl_X10_50 dX10_enter_81 s_190 (by decide) rfl (by decide) ?_
    refine sx_iconst dX10_enter_84 ⟨by decide, by decide⟩ ?_
    refine sx_iadd dX10_enter_85 ?_
    refine sy_iastore dX10_enter_86 s_196 (by decide) (by decide) ⟨by omega, by omega⟩ (fun h14 eh14 => ?_)
    have Ih14 := Ih12.up eh14 trivial rfl rfl
    have th14_190_7 := eh14.2 (190) 7 (by omega)
    refine sx_aload_n dX10_enter_87 rfl ?_
    refine sx_iconst dX10_enter_88 ⟨by decide, by decide⟩ ?_
    refine sy_putI (k := 6) cl_10 fl_X10_50 dX10_enter_89 s_190 (by decide) rfl (by decide) rfl rfl (fun h15 eh15 => ?_)
    have Ih15 := Ih14.up eh15 trivial rfl rfl
    have th15_190_7 := eh15.2 (190) 7 (by decide)
    refine sx_aload_n dX10_enter_92 rfl ?_
    refine sx_dupr dX10_enter_93 ?_
    refine sx_getI (k := 7) cl_10 fl_X10_53 dX10_enter_94 s_190 (by decide) rfl (by decide) ?_
    have r16 : (0 : Int) ≤ h15 190 7 ∧ h15 190 7 ≤ 4 := Ih15.1.1 190 7
    refine sx_iconst dX10_enter_97 ⟨by decide, by decide⟩ ?_
    refine sx_iadd dX10_enter_98 ?_
    refine sy_topw (by omega) ?_
    refine sy_putI (k := 7) cl_10 fl_X10_53 dX10_enter_99 s_190 (by decide) rfl (by decide) rfl rfl (fun h17 eh17 => ?_)
    have Ih17 := Ih15.up eh17 (show (0 : Int) ≤ _ ∧ _ ≤ (4 : Int) from ⟨by omega, by omega⟩) rfl rfl
    have th17_190_7 := eh17.1
    refine sx_iconst dX10_enter_102 ⟨by decide, by decide⟩ ?_
    refine sx_ireturn dX10_enter_103 ?_
    exact ⟨_, rfl, Ih17⟩
  ·
    refine sx_iconst dX10_enter_8 ⟨by decide, by decide⟩ ?_
    refine sx_ireturn dX10_enter_9 ?_
    exact ⟨_, rfl, hI⟩
set_option maxRecDepth 20000 in
set_option maxHeartbeats 4000000 in
theorem c_X10_passElse_190 {G : sw_G} (d : Nat) {h0 : sw_H} (hJ : cJ h0)  : sw_E G NH SH (d) mX10_passElse 0 [some (sw_r 190), none] [] h0 (sw_Qi (fun z h' => cK prT h0 h')) := by
  have hI : cK prT h0 h0 := cK.refl hJ
  refine sx_aload_n dX10_passElse_0 rfl ?_
  refine sx_getI (k := 7) cl_10 fl_X10_53 dX10_passElse_1 s_190 (by decide) rfl (by decide) ?_
  have r1 : (0 : Int) ≤ h0 190 7 ∧ h0 190 7 ≤ 4 := hI.1.1 190 7
  refine sx_if_ne (tgt := 9) dX10_passElse_4 (by decide) (fun c2 => ?_) (fun c2 => ?_)
  ·
    refine sx_aload_n dX10_passElse_9 rfl ?_
    refine sx_getI (k := 7) cl_10 fl_X10_53 dX10_passElse_10 s_190 (by decide) rfl (by decide) ?_
    have r3 : (0 : Int) ≤ h0 190 7 ∧ h0 190 7 ≤ 4 := hI.1.1 190 7
    refine sx_iconst dX10_passElse_13 ⟨by decide, by decide⟩ ?_
    refine sx_isub dX10_passElse_14 ?_
    refine sy_topw (by omega) ?_
    refine sy_top (fun v4 ev4 => ?_)
    refine sx_istore_n dX10_passElse_15 (by decide) ?_
    refine sx_aload_n dX10_passElse_16 rfl ?_
    refine sx_getS (k := 10) (t := 193) cl_10 fl_X10_18 dX10_passElse_17 s_190 (by decide) rfl (by decide) ?_
    refine sx_iload_n dX10_passElse_20 rfl ?_
    refine sx_aload_n dX10_passElse_21 rfl ?_
    refine sx_getI (k := 1) cl_10 fl_X10_34 dX10_passElse_22 s_190 (by decide) rfl (by decide) ?_
    refine sy_iastore dX10_passElse_25 s_193 (by decide) (by decide) ⟨by omega, by omega⟩ (fun h5 eh5 => ?_)
    have Ih5 := hI.up eh5 trivial rfl rfl
    have th5_190_7 := eh5.2 (190) 7 (by omega)
    refine sx_aload_n dX10_passElse_26 rfl ?_
    refine sx_getS (k := 11) (t := 194) cl_10 fl_X10_21 dX10_passElse_27 s_190 (by decide) rfl (by decide) ?_
    refine sx_iload_n dX10_passElse_30 rfl ?_
    refine sx_aload_n dX10_passElse_31 rfl ?_
    refine sx_getI (k := 2) cl_10 fl_X10_38 dX10_passElse_32 s_190 (by decide) rfl (by decide) ?_
    refine sy_iastore dX10_passElse_35 s_194 (by decide) (by decide) ⟨by omega, by omega⟩ (fun h6 eh6 => ?_)
    have Ih6 := Ih5.up eh6 trivial rfl rfl
    have th6_190_7 := eh6.2 (190) 7 (by omega)
    refine sx_aload_n dX10_passElse_36 rfl ?_
    refine sx_getS (k := 12) (t := 195) cl_10 fl_X10_24 dX10_passElse_37 s_190 (by decide) rfl (by decide) ?_
    refine sx_iload_n dX10_passElse_40 rfl ?_
    refine sx_aload_n dX10_passElse_41 rfl ?_
    refine sx_getI (k := 6) cl_10 fl_X10_50 dX10_passElse_42 s_190 (by decide) rfl (by decide) ?_
    refine sy_iastore dX10_passElse_45 s_195 (by decide) (by decide) ⟨by omega, by omega⟩ (fun h7 eh7 => ?_)
    have Ih7 := Ih6.up eh7 trivial rfl rfl
    have th7_190_7 := eh7.2 (190) 7 (by omega)
    refine sx_aload_n dX10_passElse_46 rfl ?_
    refine sx_aload_n dX10_passElse_47 rfl ?_
    refine sx_getS (k := 8) (t := 191) cl_10 fl_X10_9 dX10_passElse_48 s_190 (by decide) rfl (by decide) ?_
    refine sx_iload_n dX10_passElse_51 rfl ?_
    refine sx_iaload dX10_passElse_52 s_191 (by decide) (by decide) ⟨by omega, by omega⟩ ?_
    refine sy_putI (k := 1) cl_10 fl_X10_34 dX10_passElse_53 s_190 (by decide) rfl (by decide) rfl rfl (fun h8 eh8 => ?_)
    have Ih8 := Ih7.up eh8 trivial rfl rfl
    have th8_190_7 := eh8.2 (190) 7 (by decide)
    refine sx_aload_n dX10_passElse_56 rfl ?_
    refine sx_aload_n dX10_passElse_57 rfl ?_
    refine sx_getS (k := 9) (t := 192) cl_10 fl_X10_15 dX10_passElse_58 s_190 (by decide) rfl (by decide) ?_
    refine sx_iload_n dX10_passElse_61 rfl ?_
    refine sx_iaload dX10_passElse_62 s_192 (by decide) (by decide) ⟨by omega, by omega⟩ ?_
    refine sy_putI (k := 2) cl_10 fl_X10_38 dX10_passElse_63 s_190 (by decide) rfl (by decide) rfl rfl (fun h9 eh9 => ?_)
    have Ih9 := Ih8.up eh9 trivial rfl rfl
    have th9_190_7 := eh9.2 (190) 7 (by decide)
    refine sx_aload_n dX10_passElse_66 rfl ?_
    refine sx_iconst dX10_passElse_67 ⟨by decide, by decide⟩ ?_
    refine sy_putI (k := 6) cl_10 fl_X10_50 dX10_passElse_68 s_190 (by decide) rfl (by decide) rfl rfl (fun h10 eh10 => ?_)
    have Ih10 := Ih9.up eh10 trivial rfl rfl
    have th10_190_7 := eh10.2 (190) 7 (by decide)
    refine sx_iconst dX10_passElse_71 ⟨by decide, by decide⟩ ?_
    refine sx_ireturn dX10_passElse_72 ?_
    exact ⟨_, rfl, Ih10⟩
  ·
    refine sx_iconst dX10_passElse_7 ⟨by decide, by decide⟩ ?_
    refine sx_ireturn dX10_passElse_8 ?_
    exact ⟨_, rfl, hI⟩
set_option maxRecDepth 20000 in
set_option maxHeartbeats 4000000 in
theorem c_X10_passThen_190 {G : sw_G} (d : Nat) {h0 : sw_H} (hJ : cJ h0)  : sw_E G NH SH (d + 1) mX10_passThen 0 [some (sw_r 190)] [] h0 (sw_Qi (fun z h' => cK prT h0 h')) := by
  have hI : cK prT h0 h0 := cK.refl hJ
  refine sx_aload_n dX10_passThen_0 rfl ?_
  refine sx_getI (k := 7) cl_10 fl_X10_53 dX10_passThen_1 s_190 (by decide) rfl (by decide) ?_
  have r1 : (0 : Int) ≤ h0 190 7 ∧ h0 190 7 ≤ 4 := hI.1.1 190 7
  refine sx_if_ne (tgt := 9) dX10_passThen_4 (by decide) (fun c2 => ?_) (fun c2 => ?_)
  ·
    refine sx_aload_n dX10_passThen_9 rfl ?_
    refine sx_dupr dX10_passThen_10 ?_
    refine sx_getI (k := 7) cl_10 fl_X10_53 dX10_passThen_11 s_190 (by decide) rfl (by decide) ?_
    have r3 : (0 : Int) ≤ h0 190 7 ∧ h0 190 7 ≤ 4 := hI.1.1 190 7
    refine sx_iconst dX10_passThen_14 ⟨by decide, by decide⟩ ?_
    refine sx_isub dX10_passThen_15 ?_
    refine sy_topw (by omega) ?_
    refine sy_putI (k := 7) cl_10 fl_X10_53 dX10_passThen_16 s_190 (by decide) rfl (by decide) rfl rfl (fun h4 eh4 => ?_)
    have Ih4 := hI.up eh4 (show (0 : Int) ≤ _ ∧ _ ≤ (4 : Int) from ⟨by omega, by omega⟩) rfl rfl
    have th4_190_7 := eh4.1
    refine sx_aload_n dX10_passThen_19 rfl ?_
    refine sx_aload_n dX10_passThen_20 rfl ?_
    refine sx_getS (k := 13) (t := 196) cl_10 fl_X10_27 dX10_passThen_21 s_190 (by decide) rfl (by decide) ?_
    refine sx_aload_n dX10_passThen_24 rfl ?_
    refine sx_getI (k := 7) cl_10 fl_X10_53 dX10_passThen_25 s_190 (by decide) rfl (by decide) ?_
    have r5 : (0 : Int) ≤ h4 190 7 ∧ h4 190 7 ≤ 4 := Ih4.1.1 190 7
    refine sx_iaload dX10_passThen_28 s_196 (by decide) (by decide) ⟨by omega, by omega⟩ ?_
    refine sx_aload_n dX10_passThen_29 rfl ?_
    refine sx_getI (k := 6) cl_10 fl_X10_50 dX10_passThen_30 s_190 (by decide) rfl (by decide) ?_
    refine sx_aload_n dX10_passThen_33 rfl ?_
    refine sx_getS (k := 12) (t := 195) cl_10 fl_X10_24 dX10_passThen_34 s_190 (by decide) rfl (by decide) ?_
    refine sx_aload_n dX10_passThen_37 rfl ?_
    refine sx_getI (k := 7) cl_10 fl_X10_53 dX10_passThen_38 s_190 (by decide) rfl (by decide) ?_
    have r6 : (0 : Int) ≤ h4 190 7 ∧ h4 190 7 ≤ 4 := Ih4.1.1 190 7
    refine sx_iaload dX10_passThen_41 s_195 (by decide) (by decide) ⟨by omega, by omega⟩ ?_
    refine sx_max lm_X10_80 lw_max dX10_passThen_42 (Nat.le_of_ble_eq_true rfl) ?_
    refine sy_max (fun m7 em7 fm7 gm7 => ?_)
    refine sx_iadd dX10_passThen_45 ?_
    refine sy_putI (k := 6) cl_10 fl_X10_50 dX10_passThen_46 s_190 (by decide) rfl (by decide) rfl rfl (fun h8 eh8 => ?_)
    have Ih8 := Ih4.up eh8 trivial rfl rfl
    have th8_190_7 := eh8.2 (190) 7 (by decide)
    refine sx_aload_n dX10_passThen_49 rfl ?_
    refine sx_getI (k := 1) cl_10 fl_X10_34 dX10_passThen_50 s_190 (by decide) rfl (by decide) ?_
    refine sx_aload_n dX10_passThen_53 rfl ?_
    refine sx_getS (k := 10) (t := 193) cl_10 fl_X10_18 dX10_passThen_54 s_190 (by decide) rfl (by decide) ?_
    refine sx_aload_n dX10_passThen_57 rfl ?_
    refine sx_getI (k := 7) cl_10 fl_X10_53 dX10_passThen_58 s_190 (by decide) rfl (by decide) ?_
    have r9 : (0 : Int) ≤ h8 190 7 ∧ h8 190 7 ≤ 4 := Ih8.1.1 190 7
    refine sx_iaload dX10_passThen_61 s_193 (by decide) (by decide) ⟨by omega, by omega⟩ ?_
    refine sx_icmp_ne (tgt := 85) dX10_passThen_62 (by decide) (fun c10 => ?_) (fun c10 => ?_)
    ·
      refine sx_bipush dX10_passThen_85 ⟨by decide, by decide, by decide⟩ ?_
      refine sx_ireturn dX10_passThen_87 ?_
      exact ⟨_, rfl, Ih8⟩
    ·
      refine sx_aload_n dX10_passThen_65 rfl ?_
      refine sx_getI (k := 2) cl_10 fl_X10_38 dX10_passThen_66 s_190 (by decide) rfl (by decide) ?_
      refine sx_aload_n dX10_passThen_69 rfl ?_
      refine sx_getS (k := 11) (t := 194) cl_10 fl_X10_21 dX10_passThen_70 s_190 (by decide) rfl (by decide) ?_
      refine sx_aload_n dX10_passThen_73 rfl ?_
      refine sx_getI (k := 7) cl_10 fl_X10_53 dX10_passThen_74 s_190 (by decide) rfl (by decide) ?_
      have r11 : (0 : Int) ≤ h8 190 7 ∧ h8 190 7 ≤ 4 := Ih8.1.1 190 7
      refine sx_iaload dX10_passThen_77 s_194 (by decide) (by decide) ⟨by omega, by omega⟩ ?_
      refine sx_icmp_ne (tgt := 85) dX10_passThen_78 (by decide) (fun c12 => ?_) (fun c12 => ?_)
      ·
        refine sx_bipush dX10_passThen_85 ⟨by decide, by decide, by decide⟩ ?_
        refine sx_ireturn dX10_passThen_87 ?_
        exact ⟨_, rfl, Ih8⟩
      ·
        refine sx_iconst dX10_passThen_81 ⟨by decide, by decide⟩ ?_
        refine sx_goto (tgt := 87) dX10_passThen_82 (by decide) ?_
        refine sx_ireturn dX10_passThen_87 ?_
        exact ⟨_, rfl, Ih8⟩
  ·
    refine sx_iconst dX10_passThen_7 ⟨by decide, by decide⟩ ?_
    refine sx_ireturn dX10_passThen_8 ?_
    exact ⟨_, rfl, hI⟩
set_option maxRecDepth 20000 in
set_option maxHeartbeats 4000000 in
theorem c_X10_passNext_190 {G : sw_G} (d : Nat) {h0 : sw_H} (hJ : cJ h0)  : sw_E G NH SH (d) mX10_passNext 0 [some (sw_r 190)] [] h0 (sw_Qi (fun z h' => cK prT h0 h')) := by
  have hI : cK prT h0 h0 := cK.refl hJ
  refine sx_aload_n dX10_passNext_0 rfl ?_
  refine sx_getI (k := 7) cl_10 fl_X10_53 dX10_passNext_1 s_190 (by decide) rfl (by decide) ?_
  have r1 : (0 : Int) ≤ h0 190 7 ∧ h0 190 7 ≤ 4 := hI.1.1 190 7
  refine sx_if_ne (tgt := 9) dX10_passNext_4 (by decide) (fun c2 => ?_) (fun c2 => ?_)
  ·
    refine sx_aload_n dX10_passNext_9 rfl ?_
    refine sx_dupr dX10_passNext_10 ?_
    refine sx_getI (k := 7) cl_10 fl_X10_53 dX10_passNext_11 s_190 (by decide) rfl (by decide) ?_
    have r3 : (0 : Int) ≤ h0 190 7 ∧ h0 190 7 ≤ 4 := hI.1.1 190 7
    refine sx_iconst dX10_passNext_14 ⟨by decide, by decide⟩ ?_
    refine sx_isub dX10_passNext_15 ?_
    refine sy_topw (by omega) ?_
    refine sy_putI (k := 7) cl_10 fl_X10_53 dX10_passNext_16 s_190 (by decide) rfl (by decide) rfl rfl (fun h4 eh4 => ?_)
    have Ih4 := hI.up eh4 (show (0 : Int) ≤ _ ∧ _ ≤ (4 : Int) from ⟨by omega, by omega⟩) rfl rfl
    have th4_190_7 := eh4.1
    refine sx_aload_n dX10_passNext_19 rfl ?_
    refine sx_aload_n dX10_passNext_20 rfl ?_
    refine sx_getS (k := 13) (t := 196) cl_10 fl_X10_27 dX10_passNext_21 s_190 (by decide) rfl (by decide) ?_
    refine sx_aload_n dX10_passNext_24 rfl ?_
    refine sx_getI (k := 7) cl_10 fl_X10_53 dX10_passNext_25 s_190 (by decide) rfl (by decide) ?_
    have r5 : (0 : Int) ≤ h4 190 7 ∧ h4 190 7 ≤ 4 := Ih4.1.1 190 7
    refine sx_iaload dX10_passNext_28 s_196 (by decide) (by decide) ⟨by omega, by omega⟩ ?_
    refine sx_aload_n dX10_passNext_29 rfl ?_
    refine sx_getS (k := 12) (t := 195) cl_10 fl_X10_24 dX10_passNext_30 s_190 (by decide) rfl (by decide) ?_
    refine sx_aload_n dX10_passNext_33 rfl ?_
    refine sx_getI (k := 7) cl_10 fl_X10_53 dX10_passNext_34 s_190 (by decide) rfl (by decide) ?_
    have r6 : (0 : Int) ≤ h4 190 7 ∧ h4 190 7 ≤ 4 := Ih4.1.1 190 7
    refine sx_iaload dX10_passNext_37 s_195 (by decide) (by decide) ⟨by omega, by omega⟩ ?_
    refine sx_aload_n dX10_passNext_38 rfl ?_
    refine sx_getI (k := 6) cl_10 fl_X10_50 dX10_passNext_39 s_190 (by decide) rfl (by decide) ?_
    refine sx_imul dX10_passNext_42 ?_
    refine sx_iadd dX10_passNext_43 ?_
    refine sy_putI (k := 6) cl_10 fl_X10_50 dX10_passNext_44 s_190 (by decide) rfl (by decide) rfl rfl (fun h7 eh7 => ?_)
    have Ih7 := Ih4.up eh7 trivial rfl rfl
    have th7_190_7 := eh7.2 (190) 7 (by decide)
    refine sx_aload_n dX10_passNext_47 rfl ?_
    refine sx_getI (k := 1) cl_10 fl_X10_34 dX10_passNext_48 s_190 (by decide) rfl (by decide) ?_
    refine sx_aload_n dX10_passNext_51 rfl ?_
    refine sx_getS (k := 8) (t := 191) cl_10 fl_X10_9 dX10_passNext_52 s_190 (by decide) rfl (by decide) ?_
    refine sx_aload_n dX10_passNext_55 rfl ?_
    refine sx_getI (k := 7) cl_10 fl_X10_53 dX10_passNext_56 s_190 (by decide) rfl (by decide) ?_
    have r8 : (0 : Int) ≤ h7 190 7 ∧ h7 190 7 ≤ 4 := Ih7.1.1 190 7
    refine sx_iaload dX10_passNext_59 s_191 (by decide) (by decide) ⟨by omega, by omega⟩ ?_
    refine sx_icmp_ne (tgt := 83) dX10_passNext_60 (by decide) (fun c9 => ?_) (fun c9 => ?_)
    ·
      refine sx_bipush dX10_passNext_83 ⟨by decide, by decide, by decide⟩ ?_
      refine sx_ireturn dX10_passNext_85 ?_
      exact ⟨_, rfl, Ih7⟩
    ·
      refine sx_aload_n dX10_passNext_63 rfl ?_
      refine sx_getI (k := 2) cl_10 fl_X10_38 dX10_passNext_64 s_190 (by decide) rfl (by decide) ?_
      refine sx_aload_n dX10_passNext_67 rfl ?_
      refine sx_getS (k := 9) (t := 192) cl_10 fl_X10_15 dX10_passNext_68 s_190 (by decide) rfl (by decide) ?_
      refine sx_aload_n dX10_passNext_71 rfl ?_
      refine sx_getI (k := 7) cl_10 fl_X10_53 dX10_passNext_72 s_190 (by decide) rfl (by decide) ?_
      have r10 : (0 : Int) ≤ h7 190 7 ∧ h7 190 7 ≤ 4 := Ih7.1.1 190 7
      refine sx_iaload dX10_passNext_75 s_192 (by decide) (by decide) ⟨by omega, by omega⟩ ?_
      refine sx_icmp_ne (tgt := 83) dX10_passNext_76 (by decide) (fun c11 => ?_) (fun c11 => ?_)
      ·
        refine sx_bipush dX10_passNext_83 ⟨by decide, by decide, by decide⟩ ?_
        refine sx_ireturn dX10_passNext_85 ?_
        exact ⟨_, rfl, Ih7⟩
      ·
        refine sx_iconst dX10_passNext_79 ⟨by decide, by decide⟩ ?_
        refine sx_goto (tgt := 85) dX10_passNext_80 (by decide) ?_
        refine sx_ireturn dX10_passNext_85 ?_
        exact ⟨_, rfl, Ih7⟩
  ·
    refine sx_iconst dX10_passNext_7 ⟨by decide, by decide⟩ ?_
    refine sx_ireturn dX10_passNext_8 ?_
    exact ⟨_, rfl, hI⟩
set_option maxRecDepth 20000 in
set_option maxHeartbeats 4000000 in
theorem c_X10_passCall_190_1 {G : sw_G} (d : Nat) {h0 : sw_H} (hJ : cJ h0) (hc : h0 190 0 = 1) (w : Int) : sw_E G NH SH (d + 1) mX10_passCall 0 [some (sw_r 190), some (sw_i w)] [] h0 (sw_Qi (fun z h' => cK prT h0 h' ∧ (z = 0 → 0 ≤ w ∧ w ≤ 5))) := by
  have hI : cK prT h0 h0 := cK.refl hJ
  have rw : (0 : Int) ≤ h0 1 0 ∧ h0 1 0 ≤ 6 := hI.1.1 1 0
  refine sx_aload_n dX10_passCall_0 rfl ?_
  refine sx_getR (k := 0) (t := 1) cl_10 fl_X10_30 dX10_passCall_1 s_190 (by decide) rfl (by decide) (by omega) ?_
  refine sx_iload_n dX10_passCall_4 rfl ?_
  refine sx_callVz lk_X10_92 cl_0 s_1 (by decide) dX10_passCall_5 (vs := [_]) rfl rfl (Nat.le_of_ble_eq_true rfl) (Nat.le_of_ble_eq_true rfl) rfl (c_X0_hasWord_1 _ hI.1 _) (fun x2 h1 zx2 ph1 => ?_)
  obtain ⟨rfl, w_x2⟩ := ph1
  refine sx_if_ne (tgt := 13) dX10_passCall_8 (by decide) (fun c3 => ?_) (fun c3 => ?_)
  ·
    refine sx_aload_n dX10_passCall_13 rfl ?_
    refine sx_dupr dX10_passCall_14 ?_
    refine sx_getI (k := 6) cl_10 fl_X10_50 dX10_passCall_15 s_190 (by decide) rfl (by decide) ?_
    refine sx_iconst dX10_passCall_18 ⟨by decide, by decide⟩ ?_
    refine sx_aload_n dX10_passCall_19 rfl ?_
    refine sx_getR (k := 0) (t := 1) cl_10 fl_X10_30 dX10_passCall_20 s_190 (by decide) rfl (by decide) (by omega) ?_
    refine sx_getS (k := 14) (t := 11) cl_0 fl_X10_98 dX10_passCall_23 s_1 (by decide) rfl (by decide) ?_
    refine sx_iload_n dX10_passCall_26 rfl ?_
    refine sx_iaload dX10_passCall_27 s_11 (by decide) (by decide) ⟨by omega, by omega⟩ ?_
    refine sx_iadd dX10_passCall_28 ?_
    refine sx_iadd dX10_passCall_29 ?_
    refine sy_putI (k := 6) cl_10 fl_X10_50 dX10_passCall_30 s_190 (by decide) rfl (by decide) rfl rfl (fun h4 eh4 => ?_)
    have Ih4 := hI.up eh4 trivial rfl rfl
    have th4_190_0 := eh4.2 (190) 0 (by decide)
    refine sx_aload_n dX10_passCall_33 rfl ?_
    refine sx_aload_n dX10_passCall_34 rfl ?_
    refine sx_getR (k := 0) (t := 1) cl_10 fl_X10_30 dX10_passCall_35 s_190 (by decide) rfl (by decide) (by omega) ?_
    refine sx_getS (k := 10) (t := 7) cl_0 fl_X10_100 dX10_passCall_38 s_1 (by decide) rfl (by decide) ?_
    refine sx_iload_n dX10_passCall_41 rfl ?_
    refine sy_iaF (F := fun z => (0 : Int) ≤ z ∧ z ≤ 2147483647) dX10_passCall_42 s_7 (by decide) (by decide) ⟨by omega, by omega⟩ (Ih4.1.1 7 _) (fun r5 => ?_)
    refine sx_aload_n dX10_passCall_43 rfl ?_
    refine sx_getR (k := 0) (t := 1) cl_10 fl_X10_30 dX10_passCall_44 s_190 (by decide) rfl (by decide) (by omega) ?_
    refine sx_getS (k := 11) (t := 8) cl_0 fl_X10_102 dX10_passCall_47 s_1 (by decide) rfl (by decide) ?_
    refine sx_iload_n dX10_passCall_50 rfl ?_
    refine sx_iaload dX10_passCall_51 s_8 (by decide) (by decide) ⟨by omega, by omega⟩ ?_
    refine sx_aload_n dX10_passCall_52 rfl ?_
    refine sx_getR (k := 0) (t := 1) cl_10 fl_X10_30 dX10_passCall_53 s_190 (by decide) rfl (by decide) (by omega) ?_
    refine sx_getS (k := 12) (t := 9) cl_0 fl_X10_105 dX10_passCall_56 s_1 (by decide) rfl (by decide) ?_
    refine sx_iload_n dX10_passCall_59 rfl ?_
    refine sx_iaload dX10_passCall_60 s_9 (by decide) (by decide) ⟨by omega, by omega⟩ ?_
    refine sx_callVi lk_X10_60 cl_10 s_190 (by decide) dX10_passCall_61 (vs := [_, _, _]) rfl rfl (Nat.le_of_ble_eq_true rfl) (Nat.le_of_ble_eq_true rfl) rfl (c_X10_change_190 _ Ih4.1 _ _ _) (fun x7 h6 ph6 => ?_)
    have Kh6 := ph6
    have Ih6 := Ih4.tr Kh6 sb_prT_prT
    have th6_190_0 := Kh6.2 (190) 0 rfl
    refine sx_ireturn dX10_passCall_64 ?_
    exact ⟨_, rfl, ⟨Ih6, by omega⟩⟩
  ·
    refine sx_iconst dX10_passCall_11 ⟨by decide, by decide⟩ ?_
    refine sx_ireturn dX10_passCall_12 ?_
    exact ⟨_, rfl, ⟨hI, by omega⟩⟩
set_option maxRecDepth 20000 in
set_option maxHeartbeats 4000000 in
theorem c_X10_pass_190_1 {G : sw_G} (d : Nat) {h0 : sw_H} (hJ : cJ h0) (hc : h0 190 0 = 1) (a b : Int) : sw_E G NH SH (d + 2) mX10_pass 0 [some (sw_r 190), some (sw_i a), some (sw_i b), none] [] h0 (sw_Qi (fun z h' => cK prT h0 h' ∧ (z = 0 → (a = 0 → 0 ≤ b ∧ b ≤ 14) ∧ (a = 2 → 0 ≤ b ∧ b ≤ 5)))) := by
  have hI : cK prT h0 h0 := cK.refl hJ
  refine sx_iload_n dX10_pass_0 rfl ?_
  refine sx_tsw (dt := 121) (ts := [48, 54, 72, 78, 106, 111, 100, 116]) dX10_pass_1 (by decide) (by decide) (by decide) (fun c1 => ?_) (And.intro (fun c1 => ?_) (And.intro (fun c1 => ?_) (And.intro (fun c1 => ?_) (And.intro (fun c1 => ?_) (And.intro (fun c1 => ?_) (And.intro (fun c1 => ?_) (And.intro (fun c1 => ?_) (And.intro (fun c1 => ?_) trivial))))))))
  ·
    refine sx_iconst dX10_pass_121 ⟨by decide, by decide⟩ ?_
    refine sx_ireturn dX10_pass_122 ?_
    exact ⟨_, rfl, ⟨hI, by omega⟩⟩
  ·
    refine sx_aload_n dX10_pass_48 rfl ?_
    refine sx_iload_n dX10_pass_49 rfl ?_
    refine sx_callVi lk_X10_56 cl_10 s_190 (by decide) dX10_pass_50 (vs := [_]) rfl rfl (Nat.le_of_ble_eq_true rfl) (Nat.le_of_ble_eq_true rfl) rfl (c_X10_passThing_190 _ hI.1 _) (fun x3 h2 ph2 => ?_)
    obtain ⟨Kh2, f_h2⟩ := ph2
    have Ih2 := hI.tr Kh2 sb_prT_prT
    have th2_190_0 := Kh2.2 (190) 0 rfl
    refine sx_ireturn dX10_pass_53 ?_
    exact ⟨_, rfl, ⟨Ih2, by omega⟩⟩
  ·
    refine sx_aload_n dX10_pass_54 rfl ?_
    refine sx_dupr dX10_pass_55 ?_
    refine sx_getI (k := 6) cl_10 fl_X10_50 dX10_pass_56 s_190 (by decide) rfl (by decide) ?_
    refine sx_iconst dX10_pass_59 ⟨by decide, by decide⟩ ?_
    refine sx_iadd dX10_pass_60 ?_
    refine sy_putI (k := 6) cl_10 fl_X10_50 dX10_pass_61 s_190 (by decide) rfl (by decide) rfl rfl (fun h4 eh4 => ?_)
    have Ih4 := hI.up eh4 trivial rfl rfl
    have th4_190_0 := eh4.2 (190) 0 (by decide)
    refine sx_aload_n dX10_pass_64 rfl ?_
    refine sx_iconst dX10_pass_65 ⟨by decide, by decide⟩ ?_
    refine sx_iconst dX10_pass_66 ⟨by decide, by decide⟩ ?_
    refine sx_iconst dX10_pass_67 ⟨by decide, by decide⟩ ?_
    refine sx_callVi lk_X10_60 cl_10 s_190 (by decide) dX10_pass_68 (vs := [_, _, _]) rfl rfl (Nat.le_of_ble_eq_true rfl) (Nat.le_of_ble_eq_true rfl) rfl (c_X10_change_190 _ Ih4.1 _ _ _) (fun x6 h5 ph5 => ?_)
    have Kh5 := ph5
    have Ih5 := Ih4.tr Kh5 sb_prT_prT
    have th5_190_0 := Kh5.2 (190) 0 rfl
    refine sx_ireturn dX10_pass_71 ?_
    exact ⟨_, rfl, ⟨Ih5, by omega⟩⟩
  ·
    refine sx_aload_n dX10_pass_72 rfl ?_
    refine sx_iload_n dX10_pass_73 rfl ?_
    refine sx_callVi lk_X10_64 cl_10 s_190 (by decide) dX10_pass_74 (vs := [_]) rfl rfl (Nat.le_of_ble_eq_true rfl) (Nat.le_of_ble_eq_true rfl) rfl (c_X10_passCall_190_1 _ hI.1 (by omega) _) (fun x8 h7 ph7 => ?_)
    obtain ⟨Kh7, f_h7⟩ := ph7
    have Ih7 := hI.tr Kh7 sb_prT_prT
    have th7_190_0 := Kh7.2 (190) 0 rfl
    refine sx_ireturn dX10_pass_77 ?_
    exact ⟨_, rfl, ⟨Ih7, by omega⟩⟩
  ·
    refine sx_aload_n dX10_pass_78 rfl ?_
    refine sx_iconst dX10_pass_79 ⟨by decide, by decide⟩ ?_
    refine sx_iconst dX10_pass_80 ⟨by decide, by decide⟩ ?_
    refine sx_iconst dX10_pass_81 ⟨by decide, by decide⟩ ?_
    refine sx_callVi lk_X10_60 cl_10 s_190 (by decide) dX10_pass_82 (vs := [_, _, _]) rfl rfl (Nat.le_of_ble_eq_true rfl) (Nat.le_of_ble_eq_true rfl) rfl (c_X10_change_190 _ hI.1 _ _ _) (fun x10 h9 ph9 => ?_)
    have Kh9 := ph9
    have Ih9 := hI.tr Kh9 sb_prT_prT
    have th9_190_0 := Kh9.2 (190) 0 rfl
    refine sx_istore_n dX10_pass_85 (by decide) ?_
    refine sx_iload_n dX10_pass_86 rfl ?_
    refine sx_if_eq (tgt := 94) dX10_pass_87 (by decide) (fun c11 => ?_) (fun c11 => ?_)
    ·
      refine sx_aload_n dX10_pass_94 rfl ?_
      refine sx_iconst dX10_pass_95 ⟨by decide, by decide⟩ ?_
      refine sx_callVi lk_X10_67 cl_10 s_190 (by decide) dX10_pass_96 (vs := [_]) rfl rfl (Nat.le_of_ble_eq_true rfl) (Nat.le_of_ble_eq_true rfl) rfl (c_X10_enter_190 _ Ih9.1 _) (fun x13 h12 ph12 => ?_)
      have Kh12 := ph12
      have Ih12 := Ih9.tr Kh12 sb_prT_prT
      have th12_190_0 := Kh12.2 (190) 0 rfl
      refine sx_ireturn dX10_pass_99 ?_
      exact ⟨_, rfl, ⟨Ih12, by omega⟩⟩
    ·
      refine sx_iload_n dX10_pass_90 rfl ?_
      refine sx_goto (tgt := 99) dX10_pass_91 (by decide) ?_
      refine sx_ireturn dX10_pass_99 ?_
      exact ⟨_, rfl, ⟨Ih9, by omega⟩⟩
  ·
    refine sx_aload_n dX10_pass_106 rfl ?_
    refine sx_callVi lk_X10_70 cl_10 s_190 (by decide) dX10_pass_107 (vs := []) rfl rfl (Nat.le_of_ble_eq_true rfl) (Nat.le_of_ble_eq_true rfl) rfl (c_X10_passElse_190 _ hI.1) (fun x15 h14 ph14 => ?_)
    have Kh14 := ph14
    have Ih14 := hI.tr Kh14 sb_prT_prT
    have th14_190_0 := Kh14.2 (190) 0 rfl
    refine sx_ireturn dX10_pass_110 ?_
    exact ⟨_, rfl, ⟨Ih14, by omega⟩⟩
  ·
    refine sx_aload_n dX10_pass_111 rfl ?_
    refine sx_callVi lk_X10_74 cl_10 s_190 (by decide) dX10_pass_112 (vs := []) rfl rfl (Nat.le_of_ble_eq_true rfl) (Nat.le_of_ble_eq_true rfl) rfl (c_X10_passThen_190 _ hI.1) (fun x17 h16 ph16 => ?_)
    have Kh16 := ph16
    have Ih16 := hI.tr Kh16 sb_prT_prT
    have th16_190_0 := Kh16.2 (190) 0 rfl
    refine sx_ireturn dX10_pass_115 ?_
    exact ⟨_, rfl, ⟨Ih16, by omega⟩⟩
  ·
    refine sx_aload_n dX10_pass_100 rfl ?_
    refine sx_iload_n dX10_pass_101 rfl ?_
    refine sx_callVi lk_X10_67 cl_10 s_190 (by decide) dX10_pass_102 (vs := [_]) rfl rfl (Nat.le_of_ble_eq_true rfl) (Nat.le_of_ble_eq_true rfl) rfl (c_X10_enter_190 _ hI.1 _) (fun x19 h18 ph18 => ?_)
    have Kh18 := ph18
    have Ih18 := hI.tr Kh18 sb_prT_prT
    have th18_190_0 := Kh18.2 (190) 0 rfl
    refine sx_ireturn dX10_pass_105 ?_
    exact ⟨_, rfl, ⟨Ih18, by omega⟩⟩
  ·
    refine sx_aload_n dX10_pass_116 rfl ?_
    refine sx_callVi lk_X10_77 cl_10 s_190 (by decide) dX10_pass_117 (vs := []) rfl rfl (Nat.le_of_ble_eq_true rfl) (Nat.le_of_ble_eq_true rfl) rfl (c_X10_passNext_190 _ hI.1) (fun x21 h20 ph20 => ?_)
    have Kh20 := ph20
    have Ih20 := hI.tr Kh20 sb_prT_prT
    have th20_190_0 := Kh20.2 (190) 0 rfl
    refine sx_ireturn dX10_pass_120 ?_
    exact ⟨_, rfl, ⟨Ih20, by omega⟩⟩
set_option maxRecDepth 20000 in
set_option maxHeartbeats 4000000 in
theorem c_X10_passCall_190_13 {G : sw_G} (d : Nat) {h0 : sw_H} (hJ : cJ h0) (hc : h0 190 0 = 13) (w : Int) : sw_E G NH SH (d + 1) mX10_passCall 0 [some (sw_r 190), some (sw_i w)] [] h0 (sw_Qi (fun z h' => cK prT h0 h' ∧ (z = 0 → 0 ≤ w ∧ w ≤ 5))) := by
  have hI : cK prT h0 h0 := cK.refl hJ
  have rw : (0 : Int) ≤ h0 13 0 ∧ h0 13 0 ≤ 6 := hI.1.1 13 0
  refine sx_aload_n dX10_passCall_0 rfl ?_
  refine sx_getR (k := 0) (t := 13) cl_10 fl_X10_30 dX10_passCall_1 s_190 (by decide) rfl (by decide) (by omega) ?_
  refine sx_iload_n dX10_passCall_4 rfl ?_
  refine sx_callVz lk_X10_92 cl_0 s_13 (by decide) dX10_passCall_5 (vs := [_]) rfl rfl (Nat.le_of_ble_eq_true rfl) (Nat.le_of_ble_eq_true rfl) rfl (c_X0_hasWord_13 _ hI.1 _) (fun x2 h1 zx2 ph1 => ?_)
  obtain ⟨rfl, w_x2⟩ := ph1
  refine sx_if_ne (tgt := 13) dX10_passCall_8 (by decide) (fun c3 => ?_) (fun c3 => ?_)
  ·
    refine sx_aload_n dX10_passCall_13 rfl ?_
    refine sx_dupr dX10_passCall_14 ?_
    refine sx_getI (k := 6) cl_10 fl_X10_50 dX10_passCall_15 s_190 (by decide) rfl (by decide) ?_
    refine sx_iconst dX10_passCall_18 ⟨by decide, by decide⟩ ?_
    refine sx_aload_n dX10_passCall_19 rfl ?_
    refine sx_getR (k := 0) (t := 13) cl_10 fl_X10_30 dX10_passCall_20 s_190 (by decide) rfl (by decide) (by omega) ?_
    refine sx_getS (k := 14) (t := 23) cl_0 fl_X10_98 dX10_passCall_23 s_13 (by decide) rfl (by decide) ?_
    refine sx_iload_n dX10_passCall_26 rfl ?_
    refine sx_iaload dX10_passCall_27 s_23 (by decide) (by decide) ⟨by omega, by omega⟩ ?_
    refine sx_iadd dX10_passCall_28 ?_
    refine sx_iadd dX10_passCall_29 ?_
    refine sy_putI (k := 6) cl_10 fl_X10_50 dX10_passCall_30 s_190 (by decide) rfl (by decide) rfl rfl (fun h4 eh4 => ?_)
    have Ih4 := hI.up eh4 trivial rfl rfl
    have th4_190_0 := eh4.2 (190) 0 (by decide)
    refine sx_aload_n dX10_passCall_33 rfl ?_
    refine sx_aload_n dX10_passCall_34 rfl ?_
    refine sx_getR (k := 0) (t := 13) cl_10 fl_X10_30 dX10_passCall_35 s_190 (by decide) rfl (by decide) (by omega) ?_
    refine sx_getS (k := 10) (t := 19) cl_0 fl_X10_100 dX10_passCall_38 s_13 (by decide) rfl (by decide) ?_
    refine sx_iload_n dX10_passCall_41 rfl ?_
    refine sy_iaF (F := fun z => (0 : Int) ≤ z ∧ z ≤ 2147483647) dX10_passCall_42 s_19 (by decide) (by decide) ⟨by omega, by omega⟩ (Ih4.1.1 19 _) (fun r5 => ?_)
    refine sx_aload_n dX10_passCall_43 rfl ?_
    refine sx_getR (k := 0) (t := 13) cl_10 fl_X10_30 dX10_passCall_44 s_190 (by decide) rfl (by decide) (by omega) ?_
    refine sx_getS (k := 11) (t := 20) cl_0 fl_X10_102 dX10_passCall_47 s_13 (by decide) rfl (by decide) ?_
    refine sx_iload_n dX10_passCall_50 rfl ?_
    refine sx_iaload dX10_passCall_51 s_20 (by decide) (by decide) ⟨by omega, by omega⟩ ?_
    refine sx_aload_n dX10_passCall_52 rfl ?_
    refine sx_getR (k := 0) (t := 13) cl_10 fl_X10_30 dX10_passCall_53 s_190 (by decide) rfl (by decide) (by omega) ?_
    refine sx_getS (k := 12) (t := 21) cl_0 fl_X10_105 dX10_passCall_56 s_13 (by decide) rfl (by decide) ?_
    refine sx_iload_n dX10_passCall_59 rfl ?_
    refine sx_iaload dX10_passCall_60 s_21 (by decide) (by decide) ⟨by omega, by omega⟩ ?_
    refine sx_callVi lk_X10_60 cl_10 s_190 (by decide) dX10_passCall_61 (vs := [_, _, _]) rfl rfl (Nat.le_of_ble_eq_true rfl) (Nat.le_of_ble_eq_true rfl) rfl (c_X10_change_190 _ Ih4.1 _ _ _) (fun x7 h6 ph6 => ?_)
    have Kh6 := ph6
    have Ih6 := Ih4.tr Kh6 sb_prT_prT
    have th6_190_0 := Kh6.2 (190) 0 rfl
    refine sx_ireturn dX10_passCall_64 ?_
    exact ⟨_, rfl, ⟨Ih6, by omega⟩⟩
  ·
    refine sx_iconst dX10_passCall_11 ⟨by decide, by decide⟩ ?_
    refine sx_ireturn dX10_passCall_12 ?_
    exact ⟨_, rfl, ⟨hI, by omega⟩⟩
set_option maxRecDepth 20000 in
set_option maxHeartbeats 4000000 in
theorem c_X10_pass_190_13 {G : sw_G} (d : Nat) {h0 : sw_H} (hJ : cJ h0) (hc : h0 190 0 = 13) (a b : Int) : sw_E G NH SH (d + 2) mX10_pass 0 [some (sw_r 190), some (sw_i a), some (sw_i b), none] [] h0 (sw_Qi (fun z h' => cK prT h0 h' ∧ (z = 0 → (a = 0 → 0 ≤ b ∧ b ≤ 14) ∧ (a = 2 → 0 ≤ b ∧ b ≤ 5)))) := by
  have hI : cK prT h0 h0 := cK.refl hJ
  refine sx_iload_n dX10_pass_0 rfl ?_
  refine sx_tsw (dt := 121) (ts := [48, 54, 72, 78, 106, 111, 100, 116]) dX10_pass_1 (by decide) (by decide) (by decide) (fun c1 => ?_) (And.intro (fun c1 => ?_) (And.intro (fun c1 => ?_) (And.intro (fun c1 => ?_) (And.intro (fun c1 => ?_) (And.intro (fun c1 => ?_) (And.intro (fun c1 => ?_) (And.intro (fun c1 => ?_) (And.intro (fun c1 => ?_) trivial))))))))
  ·
    refine sx_iconst dX10_pass_121 ⟨by decide, by decide⟩ ?_
    refine sx_ireturn dX10_pass_122 ?_
    exact ⟨_, rfl, ⟨hI, by omega⟩⟩
  ·
    refine sx_aload_n dX10_pass_48 rfl ?_
    refine sx_iload_n dX10_pass_49 rfl ?_
    refine sx_callVi lk_X10_56 cl_10 s_190 (by decide) dX10_pass_50 (vs := [_]) rfl rfl (Nat.le_of_ble_eq_true rfl) (Nat.le_of_ble_eq_true rfl) rfl (c_X10_passThing_190 _ hI.1 _) (fun x3 h2 ph2 => ?_)
    obtain ⟨Kh2, f_h2⟩ := ph2
    have Ih2 := hI.tr Kh2 sb_prT_prT
    have th2_190_0 := Kh2.2 (190) 0 rfl
    refine sx_ireturn dX10_pass_53 ?_
    exact ⟨_, rfl, ⟨Ih2, by omega⟩⟩
  ·
    refine sx_aload_n dX10_pass_54 rfl ?_
    refine sx_dupr dX10_pass_55 ?_
    refine sx_getI (k := 6) cl_10 fl_X10_50 dX10_pass_56 s_190 (by decide) rfl (by decide) ?_
    refine sx_iconst dX10_pass_59 ⟨by decide, by decide⟩ ?_
    refine sx_iadd dX10_pass_60 ?_
    refine sy_putI (k := 6) cl_10 fl_X10_50 dX10_pass_61 s_190 (by decide) rfl (by decide) rfl rfl (fun h4 eh4 => ?_)
    have Ih4 := hI.up eh4 trivial rfl rfl
    have th4_190_0 := eh4.2 (190) 0 (by decide)
    refine sx_aload_n dX10_pass_64 rfl ?_
    refine sx_iconst dX10_pass_65 ⟨by decide, by decide⟩ ?_
    refine sx_iconst dX10_pass_66 ⟨by decide, by decide⟩ ?_
    refine sx_iconst dX10_pass_67 ⟨by decide, by decide⟩ ?_
    refine sx_callVi lk_X10_60 cl_10 s_190 (by decide) dX10_pass_68 (vs := [_, _, _]) rfl rfl (Nat.le_of_ble_eq_true rfl) (Nat.le_of_ble_eq_true rfl) rfl (c_X10_change_190 _ Ih4.1 _ _ _) (fun x6 h5 ph5 => ?_)
    have Kh5 := ph5
    have Ih5 := Ih4.tr Kh5 sb_prT_prT
    have th5_190_0 := Kh5.2 (190) 0 rfl
    refine sx_ireturn dX10_pass_71 ?_
    exact ⟨_, rfl, ⟨Ih5, by omega⟩⟩
  ·
    refine sx_aload_n dX10_pass_72 rfl ?_
    refine sx_iload_n dX10_pass_73 rfl ?_
    refine sx_callVi lk_X10_64 cl_10 s_190 (by decide) dX10_pass_74 (vs := [_]) rfl rfl (Nat.le_of_ble_eq_true rfl) (Nat.le_of_ble_eq_true rfl) rfl (c_X10_passCall_190_13 _ hI.1 (by omega) _) (fun x8 h7 ph7 => ?_)
    obtain ⟨Kh7, f_h7⟩ := ph7
    have Ih7 := hI.tr Kh7 sb_prT_prT
    have th7_190_0 := Kh7.2 (190) 0 rfl
    refine sx_ireturn dX10_pass_77 ?_
    exact ⟨_, rfl, ⟨Ih7, by omega⟩⟩
  ·
    refine sx_aload_n dX10_pass_78 rfl ?_
    refine sx_iconst dX10_pass_79 ⟨by decide, by decide⟩ ?_
    refine sx_iconst dX10_pass_80 ⟨by decide, by decide⟩ ?_
    refine sx_iconst dX10_pass_81 ⟨by decide, by decide⟩ ?_
    refine sx_callVi lk_X10_60 cl_10 s_190 (by decide) dX10_pass_82 (vs := [_, _, _]) rfl rfl (Nat.le_of_ble_eq_true rfl) (Nat.le_of_ble_eq_true rfl) rfl (c_X10_change_190 _ hI.1 _ _ _) (fun x10 h9 ph9 => ?_)
    have Kh9 := ph9
    have Ih9 := hI.tr Kh9 sb_prT_prT
    have th9_190_0 := Kh9.2 (190) 0 rfl
    refine sx_istore_n dX10_pass_85 (by decide) ?_
    refine sx_iload_n dX10_pass_86 rfl ?_
    refine sx_if_eq (tgt := 94) dX10_pass_87 (by decide) (fun c11 => ?_) (fun c11 => ?_)
    ·
      refine sx_aload_n dX10_pass_94 rfl ?_
      refine sx_iconst dX10_pass_95 ⟨by decide, by decide⟩ ?_
      refine sx_callVi lk_X10_67 cl_10 s_190 (by decide) dX10_pass_96 (vs := [_]) rfl rfl (Nat.le_of_ble_eq_true rfl) (Nat.le_of_ble_eq_true rfl) rfl (c_X10_enter_190 _ Ih9.1 _) (fun x13 h12 ph12 => ?_)
      have Kh12 := ph12
      have Ih12 := Ih9.tr Kh12 sb_prT_prT
      have th12_190_0 := Kh12.2 (190) 0 rfl
      refine sx_ireturn dX10_pass_99 ?_
      exact ⟨_, rfl, ⟨Ih12, by omega⟩⟩
    ·
      refine sx_iload_n dX10_pass_90 rfl ?_
      refine sx_goto (tgt := 99) dX10_pass_91 (by decide) ?_
      refine sx_ireturn dX10_pass_99 ?_
      exact ⟨_, rfl, ⟨Ih9, by omega⟩⟩
  ·
    refine sx_aload_n dX10_pass_106 rfl ?_
    refine sx_callVi lk_X10_70 cl_10 s_190 (by decide) dX10_pass_107 (vs := []) rfl rfl (Nat.le_of_ble_eq_true rfl) (Nat.le_of_ble_eq_true rfl) rfl (c_X10_passElse_190 _ hI.1) (fun x15 h14 ph14 => ?_)
    have Kh14 := ph14
    have Ih14 := hI.tr Kh14 sb_prT_prT
    have th14_190_0 := Kh14.2 (190) 0 rfl
    refine sx_ireturn dX10_pass_110 ?_
    exact ⟨_, rfl, ⟨Ih14, by omega⟩⟩
  ·
    refine sx_aload_n dX10_pass_111 rfl ?_
    refine sx_callVi lk_X10_74 cl_10 s_190 (by decide) dX10_pass_112 (vs := []) rfl rfl (Nat.le_of_ble_eq_true rfl) (Nat.le_of_ble_eq_true rfl) rfl (c_X10_passThen_190 _ hI.1) (fun x17 h16 ph16 => ?_)
    have Kh16 := ph16
    have Ih16 := hI.tr Kh16 sb_prT_prT
    have th16_190_0 := Kh16.2 (190) 0 rfl
    refine sx_ireturn dX10_pass_115 ?_
    exact ⟨_, rfl, ⟨Ih16, by omega⟩⟩
  ·
    refine sx_aload_n dX10_pass_100 rfl ?_
    refine sx_iload_n dX10_pass_101 rfl ?_
    refine sx_callVi lk_X10_67 cl_10 s_190 (by decide) dX10_pass_102 (vs := [_]) rfl rfl (Nat.le_of_ble_eq_true rfl) (Nat.le_of_ble_eq_true rfl) rfl (c_X10_enter_190 _ hI.1 _) (fun x19 h18 ph18 => ?_)
    have Kh18 := ph18
    have Ih18 := hI.tr Kh18 sb_prT_prT
    have th18_190_0 := Kh18.2 (190) 0 rfl
    refine sx_ireturn dX10_pass_105 ?_
    exact ⟨_, rfl, ⟨Ih18, by omega⟩⟩
  ·
    refine sx_aload_n dX10_pass_116 rfl ?_
    refine sx_callVi lk_X10_77 cl_10 s_190 (by decide) dX10_pass_117 (vs := []) rfl rfl (Nat.le_of_ble_eq_true rfl) (Nat.le_of_ble_eq_true rfl) rfl (c_X10_passNext_190 _ hI.1) (fun x21 h20 ph20 => ?_)
    have Kh20 := ph20
    have Ih20 := hI.tr Kh20 sb_prT_prT
    have th20_190_0 := Kh20.2 (190) 0 rfl
    refine sx_ireturn dX10_pass_120 ?_
    exact ⟨_, rfl, ⟨Ih20, by omega⟩⟩

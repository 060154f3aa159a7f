set_option maxRecDepth 20000 in
set_option maxHeartbeats 4000000 in
theorem c_X2_truth {G : sw_G} (d : Nat) {h0 : sw_H} (hJ : cJ h0) (b : Int) : sw_E G NH SH (d) mX2_truth 0 [some (sw_i b)] [] h0 (sw_Qi (fun z h' => h0 = h')) := by
  have hI : cK pr0 h0 h0 := cK.refl hJ
  refine sx_iload_n dX2_truth_0 rfl ?_
  refine sx_if_eq (tgt := 8) dX2_truth_1 (by decide) (fun c1 => ?_) (fun c1 => ?_)
  ·
    refine sx_iconst dX2_truth_8 ⟨by decide, by decide⟩ ?_
    refine sx_ireturn dX2_truth_9 ?_
    exact ⟨_, rfl, rfl⟩
  ·
    refine sx_iconst dX2_truth_4 ⟨by decide, by decide⟩ ?_
    refine sx_goto (tgt := 9) dX2_truth_5 (by decide) ?_
    refine sx_ireturn dX2_truth_9 ?_
    exact ⟨_, rfl, rfl⟩
set_option maxRecDepth 20000 in
set_option maxHeartbeats 4000000 in
theorem c_X2_join {G : sw_G} (d : Nat) {h0 : sw_H} (hJ : cJ h0) (p a b : Int) : sw_E G NH SH (d + 1) mX2_join 0 [some (sw_i p), some (sw_i a), some (sw_i b)] [] h0 (sw_Qi (fun z h' => h0 = h')) := by
  have hI : cK pr0 h0 h0 := cK.refl hJ
  refine sx_iload_n dX2_join_0 rfl ?_
  refine sx_tsw (dt := 172) (ts := [160, 148, 144, 140, 136, 122, 108, 94, 172, 77, 60]) dX2_join_1 (by decide) (by decide) (by decide) (fun c1 => ?_) (And.intro (fun c1 => ?_) (And.intro (fun c1 => ?_) (And.intro (fun c1 => ?_) (And.intro (fun c1 => ?_) (And.intro (fun c1 => ?_) (And.intro (fun c1 => ?_) (And.intro (fun c1 => ?_) (And.intro (fun c1 => ?_) (And.intro (fun c1 => ?_) (And.intro (fun c1 => ?_) (And.intro (fun c1 => ?_) trivial)))))))))))
  ·
    refine sx_iconst dX2_join_172 ⟨by decide, by decide⟩ ?_
    refine sx_ireturn dX2_join_173 ?_
    exact ⟨_, rfl, rfl⟩
  ·
    refine sx_iload_n dX2_join_160 rfl ?_
    refine sx_if_ne (tgt := 168) dX2_join_161 (by decide) (fun c2 => ?_) (fun c2 => ?_)
    ·
      refine sx_iload_n dX2_join_168 rfl ?_
      refine sx_iload_n dX2_join_169 rfl ?_
      refine sx_irem dX2_join_170 (by omega) ?_
      refine sx_ireturn dX2_join_171 ?_
      exact ⟨_, rfl, rfl⟩
    ·
      refine sx_iconst dX2_join_164 ⟨by decide, by decide⟩ ?_
      refine sx_goto (tgt := 171) dX2_join_165 (by decide) ?_
      refine sx_ireturn dX2_join_171 ?_
      exact ⟨_, rfl, rfl⟩
  ·
    refine sx_iload_n dX2_join_148 rfl ?_
    refine sx_if_ne (tgt := 156) dX2_join_149 (by decide) (fun c3 => ?_) (fun c3 => ?_)
    ·
      refine sx_iload_n dX2_join_156 rfl ?_
      refine sx_iload_n dX2_join_157 rfl ?_
      refine sx_idiv dX2_join_158 (by omega) ?_
      refine sx_ireturn dX2_join_159 ?_
      exact ⟨_, rfl, rfl⟩
    ·
      refine sx_iconst dX2_join_152 ⟨by decide, by decide⟩ ?_
      refine sx_goto (tgt := 159) dX2_join_153 (by decide) ?_
      refine sx_ireturn dX2_join_159 ?_
      exact ⟨_, rfl, rfl⟩
  ·
    refine sx_iload_n dX2_join_144 rfl ?_
    refine sx_iload_n dX2_join_145 rfl ?_
    refine sx_imul dX2_join_146 ?_
    refine sx_ireturn dX2_join_147 ?_
    exact ⟨_, rfl, rfl⟩
  ·
    refine sx_iload_n dX2_join_140 rfl ?_
    refine sx_iload_n dX2_join_141 rfl ?_
    refine sx_isub dX2_join_142 ?_
    refine sx_ireturn dX2_join_143 ?_
    exact ⟨_, rfl, rfl⟩
  ·
    refine sx_iload_n dX2_join_136 rfl ?_
    refine sx_iload_n dX2_join_137 rfl ?_
    refine sx_iadd dX2_join_138 ?_
    refine sx_ireturn dX2_join_139 ?_
    exact ⟨_, rfl, rfl⟩
  ·
    refine sx_iload_n dX2_join_122 rfl ?_
    refine sx_iload_n dX2_join_123 rfl ?_
    refine sx_icmp_ne (tgt := 131) dX2_join_124 (by decide) (fun c4 => ?_) (fun c4 => ?_)
    ·
      refine sx_iconst dX2_join_131 ⟨by decide, by decide⟩ ?_
      refine sx_callSi lk_X2_88 dX2_join_132 (vs := [_]) rfl rfl (Nat.le_of_ble_eq_true rfl) (Nat.le_of_ble_eq_true rfl) rfl (c_X2_truth _ hI.1 _) (fun x6 h5 ph5 => ?_)
      subst ph5
      refine sx_ireturn dX2_join_135 ?_
      exact ⟨_, rfl, rfl⟩
    ·
      refine sx_iconst dX2_join_127 ⟨by decide, by decide⟩ ?_
      refine sx_goto (tgt := 132) dX2_join_128 (by decide) ?_
      refine sx_callSi lk_X2_88 dX2_join_132 (vs := [_]) rfl rfl (Nat.le_of_ble_eq_true rfl) (Nat.le_of_ble_eq_true rfl) rfl (c_X2_truth _ hI.1 _) (fun x8 h7 ph7 => ?_)
      subst ph7
      refine sx_ireturn dX2_join_135 ?_
      exact ⟨_, rfl, rfl⟩
  ·
    refine sx_iload_n dX2_join_108 rfl ?_
    refine sx_iload_n dX2_join_109 rfl ?_
    refine sx_icmp_le (tgt := 117) dX2_join_110 (by decide) (fun c9 => ?_) (fun c9 => ?_)
    ·
      refine sx_iconst dX2_join_117 ⟨by decide, by decide⟩ ?_
      refine sx_callSi lk_X2_88 dX2_join_118 (vs := [_]) rfl rfl (Nat.le_of_ble_eq_true rfl) (Nat.le_of_ble_eq_true rfl) rfl (c_X2_truth _ hI.1 _) (fun x11 h10 ph10 => ?_)
      subst ph10
      refine sx_ireturn dX2_join_121 ?_
      exact ⟨_, rfl, rfl⟩
    ·
      refine sx_iconst dX2_join_113 ⟨by decide, by decide⟩ ?_
      refine sx_goto (tgt := 118) dX2_join_114 (by decide) ?_
      refine sx_callSi lk_X2_88 dX2_join_118 (vs := [_]) rfl rfl (Nat.le_of_ble_eq_true rfl) (Nat.le_of_ble_eq_true rfl) rfl (c_X2_truth _ hI.1 _) (fun x13 h12 ph12 => ?_)
      subst ph12
      refine sx_ireturn dX2_join_121 ?_
      exact ⟨_, rfl, rfl⟩
  ·
    refine sx_iload_n dX2_join_94 rfl ?_
    refine sx_iload_n dX2_join_95 rfl ?_
    refine sx_icmp_ge (tgt := 103) dX2_join_96 (by decide) (fun c14 => ?_) (fun c14 => ?_)
    ·
      refine sx_iconst dX2_join_103 ⟨by decide, by decide⟩ ?_
      refine sx_callSi lk_X2_88 dX2_join_104 (vs := [_]) rfl rfl (Nat.le_of_ble_eq_true rfl) (Nat.le_of_ble_eq_true rfl) rfl (c_X2_truth _ hI.1 _) (fun x16 h15 ph15 => ?_)
      subst ph15
      refine sx_ireturn dX2_join_107 ?_
      exact ⟨_, rfl, rfl⟩
    ·
      refine sx_iconst dX2_join_99 ⟨by decide, by decide⟩ ?_
      refine sx_goto (tgt := 104) dX2_join_100 (by decide) ?_
      refine sx_callSi lk_X2_88 dX2_join_104 (vs := [_]) rfl rfl (Nat.le_of_ble_eq_true rfl) (Nat.le_of_ble_eq_true rfl) rfl (c_X2_truth _ hI.1 _) (fun x18 h17 ph17 => ?_)
      subst ph17
      refine sx_ireturn dX2_join_107 ?_
      exact ⟨_, rfl, rfl⟩
  ·
    refine sx_iconst dX2_join_172 ⟨by decide, by decide⟩ ?_
    refine sx_ireturn dX2_join_173 ?_
    exact ⟨_, rfl, rfl⟩
  ·
    refine sx_iload_n dX2_join_77 rfl ?_
    refine sx_if_eq (tgt := 89) dX2_join_78 (by decide) (fun c19 => ?_) (fun c19 => ?_)
    ·
      refine sx_iconst dX2_join_89 ⟨by decide, by decide⟩ ?_
      refine sx_callSi lk_X2_88 dX2_join_90 (vs := [_]) rfl rfl (Nat.le_of_ble_eq_true rfl) (Nat.le_of_ble_eq_true rfl) rfl (c_X2_truth _ hI.1 _) (fun x21 h20 ph20 => ?_)
      subst ph20
      refine sx_ireturn dX2_join_93 ?_
      exact ⟨_, rfl, rfl⟩
    ·
      refine sx_iload_n dX2_join_81 rfl ?_
      refine sx_if_eq (tgt := 89) dX2_join_82 (by decide) (fun c22 => ?_) (fun c22 => ?_)
      ·
        refine sx_iconst dX2_join_89 ⟨by decide, by decide⟩ ?_
        refine sx_callSi lk_X2_88 dX2_join_90 (vs := [_]) rfl rfl (Nat.le_of_ble_eq_true rfl) (Nat.le_of_ble_eq_true rfl) rfl (c_X2_truth _ hI.1 _) (fun x24 h23 ph23 => ?_)
        subst ph23
        refine sx_ireturn dX2_join_93 ?_
        exact ⟨_, rfl, rfl⟩
      ·
        refine sx_iconst dX2_join_85 ⟨by decide, by decide⟩ ?_
        refine sx_goto (tgt := 90) dX2_join_86 (by decide) ?_
        refine sx_callSi lk_X2_88 dX2_join_90 (vs := [_]) rfl rfl (Nat.le_of_ble_eq_true rfl) (Nat.le_of_ble_eq_true rfl) rfl (c_X2_truth _ hI.1 _) (fun x26 h25 ph25 => ?_)
        subst ph25
        refine sx_ireturn dX2_join_93 ?_
        exact ⟨_, rfl, rfl⟩
  ·
    refine sx_iload_n dX2_join_60 rfl ?_
    refine sx_if_ne (tgt := 68) dX2_join_61 (by decide) (fun c27 => ?_) (fun c27 => ?_)
    ·
      refine sx_iconst dX2_join_68 ⟨by decide, by decide⟩ ?_
      refine sx_goto (tgt := 73) dX2_join_69 (by decide) ?_
      refine sx_callSi lk_X2_88 dX2_join_73 (vs := [_]) rfl rfl (Nat.le_of_ble_eq_true rfl) (Nat.le_of_ble_eq_true rfl) rfl (c_X2_truth _ hI.1 _) (fun x29 h28 ph28 => ?_)
      subst ph28
      refine sx_ireturn dX2_join_76 ?_
      exact ⟨_, rfl, rfl⟩
    ·
      refine sx_iload_n dX2_join_64 rfl ?_
      refine sx_if_eq (tgt := 72) dX2_join_65 (by decide) (fun c30 => ?_) (fun c30 => ?_)
      ·
        refine sx_iconst dX2_join_72 ⟨by decide, by decide⟩ ?_
        refine sx_callSi lk_X2_88 dX2_join_73 (vs := [_]) rfl rfl (Nat.le_of_ble_eq_true rfl) (Nat.le_of_ble_eq_true rfl) rfl (c_X2_truth _ hI.1 _) (fun x32 h31 ph31 => ?_)
        subst ph31
        refine sx_ireturn dX2_join_76 ?_
        exact ⟨_, rfl, rfl⟩
      ·
        refine sx_iconst dX2_join_68 ⟨by decide, by decide⟩ ?_
        refine sx_goto (tgt := 73) dX2_join_69 (by decide) ?_
        refine sx_callSi lk_X2_88 dX2_join_73 (vs := [_]) rfl rfl (Nat.le_of_ble_eq_true rfl) (Nat.le_of_ble_eq_true rfl) rfl (c_X2_truth _ hI.1 _) (fun x34 h33 ph33 => ?_)
        subst ph33
        refine sx_ireturn dX2_join_76 ?_
        exact ⟨_, rfl, rfl⟩
set_option maxRecDepth 20000 in
set_option maxHeartbeats 4000000 in
theorem c_X2_append {G : sw_G} (d : Nat) {h0 : sw_H} (hJ : cJ h0) (n : Int) : sw_E G NH SH (d) mX2_append 0 [some (sw_r 43), some (sw_i n)] [] h0 (sw_Qv (fun h' => cK prF h0 h')) := by
  have hI : cK prF h0 h0 := cK.refl hJ
  refine sx_aload_n dX2_append_0 rfl ?_
  refine sx_getI (k := 3) cl_2 fl_X2_22 dX2_append_1 s_43 (by decide) rfl (by decide) ?_
  have r1 : (0 : Int) ≤ h0 43 3 ∧ h0 43 3 ≤ 270 := hI.1.1 43 3
  refine sx_aload_n dX2_append_4 rfl ?_
  refine sx_getS (k := 1) (t := 44) cl_2 fl_X2_9 dX2_append_5 s_43 (by decide) rfl (by decide) ?_
  refine sx_alen (t := 0) dX2_append_8 s_44 (by decide) (by decide) (by decide) ?_
  refine sx_icmp_ge (tgt := 32) dX2_append_9 (by decide) (fun c2 => ?_) (fun c2 => ?_)
  ·
    refine sx_ret dX2_append_32 ?_
    exact ⟨rfl, hI⟩
  ·
    refine sx_aload_n dX2_append_12 rfl ?_
    refine sx_getS (k := 1) (t := 44) cl_2 fl_X2_9 dX2_append_13 s_43 (by decide) rfl (by decide) ?_
    refine sx_aload_n dX2_append_16 rfl ?_
    refine sx_getI (k := 3) cl_2 fl_X2_22 dX2_append_17 s_43 (by decide) rfl (by decide) ?_
    have r3 : (0 : Int) ≤ h0 43 3 ∧ h0 43 3 ≤ 270 := hI.1.1 43 3
    refine sx_iload_n dX2_append_20 rfl ?_
    refine sy_iastore dX2_append_21 s_44 (by decide) (by decide) ⟨by omega, by omega⟩ (fun h4 eh4 => ?_)
    have Ih4 := hI.up eh4 trivial rfl rfl
    have th4_43_3 := eh4.2 (43) 3 (by omega)
    refine sx_aload_n dX2_append_22 rfl ?_
    refine sx_dupr dX2_append_23 ?_
    refine sx_getI (k := 3) cl_2 fl_X2_22 dX2_append_24 s_43 (by decide) rfl (by decide) ?_
    have r5 : (0 : Int) ≤ h4 43 3 ∧ h4 43 3 ≤ 270 := Ih4.1.1 43 3
    refine sx_iconst dX2_append_27 ⟨by decide, by decide⟩ ?_
    refine sx_iadd dX2_append_28 ?_
    refine sy_topw (by omega) ?_
    refine sy_putI (k := 3) cl_2 fl_X2_22 dX2_append_29 s_43 (by decide) rfl (by decide) rfl rfl (fun h6 eh6 => ?_)
    have Ih6 := Ih4.up eh6 (show (0 : Int) ≤ _ ∧ _ ≤ (270 : Int) from ⟨by omega, by omega⟩) rfl rfl
    have th6_43_3 := eh6.1
    refine sx_ret dX2_append_32 ?_
    exact ⟨rfl, Ih6⟩
set_option maxRecDepth 20000 in
set_option maxHeartbeats 4000000 in
theorem c_X2_operatorOf {G : sw_G} (d : Nat) {h0 : sw_H} (hJ : cJ h0) (hs : h0 43 0 = 34) (l : Int) : sw_E G NH SH (d + 1) mX2_operatorOf 0 [some (sw_r 43), some (sw_i l)] [] h0 (sw_Qi (fun z h' => h0 = h')) := by
  have hI : cK pr0 h0 h0 := cK.refl hJ
  refine sx_iload_n dX2_operatorOf_0 rfl ?_
  refine sx_tsw (dt := 216) (ts := [36, 55, 74, 127, 163]) dX2_operatorOf_1 (by decide) (by decide) (by decide) (fun c1 => ?_) (And.intro (fun c1 => ?_) (And.intro (fun c1 => ?_) (And.intro (fun c1 => ?_) (And.intro (fun c1 => ?_) (And.intro (fun c1 => ?_) trivial)))))
  ·
    refine sx_iconst dX2_operatorOf_216 ⟨by decide, by decide⟩ ?_
    refine sx_ireturn dX2_operatorOf_217 ?_
    exact ⟨_, rfl, rfl⟩
  ·
    refine sx_aload_n dX2_operatorOf_36 rfl ?_
    refine sx_getR (k := 0) (t := 34) cl_2 fl_X2_18 dX2_operatorOf_37 s_43 (by decide) rfl (by decide) (by omega) ?_
    refine sx_bipush dX2_operatorOf_40 ⟨by decide, by decide, by decide⟩ ?_
    refine sx_callVz lk_X2_33 cl_5 s_34 (by decide) dX2_operatorOf_42 (vs := [_]) rfl rfl (Nat.le_of_ble_eq_true rfl) (Nat.le_of_ble_eq_true rfl) rfl (c_X5_isKey _ hI.1 _) (fun x3 h2 zx3 ph2 => ?_)
    subst ph2
    refine sx_if_eq (tgt := 53) dX2_operatorOf_45 (by decide) (fun c4 => ?_) (fun c4 => ?_)
    ·
      refine sx_iconst dX2_operatorOf_53 ⟨by decide, by decide⟩ ?_
      refine sx_ireturn dX2_operatorOf_54 ?_
      exact ⟨_, rfl, rfl⟩
    ·
      refine sx_bipush dX2_operatorOf_48 ⟨by decide, by decide, by decide⟩ ?_
      refine sx_goto (tgt := 54) dX2_operatorOf_50 (by decide) ?_
      refine sx_ireturn dX2_operatorOf_54 ?_
      exact ⟨_, rfl, rfl⟩
  ·
    refine sx_aload_n dX2_operatorOf_55 rfl ?_
    refine sx_getR (k := 0) (t := 34) cl_2 fl_X2_18 dX2_operatorOf_56 s_43 (by decide) rfl (by decide) (by omega) ?_
    refine sx_bipush dX2_operatorOf_59 ⟨by decide, by decide, by decide⟩ ?_
    refine sx_callVz lk_X2_33 cl_5 s_34 (by decide) dX2_operatorOf_61 (vs := [_]) rfl rfl (Nat.le_of_ble_eq_true rfl) (Nat.le_of_ble_eq_true rfl) rfl (c_X5_isKey _ hI.1 _) (fun x6 h5 zx6 ph5 => ?_)
    subst ph5
    refine sx_if_eq (tgt := 72) dX2_operatorOf_64 (by decide) (fun c7 => ?_) (fun c7 => ?_)
    ·
      refine sx_iconst dX2_operatorOf_72 ⟨by decide, by decide⟩ ?_
      refine sx_ireturn dX2_operatorOf_73 ?_
      exact ⟨_, rfl, rfl⟩
    ·
      refine sx_bipush dX2_operatorOf_67 ⟨by decide, by decide, by decide⟩ ?_
      refine sx_goto (tgt := 73) dX2_operatorOf_69 (by decide) ?_
      refine sx_ireturn dX2_operatorOf_73 ?_
      exact ⟨_, rfl, rfl⟩
  ·
    refine sx_aload_n dX2_operatorOf_74 rfl ?_
    refine sx_getR (k := 0) (t := 34) cl_2 fl_X2_18 dX2_operatorOf_75 s_43 (by decide) rfl (by decide) (by omega) ?_
    refine sx_bipush dX2_operatorOf_78 ⟨by decide, by decide, by decide⟩ ?_
    refine sx_callVz lk_X2_62 cl_5 s_34 (by decide) dX2_operatorOf_80 (vs := [_]) rfl rfl (Nat.le_of_ble_eq_true rfl) (Nat.le_of_ble_eq_true rfl) rfl (c_X5_isSign _ hI.1 _) (fun x9 h8 zx9 ph8 => ?_)
    subst ph8
    refine sx_if_eq (tgt := 91) dX2_operatorOf_83 (by decide) (fun c10 => ?_) (fun c10 => ?_)
    ·
      refine sx_aload_n dX2_operatorOf_91 rfl ?_
      refine sx_getR (k := 0) (t := 34) cl_2 fl_X2_18 dX2_operatorOf_92 s_43 (by decide) rfl (by decide) (by omega) ?_
      refine sx_bipush dX2_operatorOf_95 ⟨by decide, by decide, by decide⟩ ?_
      refine sx_callVz lk_X2_62 cl_5 s_34 (by decide) dX2_operatorOf_97 (vs := [_]) rfl rfl (Nat.le_of_ble_eq_true rfl) (Nat.le_of_ble_eq_true rfl) rfl (c_X5_isSign _ hI.1 _) (fun x12 h11 zx12 ph11 => ?_)
      subst ph11
      refine sx_if_eq (tgt := 108) dX2_operatorOf_100 (by decide) (fun c13 => ?_) (fun c13 => ?_)
      ·
        refine sx_aload_n dX2_operatorOf_108 rfl ?_
        refine sx_getR (k := 0) (t := 34) cl_2 fl_X2_18 dX2_operatorOf_109 s_43 (by decide) rfl (by decide) (by omega) ?_
        refine sx_bipush dX2_operatorOf_112 ⟨by decide, by decide, by decide⟩ ?_
        refine sx_callVz lk_X2_62 cl_5 s_34 (by decide) dX2_operatorOf_114 (vs := [_]) rfl rfl (Nat.le_of_ble_eq_true rfl) (Nat.le_of_ble_eq_true rfl) rfl (c_X5_isSign _ hI.1 _) (fun x15 h14 zx15 ph14 => ?_)
        subst ph14
        refine sx_if_eq (tgt := 125) dX2_operatorOf_117 (by decide) (fun c16 => ?_) (fun c16 => ?_)
        ·
          refine sx_iconst dX2_operatorOf_125 ⟨by decide, by decide⟩ ?_
          refine sx_ireturn dX2_operatorOf_126 ?_
          exact ⟨_, rfl, rfl⟩
        ·
          refine sx_bipush dX2_operatorOf_120 ⟨by decide, by decide, by decide⟩ ?_
          refine sx_goto (tgt := 126) dX2_operatorOf_122 (by decide) ?_
          refine sx_ireturn dX2_operatorOf_126 ?_
          exact ⟨_, rfl, rfl⟩
      ·
        refine sx_bipush dX2_operatorOf_103 ⟨by decide, by decide, by decide⟩ ?_
        refine sx_goto (tgt := 126) dX2_operatorOf_105 (by decide) ?_
        refine sx_ireturn dX2_operatorOf_126 ?_
        exact ⟨_, rfl, rfl⟩
    ·
      refine sx_bipush dX2_operatorOf_86 ⟨by decide, by decide, by decide⟩ ?_
      refine sx_goto (tgt := 126) dX2_operatorOf_88 (by decide) ?_
      refine sx_ireturn dX2_operatorOf_126 ?_
      exact ⟨_, rfl, rfl⟩
  ·
    refine sx_aload_n dX2_operatorOf_127 rfl ?_
    refine sx_getR (k := 0) (t := 34) cl_2 fl_X2_18 dX2_operatorOf_128 s_43 (by decide) rfl (by decide) (by omega) ?_
    refine sx_bipush dX2_operatorOf_131 ⟨by decide, by decide, by decide⟩ ?_
    refine sx_callVz lk_X2_62 cl_5 s_34 (by decide) dX2_operatorOf_133 (vs := [_]) rfl rfl (Nat.le_of_ble_eq_true rfl) (Nat.le_of_ble_eq_true rfl) rfl (c_X5_isSign _ hI.1 _) (fun x18 h17 zx18 ph17 => ?_)
    subst ph17
    refine sx_if_eq (tgt := 144) dX2_operatorOf_136 (by decide) (fun c19 => ?_) (fun c19 => ?_)
    ·
      refine sx_aload_n dX2_operatorOf_144 rfl ?_
      refine sx_getR (k := 0) (t := 34) cl_2 fl_X2_18 dX2_operatorOf_145 s_43 (by decide) rfl (by decide) (by omega) ?_
      refine sx_bipush dX2_operatorOf_148 ⟨by decide, by decide, by decide⟩ ?_
      refine sx_callVz lk_X2_62 cl_5 s_34 (by decide) dX2_operatorOf_150 (vs := [_]) rfl rfl (Nat.le_of_ble_eq_true rfl) (Nat.le_of_ble_eq_true rfl) rfl (c_X5_isSign _ hI.1 _) (fun x21 h20 zx21 ph20 => ?_)
      subst ph20
      refine sx_if_eq (tgt := 161) dX2_operatorOf_153 (by decide) (fun c22 => ?_) (fun c22 => ?_)
      ·
        refine sx_iconst dX2_operatorOf_161 ⟨by decide, by decide⟩ ?_
        refine sx_ireturn dX2_operatorOf_162 ?_
        exact ⟨_, rfl, rfl⟩
      ·
        refine sx_bipush dX2_operatorOf_156 ⟨by decide, by decide, by decide⟩ ?_
        refine sx_goto (tgt := 162) dX2_operatorOf_158 (by decide) ?_
        refine sx_ireturn dX2_operatorOf_162 ?_
        exact ⟨_, rfl, rfl⟩
    ·
      refine sx_bipush dX2_operatorOf_139 ⟨by decide, by decide, by decide⟩ ?_
      refine sx_goto (tgt := 162) dX2_operatorOf_141 (by decide) ?_
      refine sx_ireturn dX2_operatorOf_162 ?_
      exact ⟨_, rfl, rfl⟩
  ·
    refine sx_aload_n dX2_operatorOf_163 rfl ?_
    refine sx_getR (k := 0) (t := 34) cl_2 fl_X2_18 dX2_operatorOf_164 s_43 (by decide) rfl (by decide) (by omega) ?_
    refine sx_bipush dX2_operatorOf_167 ⟨by decide, by decide, by decide⟩ ?_
    refine sx_callVz lk_X2_62 cl_5 s_34 (by decide) dX2_operatorOf_169 (vs := [_]) rfl rfl (Nat.le_of_ble_eq_true rfl) (Nat.le_of_ble_eq_true rfl) rfl (c_X5_isSign _ hI.1 _) (fun x24 h23 zx24 ph23 => ?_)
    subst ph23
    refine sx_if_eq (tgt := 180) dX2_operatorOf_172 (by decide) (fun c25 => ?_) (fun c25 => ?_)
    ·
      refine sx_aload_n dX2_operatorOf_180 rfl ?_
      refine sx_getR (k := 0) (t := 34) cl_2 fl_X2_18 dX2_operatorOf_181 s_43 (by decide) rfl (by decide) (by omega) ?_
      refine sx_bipush dX2_operatorOf_184 ⟨by decide, by decide, by decide⟩ ?_
      refine sx_callVz lk_X2_62 cl_5 s_34 (by decide) dX2_operatorOf_186 (vs := [_]) rfl rfl (Nat.le_of_ble_eq_true rfl) (Nat.le_of_ble_eq_true rfl) rfl (c_X5_isSign _ hI.1 _) (fun x27 h26 zx27 ph26 => ?_)
      subst ph26
      refine sx_if_eq (tgt := 197) dX2_operatorOf_189 (by decide) (fun c28 => ?_) (fun c28 => ?_)
      ·
        refine sx_aload_n dX2_operatorOf_197 rfl ?_
        refine sx_getR (k := 0) (t := 34) cl_2 fl_X2_18 dX2_operatorOf_198 s_43 (by decide) rfl (by decide) (by omega) ?_
        refine sx_bipush dX2_operatorOf_201 ⟨by decide, by decide, by decide⟩ ?_
        refine sx_callVz lk_X2_62 cl_5 s_34 (by decide) dX2_operatorOf_203 (vs := [_]) rfl rfl (Nat.le_of_ble_eq_true rfl) (Nat.le_of_ble_eq_true rfl) rfl (c_X5_isSign _ hI.1 _) (fun x30 h29 zx30 ph29 => ?_)
        subst ph29
        refine sx_if_eq (tgt := 214) dX2_operatorOf_206 (by decide) (fun c31 => ?_) (fun c31 => ?_)
        ·
          refine sx_iconst dX2_operatorOf_214 ⟨by decide, by decide⟩ ?_
          refine sx_ireturn dX2_operatorOf_215 ?_
          exact ⟨_, rfl, rfl⟩
        ·
          refine sx_bipush dX2_operatorOf_209 ⟨by decide, by decide, by decide⟩ ?_
          refine sx_goto (tgt := 215) dX2_operatorOf_211 (by decide) ?_
          refine sx_ireturn dX2_operatorOf_215 ?_
          exact ⟨_, rfl, rfl⟩
      ·
        refine sx_bipush dX2_operatorOf_192 ⟨by decide, by decide, by decide⟩ ?_
        refine sx_goto (tgt := 215) dX2_operatorOf_194 (by decide) ?_
        refine sx_ireturn dX2_operatorOf_215 ?_
        exact ⟨_, rfl, rfl⟩
    ·
      refine sx_bipush dX2_operatorOf_175 ⟨by decide, by decide, by decide⟩ ?_
      refine sx_goto (tgt := 215) dX2_operatorOf_177 (by decide) ?_
      refine sx_ireturn dX2_operatorOf_215 ?_
      exact ⟨_, rfl, rfl⟩


set_option maxRecDepth 20000 in
set_option maxHeartbeats 4000000 in
theorem c_X2_begin {G : sw_G} (d : Nat) {h0 : sw_H} (hJ : cJ h0)  : sw_E G NH SH (d) mX2_begin 0 [some (sw_r 43), some (sw_r 34)] [] h0 (sw_Qv (fun h' => cK pr2 h0 h' ∧ h' 43 0 = 34)) := by
  have hI : cK pr2 h0 h0 := cK.refl hJ
  refine sx_aload_n dX2_begin_0 rfl ?_
  refine sx_aload_n dX2_begin_1 rfl ?_
  refine sy_putR (k := 0) cl_2 fl_X2_18 dX2_begin_2 s_43 (by decide) rfl (by decide) rfl rfl (by decide) (fun h1 eh1 => ?_)
  have Ih1 := hI.up eh1 trivial rfl rfl
  have th1_43_0 := eh1.1
  refine sx_aload_n dX2_begin_5 rfl ?_
  refine sx_iconst dX2_begin_6 ⟨by decide, by decide⟩ ?_
  refine sy_putI (k := 3) cl_2 fl_X2_22 dX2_begin_7 s_43 (by decide) rfl (by decide) rfl rfl (fun h2 eh2 => ?_)
  have Ih2 := Ih1.up eh2 (show (0 : Int) ≤ _ ∧ _ ≤ (270 : Int) from ⟨by omega, by omega⟩) rfl rfl
  have th2_43_0 := eh2.2 (43) 0 (by decide)
  refine sx_aload_n dX2_begin_10 rfl ?_
  refine sx_iconst dX2_begin_11 ⟨by decide, by decide⟩ ?_
  refine sy_putI (k := 4) cl_2 fl_X2_26 dX2_begin_12 s_43 (by decide) rfl (by decide) rfl rfl (fun h3 eh3 => ?_)
  have Ih3 := Ih2.up eh3 (show (0 : Int) ≤ _ ∧ _ ≤ (30 : Int) from ⟨by omega, by omega⟩) rfl rfl
  have th3_43_0 := eh3.2 (43) 0 (by decide)
  refine sx_ret dX2_begin_15 ?_
  exact ⟨rfl, ⟨Ih3, by omega⟩⟩
set_option maxRecDepth 20000 in
set_option maxHeartbeats 4000000 in
theorem c_X2_valueFor {G : sw_G} (d : Nat) {h0 : sw_H} (hJ : cJ h0) (p q : Int) : sw_E G NH SH (d + 2) mX2_valueFor 0 [some (sw_r 43), some (sw_i p), some (sw_i q), none, none, none] [] h0 (sw_Qi (fun z h' => cK prF h0 h')) := by
  have hI : cK prF h0 h0 := cK.refl hJ
  refine sx_iconst dX2_valueFor_0 ⟨by decide, by decide⟩ ?_
  refine sx_istore_n dX2_valueFor_1 (by decide) ?_
  refine sx_iconst dX2_valueFor_2 ⟨by decide, by decide⟩ ?_
  refine sx_istore dX2_valueFor_3 (by decide) ?_
  refine sx_loop2 (fun (h : sw_H) (n : Int) (i : Int) => (cK prF h0 h) ∧ (0 ≤ n) ∧ (n ≤ 31) ∧ (0 ≤ i)) (fun (h : sw_H) (n : Int) (i : Int) => (270 - i).toNat) (fun (h : sw_H) (n : Int) (i : Int) => sw_E G NH SH (d + 2) mX2_valueFor 5 [some (sw_r 43), some (sw_i p), some (sw_i q), some (sw_i n), some (sw_i i), none] [] h (sw_Qi (fun z h' => cK prF h0 h'))) ?_ _ _ _ ?_
  · rintro h1 n_2 i_3 ⟨Ih1, j4, j5, j6⟩ ihh1
    try dsimp only at ihh1
    refine sx_iload dX2_valueFor_5 rfl ?_
    refine sx_aload_n dX2_valueFor_7 rfl ?_
    refine sx_getI (k := 3) cl_2 fl_X2_22 dX2_valueFor_8 s_43 (by decide) rfl (by decide) ?_
    have r7 : (0 : Int) ≤ h1 43 3 ∧ h1 43 3 ≤ 270 := Ih1.1.1 43 3
    refine sx_icmp_ge (tgt := 159) dX2_valueFor_11 (by decide) (fun c8 => ?_) (fun c8 => ?_)
    ·
      refine sx_iload_n dX2_valueFor_159 rfl ?_
      refine sx_iconst dX2_valueFor_160 ⟨by decide, by decide⟩ ?_
      refine sx_icmp_lt (tgt := 175) dX2_valueFor_161 (by decide) (fun c9 => ?_) (fun c9 => ?_)
      ·
        refine sx_iconst dX2_valueFor_175 ⟨by decide, by decide⟩ ?_
        refine sx_ireturn dX2_valueFor_176 ?_
        exact ⟨_, rfl, Ih1⟩
      ·
        refine sx_aload_n dX2_valueFor_164 rfl ?_
        refine sx_getS (k := 2) (t := 45) cl_2 fl_X2_15 dX2_valueFor_165 s_43 (by decide) rfl (by decide) ?_
        refine sx_iload_n dX2_valueFor_168 rfl ?_
        refine sx_iconst dX2_valueFor_169 ⟨by decide, by decide⟩ ?_
        refine sx_isub dX2_valueFor_170 ?_
        refine sy_topw (by omega) ?_
        refine sx_iaload dX2_valueFor_171 s_45 (by decide) (by decide) ⟨by omega, by omega⟩ ?_
        refine sx_goto (tgt := 176) dX2_valueFor_172 (by decide) ?_
        refine sx_ireturn dX2_valueFor_176 ?_
        exact ⟨_, rfl, Ih1⟩
    ·
      refine sx_aload_n dX2_valueFor_14 rfl ?_
      refine sx_getS (k := 1) (t := 44) cl_2 fl_X2_9 dX2_valueFor_15 s_43 (by decide) rfl (by decide) ?_
      refine sx_iload dX2_valueFor_18 rfl ?_
      refine sx_iaload dX2_valueFor_20 s_44 (by decide) (by decide) ⟨by omega, by omega⟩ ?_
      refine sy_top (fun v10 ev10 => ?_)
      refine sx_istore dX2_valueFor_21 (by decide) ?_
      refine sx_iload dX2_valueFor_23 rfl ?_
      refine sx_bipush dX2_valueFor_25 ⟨by decide, by decide, by decide⟩ ?_
      refine sx_icmp_lt (tgt := 74) dX2_valueFor_27 (by decide) (fun c11 => ?_) (fun c11 => ?_)
      ·
        refine sx_iload dX2_valueFor_74 rfl ?_
        refine sx_bipush dX2_valueFor_76 ⟨by decide, by decide, by decide⟩ ?_
        refine sx_icmp_ne (tgt := 116) dX2_valueFor_78 (by decide) (fun c12 => ?_) (fun c12 => ?_)
        ·
          refine sx_iload_n dX2_valueFor_116 rfl ?_
          refine sx_iconst dX2_valueFor_117 ⟨by decide, by decide⟩ ?_
          refine sx_icmp_lt (tgt := 153) dX2_valueFor_118 (by decide) (fun c13 => ?_) (fun c13 => ?_)
          ·
            refine sx_iinc dX2_valueFor_153 (by decide) rfl ?_
            rw [sw_w_id (by omega) (by omega)]
            refine sx_goto (tgt := 5) dX2_valueFor_156 (by decide) ?_
            refine sx_kill 5 ?_
            exact ihh1 _ _ _ ⟨Ih1, by omega, by omega, by omega⟩ (by exact sy_dec (by omega) (by omega))
          ·
            refine sx_aload_n dX2_valueFor_121 rfl ?_
            refine sx_getS (k := 2) (t := 45) cl_2 fl_X2_15 dX2_valueFor_122 s_43 (by decide) rfl (by decide) ?_
            refine sx_iload_n dX2_valueFor_125 rfl ?_
            refine sx_iconst dX2_valueFor_126 ⟨by decide, by decide⟩ ?_
            refine sx_isub dX2_valueFor_127 ?_
            refine sy_topw (by omega) ?_
            refine sx_iload dX2_valueFor_128 rfl ?_
            refine sx_aload_n dX2_valueFor_130 rfl ?_
            refine sx_getS (k := 2) (t := 45) cl_2 fl_X2_15 dX2_valueFor_131 s_43 (by decide) rfl (by decide) ?_
            refine sx_iload_n dX2_valueFor_134 rfl ?_
            refine sx_iconst dX2_valueFor_135 ⟨by decide, by decide⟩ ?_
            refine sx_isub dX2_valueFor_136 ?_
            refine sy_topw (by omega) ?_
            refine sx_iaload dX2_valueFor_137 s_45 (by decide) (by decide) ⟨by omega, by omega⟩ ?_
            refine sx_aload_n dX2_valueFor_138 rfl ?_
            refine sx_getS (k := 2) (t := 45) cl_2 fl_X2_15 dX2_valueFor_139 s_43 (by decide) rfl (by decide) ?_
            refine sx_iload_n dX2_valueFor_142 rfl ?_
            refine sx_iconst dX2_valueFor_143 ⟨by decide, by decide⟩ ?_
            refine sx_isub dX2_valueFor_144 ?_
            refine sy_topw (by omega) ?_
            refine sx_iaload dX2_valueFor_145 s_45 (by decide) (by decide) ⟨by omega, by omega⟩ ?_
            refine sx_callSi lk_X2_92 dX2_valueFor_146 (vs := [_, _, _]) rfl rfl (Nat.le_of_ble_eq_true rfl) (Nat.le_of_ble_eq_true rfl) rfl (c_X2_join _ Ih1.1 _ _ _) (fun x15 h14 ph14 => ?_)
            subst ph14
            refine sy_iastore dX2_valueFor_149 s_45 (by decide) (by decide) ⟨by omega, by omega⟩ (fun h16 eh16 => ?_)
            have Ih16 := Ih1.up eh16 trivial rfl rfl
            have th16_43_3 := eh16.2 (43) 3 (by omega)
            refine sx_iinc dX2_valueFor_150 (by decide) rfl ?_
            rw [sw_w_id (by omega) (by omega)]
            refine sx_iinc dX2_valueFor_153 (by decide) rfl ?_
            rw [sw_w_id (by omega) (by omega)]
            refine sx_goto (tgt := 5) dX2_valueFor_156 (by decide) ?_
            refine sx_kill 5 ?_
            exact ihh1 _ _ _ ⟨Ih16, by omega, by omega, by omega⟩ (by exact sy_dec (by omega) (by omega))
        ·
          refine sx_iload_n dX2_valueFor_81 rfl ?_
          refine sx_iconst dX2_valueFor_82 ⟨by decide, by decide⟩ ?_
          refine sx_icmp_lt (tgt := 153) dX2_valueFor_83 (by decide) (fun c17 => ?_) (fun c17 => ?_)
          ·
            refine sx_iinc dX2_valueFor_153 (by decide) rfl ?_
            rw [sw_w_id (by omega) (by omega)]
            refine sx_goto (tgt := 5) dX2_valueFor_156 (by decide) ?_
            refine sx_kill 5 ?_
            exact ihh1 _ _ _ ⟨Ih1, by omega, by omega, by omega⟩ (by exact sy_dec (by omega) (by omega))
          ·
            refine sx_aload_n dX2_valueFor_86 rfl ?_
            refine sx_getS (k := 2) (t := 45) cl_2 fl_X2_15 dX2_valueFor_87 s_43 (by decide) rfl (by decide) ?_
            refine sx_iload_n dX2_valueFor_90 rfl ?_
            refine sx_iconst dX2_valueFor_91 ⟨by decide, by decide⟩ ?_
            refine sx_isub dX2_valueFor_92 ?_
            refine sy_topw (by omega) ?_
            refine sx_aload_n dX2_valueFor_93 rfl ?_
            refine sx_getS (k := 2) (t := 45) cl_2 fl_X2_15 dX2_valueFor_94 s_43 (by decide) rfl (by decide) ?_
            refine sx_iload_n dX2_valueFor_97 rfl ?_
            refine sx_iconst dX2_valueFor_98 ⟨by decide, by decide⟩ ?_
            refine sx_isub dX2_valueFor_99 ?_
            refine sy_topw (by omega) ?_
            refine sx_iaload dX2_valueFor_100 s_45 (by decide) (by decide) ⟨by omega, by omega⟩ ?_
            refine sx_if_ne (tgt := 108) dX2_valueFor_101 (by decide) (fun c18 => ?_) (fun c18 => ?_)
            ·
              refine sx_iconst dX2_valueFor_108 ⟨by decide, by decide⟩ ?_
              refine sx_callSi lk_X2_88 dX2_valueFor_109 (vs := [_]) rfl rfl (Nat.le_of_ble_eq_true rfl) (Nat.le_of_ble_eq_true rfl) rfl (c_X2_truth _ Ih1.1 _) (fun x20 h19 ph19 => ?_)
              subst ph19
              refine sy_iastore dX2_valueFor_112 s_45 (by decide) (by decide) ⟨by omega, by omega⟩ (fun h21 eh21 => ?_)
              have Ih21 := Ih1.up eh21 trivial rfl rfl
              have th21_43_3 := eh21.2 (43) 3 (by omega)
              refine sx_goto (tgt := 153) dX2_valueFor_113 (by decide) ?_
              refine sx_iinc dX2_valueFor_153 (by decide) rfl ?_
              rw [sw_w_id (by omega) (by omega)]
              refine sx_goto (tgt := 5) dX2_valueFor_156 (by decide) ?_
              refine sx_kill 5 ?_
              exact ihh1 _ _ _ ⟨Ih21, by omega, by omega, by omega⟩ (by exact sy_dec (by omega) (by omega))
            ·
              refine sx_iconst dX2_valueFor_104 ⟨by decide, by decide⟩ ?_
              refine sx_goto (tgt := 109) dX2_valueFor_105 (by decide) ?_
              refine sx_callSi lk_X2_88 dX2_valueFor_109 (vs := [_]) rfl rfl (Nat.le_of_ble_eq_true rfl) (Nat.le_of_ble_eq_true rfl) rfl (c_X2_truth _ Ih1.1 _) (fun x23 h22 ph22 => ?_)
              subst ph22
              refine sy_iastore dX2_valueFor_112 s_45 (by decide) (by decide) ⟨by omega, by omega⟩ (fun h24 eh24 => ?_)
              have Ih24 := Ih1.up eh24 trivial rfl rfl
              have th24_43_3 := eh24.2 (43) 3 (by omega)
              refine sx_goto (tgt := 153) dX2_valueFor_113 (by decide) ?_
              refine sx_iinc dX2_valueFor_153 (by decide) rfl ?_
              rw [sw_w_id (by omega) (by omega)]
              refine sx_goto (tgt := 5) dX2_valueFor_156 (by decide) ?_
              refine sx_kill 5 ?_
              exact ihh1 _ _ _ ⟨Ih24, by omega, by omega, by omega⟩ (by exact sy_dec (by omega) (by omega))
      ·
        refine sx_iload_n dX2_valueFor_30 rfl ?_
        refine sx_aload_n dX2_valueFor_31 rfl ?_
        refine sx_getS (k := 2) (t := 45) cl_2 fl_X2_15 dX2_valueFor_32 s_43 (by decide) rfl (by decide) ?_
        refine sx_alen (t := 0) dX2_valueFor_35 s_45 (by decide) (by decide) (by decide) ?_
        refine sx_icmp_ge (tgt := 153) dX2_valueFor_36 (by decide) (fun c25 => ?_) (fun c25 => ?_)
        ·
          refine sx_iinc dX2_valueFor_153 (by decide) rfl ?_
          rw [sw_w_id (by omega) (by omega)]
          refine sx_goto (tgt := 5) dX2_valueFor_156 (by decide) ?_
          refine sx_kill 5 ?_
          exact ihh1 _ _ _ ⟨Ih1, by omega, by omega, by omega⟩ (by exact sy_dec (by omega) (by omega))
        ·
          refine sx_aload_n dX2_valueFor_39 rfl ?_
          refine sx_getS (k := 2) (t := 45) cl_2 fl_X2_15 dX2_valueFor_40 s_43 (by decide) rfl (by decide) ?_
          refine sx_iload_n dX2_valueFor_43 rfl ?_
          refine sx_iload dX2_valueFor_44 rfl ?_
          refine sx_iconst dX2_valueFor_46 ⟨by decide, by decide⟩ ?_
          refine sx_icmp_ne (tgt := 54) dX2_valueFor_47 (by decide) (fun c26 => ?_) (fun c26 => ?_)
          ·
            refine sx_iload dX2_valueFor_54 rfl ?_
            refine sx_bipush dX2_valueFor_56 ⟨by decide, by decide, by decide⟩ ?_
            refine sx_icmp_ne (tgt := 65) dX2_valueFor_58 (by decide) (fun c27 => ?_) (fun c27 => ?_)
            ·
              refine sx_iload dX2_valueFor_65 rfl ?_
              refine sy_iastore dX2_valueFor_67 s_45 (by decide) (by decide) ⟨by omega, by omega⟩ (fun h28 eh28 => ?_)
              have Ih28 := Ih1.up eh28 trivial rfl rfl
              have th28_43_3 := eh28.2 (43) 3 (by omega)
              refine sx_iinc dX2_valueFor_68 (by decide) rfl ?_
              rw [sw_w_id (by omega) (by omega)]
              refine sx_goto (tgt := 153) dX2_valueFor_71 (by decide) ?_
              refine sx_iinc dX2_valueFor_153 (by decide) rfl ?_
              rw [sw_w_id (by omega) (by omega)]
              refine sx_goto (tgt := 5) dX2_valueFor_156 (by decide) ?_
              refine sx_kill 5 ?_
              exact ihh1 _ _ _ ⟨Ih28, by omega, by omega, by omega⟩ (by exact sy_dec (by omega) (by omega))
            ·
              refine sx_iload_n dX2_valueFor_61 rfl ?_
              refine sx_goto (tgt := 67) dX2_valueFor_62 (by decide) ?_
              refine sy_iastore dX2_valueFor_67 s_45 (by decide) (by decide) ⟨by omega, by omega⟩ (fun h29 eh29 => ?_)
              have Ih29 := Ih1.up eh29 trivial rfl rfl
              have th29_43_3 := eh29.2 (43) 3 (by omega)
              refine sx_iinc dX2_valueFor_68 (by decide) rfl ?_
              rw [sw_w_id (by omega) (by omega)]
              refine sx_goto (tgt := 153) dX2_valueFor_71 (by decide) ?_
              refine sx_iinc dX2_valueFor_153 (by decide) rfl ?_
              rw [sw_w_id (by omega) (by omega)]
              refine sx_goto (tgt := 5) dX2_valueFor_156 (by decide) ?_
              refine sx_kill 5 ?_
              exact ihh1 _ _ _ ⟨Ih29, by omega, by omega, by omega⟩ (by exact sy_dec (by omega) (by omega))
          ·
            refine sx_iload_n dX2_valueFor_50 rfl ?_
            refine sx_goto (tgt := 67) dX2_valueFor_51 (by decide) ?_
            refine sy_iastore dX2_valueFor_67 s_45 (by decide) (by decide) ⟨by omega, by omega⟩ (fun h30 eh30 => ?_)
            have Ih30 := Ih1.up eh30 trivial rfl rfl
            have th30_43_3 := eh30.2 (43) 3 (by omega)
            refine sx_iinc dX2_valueFor_68 (by decide) rfl ?_
            rw [sw_w_id (by omega) (by omega)]
            refine sx_goto (tgt := 153) dX2_valueFor_71 (by decide) ?_
            refine sx_iinc dX2_valueFor_153 (by decide) rfl ?_
            rw [sw_w_id (by omega) (by omega)]
            refine sx_goto (tgt := 5) dX2_valueFor_156 (by decide) ?_
            refine sx_kill 5 ?_
            exact ihh1 _ _ _ ⟨Ih30, by omega, by omega, by omega⟩ (by exact sy_dec (by omega) (by omega))
  · exact ⟨hI, by omega, by omega, by omega⟩
set_option maxRecDepth 20000 in
set_option maxHeartbeats 4000000 in
theorem c_X2_fill_1 {G : sw_G} (d : Nat) {h0 : sw_H} (hJ : cJ h0)  : sw_E G NH SH (d + 3) mX2_fill 0 [some (sw_r 43), some (sw_r 12), none] [] h0 (sw_Qv (fun h' => cK pr0 h0 h')) := by
  have hI : cK pr0 h0 h0 := cK.refl hJ
  refine sx_iconst dX2_fill_0 ⟨by decide, by decide⟩ ?_
  refine sx_istore_n dX2_fill_1 (by decide) ?_
  refine sx_loop1 (fun (h : sw_H) (i : Int) => (cK pr0 h0 h) ∧ (0 ≤ i)) (fun (h : sw_H) (i : Int) => (57 - i).toNat) (fun (h : sw_H) (i : Int) => sw_E G NH SH (d + 3) mX2_fill 2 [some (sw_r 43), some (sw_r 12), some (sw_i i)] [] h (sw_Qv (fun h' => cK pr0 h0 h'))) ?_ _ _ ?_
  · rintro h1 i_2 ⟨Ih1, j3⟩ ihh1
    try dsimp only at ihh1
    refine sx_iload_n dX2_fill_2 rfl ?_
    refine sx_aload_n dX2_fill_3 rfl ?_
    refine sx_alen (t := 0) dX2_fill_4 s_12 (by decide) (by decide) (by decide) ?_
    refine sx_icmp_ge (tgt := 38) dX2_fill_5 (by decide) (fun c4 => ?_) (fun c4 => ?_)
    ·
      refine sx_ret dX2_fill_38 ?_
      exact ⟨rfl, Ih1⟩
    ·
      refine sx_aload_n dX2_fill_8 rfl ?_
      refine sx_iload_n dX2_fill_9 rfl ?_
      refine sx_iconst dX2_fill_10 ⟨by decide, by decide⟩ ?_
      refine sx_bipush dX2_fill_11 ⟨by decide, by decide, by decide⟩ ?_
      refine sx_aload_n dX2_fill_13 rfl ?_
      refine sx_iload_n dX2_fill_14 rfl ?_
      refine sx_bipush dX2_fill_15 ⟨by decide, by decide, by decide⟩ ?_
      refine sx_idiv dX2_fill_17 (by first | omega | (rw [Int.tmod_eq_emod_of_nonneg (by omega)]; omega) | (rw [Int.tdiv_eq_ediv_of_nonneg (by omega)]; omega)) ?_
      refine sy_topw (by first | omega | (rw [Int.tmod_eq_emod_of_nonneg (by omega)]; omega) | (rw [Int.tdiv_eq_ediv_of_nonneg (by omega)]; omega)) ?_
      refine sx_iload_n dX2_fill_18 rfl ?_
      refine sx_bipush dX2_fill_19 ⟨by decide, by decide, by decide⟩ ?_
      refine sx_irem dX2_fill_21 (by first | omega | (rw [Int.tmod_eq_emod_of_nonneg (by omega)]; omega) | (rw [Int.tdiv_eq_ediv_of_nonneg (by omega)]; omega)) ?_
      refine sy_topw (by first | omega | (rw [Int.tmod_eq_emod_of_nonneg (by omega)]; omega) | (rw [Int.tdiv_eq_ediv_of_nonneg (by omega)]; omega)) ?_
      refine sx_callVi lk_X2_76 cl_2 s_43 (by decide) dX2_fill_22 (vs := [_, _]) rfl rfl (Nat.le_of_ble_eq_true rfl) (Nat.le_of_ble_eq_true rfl) rfl (c_X2_valueFor _ Ih1.1 _ _) (fun x6 h5 ph5 => ?_)
      have Kh5 := ph5
      have Ih5 := Ih1.tr Kh5 sb_pr0_prF
      refine sx_min lm_X2_80 lw_min dX2_fill_25 (Nat.le_of_ble_eq_true rfl) ?_
      refine sy_min (fun m7 em7 fm7 gm7 => ?_)
      refine sx_max lm_X2_85 lw_max dX2_fill_28 (Nat.le_of_ble_eq_true rfl) ?_
      refine sy_max (fun m8 em8 fm8 gm8 => ?_)
      refine sy_iastore dX2_fill_31 s_12 (by decide) (by decide) ⟨by first | omega | (rw [Int.tmod_eq_emod_of_nonneg (by omega)]; omega) | (rw [Int.tdiv_eq_ediv_of_nonneg (by omega)]; omega), by first | omega | (rw [Int.tmod_eq_emod_of_nonneg (by omega)]; omega) | (rw [Int.tdiv_eq_ediv_of_nonneg (by omega)]; omega)⟩ (fun h9 eh9 => ?_)
      have Ih9 := Ih5.up eh9 trivial rfl rfl
      refine sx_iinc dX2_fill_32 (by decide) rfl ?_
      rw [sw_w_id (by first | omega | (rw [Int.tmod_eq_emod_of_nonneg (by omega)]; omega) | (rw [Int.tdiv_eq_ediv_of_nonneg (by omega)]; omega)) (by first | omega | (rw [Int.tmod_eq_emod_of_nonneg (by omega)]; omega) | (rw [Int.tdiv_eq_ediv_of_nonneg (by omega)]; omega))]
      refine sx_goto (tgt := 2) dX2_fill_35 (by decide) ?_
      exact ihh1 _ _ ⟨Ih9, by first | omega | (rw [Int.tmod_eq_emod_of_nonneg (by omega)]; omega) | (rw [Int.tdiv_eq_ediv_of_nonneg (by omega)]; omega)⟩ (by exact sy_dec (by first | omega | (rw [Int.tmod_eq_emod_of_nonneg (by omega)]; omega) | (rw [Int.tdiv_eq_ediv_of_nonneg (by omega)]; omega)) (by first | omega | (rw [Int.tmod_eq_emod_of_nonneg (by omega)]; omega) | (rw [Int.tdiv_eq_ediv_of_nonneg (by omega)]; omega)))
  · exact ⟨hI, by first | omega | (rw [Int.tmod_eq_emod_of_nonneg (by omega)]; omega) | (rw [Int.tdiv_eq_ediv_of_nonneg (by omega)]; omega)⟩
set_option maxRecDepth 20000 in
set_option maxHeartbeats 4000000 in
theorem c_X2_fill_13 {G : sw_G} (d : Nat) {h0 : sw_H} (hJ : cJ h0)  : sw_E G NH SH (d + 3) mX2_fill 0 [some (sw_r 43), some (sw_r 24), none] [] h0 (sw_Qv (fun h' => cK pr0 h0 h')) := by
  have hI : cK pr0 h0 h0 := cK.refl hJ
  refine sx_iconst dX2_fill_0 ⟨by decide, by decide⟩ ?_
  refine sx_istore_n dX2_fill_1 (by decide) ?_
  refine sx_loop1 (fun (h : sw_H) (i : Int) => (cK pr0 h0 h) ∧ (0 ≤ i)) (fun (h : sw_H) (i : Int) => (57 - i).toNat) (fun (h : sw_H) (i : Int) => sw_E G NH SH (d + 3) mX2_fill 2 [some (sw_r 43), some (sw_r 24), some (sw_i i)] [] h (sw_Qv (fun h' => cK pr0 h0 h'))) ?_ _ _ ?_
  · rintro h1 i_2 ⟨Ih1, j3⟩ ihh1
    try dsimp only at ihh1
    refine sx_iload_n dX2_fill_2 rfl ?_
    refine sx_aload_n dX2_fill_3 rfl ?_
    refine sx_alen (t := 0) dX2_fill_4 s_24 (by decide) (by decide) (by decide) ?_
    refine sx_icmp_ge (tgt := 38) dX2_fill_5 (by decide) (fun c4 => ?_) (fun c4 => ?_)
    ·
      refine sx_ret dX2_fill_38 ?_
      exact ⟨rfl, Ih1⟩
    ·
      refine sx_aload_n dX2_fill_8 rfl ?_
      refine sx_iload_n dX2_fill_9 rfl ?_
      refine sx_iconst dX2_fill_10 ⟨by decide, by decide⟩ ?_
      refine sx_bipush dX2_fill_11 ⟨by decide, by decide, by decide⟩ ?_
      refine sx_aload_n dX2_fill_13 rfl ?_
      refine sx_iload_n dX2_fill_14 rfl ?_
      refine sx_bipush dX2_fill_15 ⟨by decide, by decide, by decide⟩ ?_
      refine sx_idiv dX2_fill_17 (by first | omega | (rw [Int.tmod_eq_emod_of_nonneg (by omega)]; omega) | (rw [Int.tdiv_eq_ediv_of_nonneg (by omega)]; omega)) ?_
      refine sy_topw (by first | omega | (rw [Int.tmod_eq_emod_of_nonneg (by omega)]; omega) | (rw [Int.tdiv_eq_ediv_of_nonneg (by omega)]; omega)) ?_
      refine sx_iload_n dX2_fill_18 rfl ?_
      refine sx_bipush dX2_fill_19 ⟨by decide, by decide, by decide⟩ ?_
      refine sx_irem dX2_fill_21 (by first | omega | (rw [Int.tmod_eq_emod_of_nonneg (by omega)]; omega) | (rw [Int.tdiv_eq_ediv_of_nonneg (by omega)]; omega)) ?_
      refine sy_topw (by first | omega | (rw [Int.tmod_eq_emod_of_nonneg (by omega)]; omega) | (rw [Int.tdiv_eq_ediv_of_nonneg (by omega)]; omega)) ?_
      refine sx_callVi lk_X2_76 cl_2 s_43 (by decide) dX2_fill_22 (vs := [_, _]) rfl rfl (Nat.le_of_ble_eq_true rfl) (Nat.le_of_ble_eq_true rfl) rfl (c_X2_valueFor _ Ih1.1 _ _) (fun x6 h5 ph5 => ?_)
      have Kh5 := ph5
      have Ih5 := Ih1.tr Kh5 sb_pr0_prF
      refine sx_min lm_X2_80 lw_min dX2_fill_25 (Nat.le_of_ble_eq_true rfl) ?_
      refine sy_min (fun m7 em7 fm7 gm7 => ?_)
      refine sx_max lm_X2_85 lw_max dX2_fill_28 (Nat.le_of_ble_eq_true rfl) ?_
      refine sy_max (fun m8 em8 fm8 gm8 => ?_)
      refine sy_iastore dX2_fill_31 s_24 (by decide) (by decide) ⟨by first | omega | (rw [Int.tmod_eq_emod_of_nonneg (by omega)]; omega) | (rw [Int.tdiv_eq_ediv_of_nonneg (by omega)]; omega), by first | omega | (rw [Int.tmod_eq_emod_of_nonneg (by omega)]; omega) | (rw [Int.tdiv_eq_ediv_of_nonneg (by omega)]; omega)⟩ (fun h9 eh9 => ?_)
      have Ih9 := Ih5.up eh9 trivial rfl rfl
      refine sx_iinc dX2_fill_32 (by decide) rfl ?_
      rw [sw_w_id (by first | omega | (rw [Int.tmod_eq_emod_of_nonneg (by omega)]; omega) | (rw [Int.tdiv_eq_ediv_of_nonneg (by omega)]; omega)) (by first | omega | (rw [Int.tmod_eq_emod_of_nonneg (by omega)]; omega) | (rw [Int.tdiv_eq_ediv_of_nonneg (by omega)]; omega))]
      refine sx_goto (tgt := 2) dX2_fill_35 (by decide) ?_
      exact ihh1 _ _ ⟨Ih9, by first | omega | (rw [Int.tmod_eq_emod_of_nonneg (by omega)]; omega) | (rw [Int.tdiv_eq_ediv_of_nonneg (by omega)]; omega)⟩ (by exact sy_dec (by first | omega | (rw [Int.tmod_eq_emod_of_nonneg (by omega)]; omega) | (rw [Int.tdiv_eq_ediv_of_nonneg (by omega)]; omega)) (by first | omega | (rw [Int.tmod_eq_emod_of_nonneg (by omega)]; omega) | (rw [Int.tdiv_eq_ediv_of_nonneg (by omega)]; omega)))
  · exact ⟨hI, by first | omega | (rw [Int.tmod_eq_emod_of_nonneg (by omega)]; omega) | (rw [Int.tdiv_eq_ediv_of_nonneg (by omega)]; omega)⟩
set_option maxRecDepth 20000 in
set_option maxHeartbeats 4000000 in
theorem o_X2_readUnit {G : sw_G} (d : Nat) {h0 : sw_H} (hJ : cJ h0) (hs : h0 43 0 = 34) (dp : Int) (hdp : 0 ≤ dp ∧ dp ≤ 7) (hLa : dp ≤ 6 → ∀ (h1 : sw_H), cJ h1 → h1 43 0 = 34 → sw_E G NH SH (d + 10) mX2_readLevel 0 [some (sw_r 43), some (sw_i 0), some (sw_i (dp + 1)), none, none, none] [] h1 (sw_Qv (fun h' => cK prF h1 h'))) : sw_E G NH SH (d + 11) mX2_readUnit 0 [some (sw_r 43), some (sw_i dp)] [] h0 (sw_Qv (fun h' => cK prF h0 h')) := by
  have hI : cK prF h0 h0 := cK.refl hJ
  refine sx_aload_n dX2_readUnit_0 rfl ?_
  refine sx_getR (k := 0) (t := 34) cl_2 fl_X2_18 dX2_readUnit_1 s_43 (by decide) rfl (by decide) (by omega) ?_
  refine sx_getI (k := 7) cl_5 fl_X2_46 dX2_readUnit_4 s_34 (by decide) rfl (by decide) ?_
  refine sx_if_eq (tgt := 11) dX2_readUnit_7 (by decide) (fun c1 => ?_) (fun c1 => ?_)
  ·
    refine sx_aload_n dX2_readUnit_11 rfl ?_
    refine sx_getI (k := 4) cl_2 fl_X2_26 dX2_readUnit_12 s_43 (by decide) rfl (by decide) ?_
    have r2 : (0 : Int) ≤ h0 43 4 ∧ h0 43 4 ≤ 30 := hI.1.1 43 4
    refine sx_bipush dX2_readUnit_15 ⟨by decide, by decide, by decide⟩ ?_
    refine sx_icmp_lt (tgt := 28) dX2_readUnit_17 (by decide) (fun c3 => ?_) (fun c3 => ?_)
    ·
      refine sx_aload_n dX2_readUnit_28 rfl ?_
      refine sx_dupr dX2_readUnit_29 ?_
      refine sx_getI (k := 4) cl_2 fl_X2_26 dX2_readUnit_30 s_43 (by decide) rfl (by decide) ?_
      have r4 : (0 : Int) ≤ h0 43 4 ∧ h0 43 4 ≤ 30 := hI.1.1 43 4
      refine sx_iconst dX2_readUnit_33 ⟨by decide, by decide⟩ ?_
      refine sx_iadd dX2_readUnit_34 ?_
      refine sy_topw (by omega) ?_
      refine sy_putI (k := 4) cl_2 fl_X2_26 dX2_readUnit_35 s_43 (by decide) rfl (by decide) rfl rfl (fun h5 eh5 => ?_)
      have Ih5 := hI.up eh5 (show (0 : Int) ≤ _ ∧ _ ≤ (30 : Int) from ⟨by omega, by omega⟩) rfl rfl
      have th5_43_0 := eh5.2 (43) 0 (by decide)
      have th5_43_4 := eh5.1
      refine sx_aload_n dX2_readUnit_38 rfl ?_
      refine sx_getR (k := 0) (t := 34) cl_2 fl_X2_18 dX2_readUnit_39 s_43 (by decide) rfl (by decide) (by omega) ?_
      refine sx_bipush dX2_readUnit_42 ⟨by decide, by decide, by decide⟩ ?_
      refine sx_callVz lk_X2_62 cl_5 s_34 (by decide) dX2_readUnit_44 (vs := [_]) rfl rfl (Nat.le_of_ble_eq_true rfl) (Nat.le_of_ble_eq_true rfl) rfl (c_X5_isSign _ Ih5.1 _) (fun x7 h6 zx7 ph6 => ?_)
      subst ph6
      refine sx_if_eq (tgt := 83) dX2_readUnit_47 (by decide) (fun c8 => ?_) (fun c8 => ?_)
      ·
        refine sx_aload_n dX2_readUnit_83 rfl ?_
        refine sx_getR (k := 0) (t := 34) cl_2 fl_X2_18 dX2_readUnit_84 s_43 (by decide) rfl (by decide) (by omega) ?_
        refine sx_getI (k := 4) cl_5 fl_X2_70 dX2_readUnit_87 s_34 (by decide) rfl (by decide) ?_
        refine sx_iconst dX2_readUnit_90 ⟨by decide, by decide⟩ ?_
        refine sx_icmp_ne (tgt := 108) dX2_readUnit_91 (by decide) (fun c9 => ?_) (fun c9 => ?_)
        ·
          refine sx_aload_n dX2_readUnit_108 rfl ?_
          refine sx_getR (k := 0) (t := 34) cl_2 fl_X2_18 dX2_readUnit_109 s_43 (by decide) rfl (by decide) (by omega) ?_
          refine sx_bipush dX2_readUnit_112 ⟨by decide, by decide, by decide⟩ ?_
          refine sx_callVz lk_X2_33 cl_5 s_34 (by decide) dX2_readUnit_114 (vs := [_]) rfl rfl (Nat.le_of_ble_eq_true rfl) (Nat.le_of_ble_eq_true rfl) rfl (c_X5_isKey _ Ih5.1 _) (fun x11 h10 zx11 ph10 => ?_)
          subst ph10
          refine sx_if_eq (tgt := 128) dX2_readUnit_117 (by decide) (fun c12 => ?_) (fun c12 => ?_)
          ·
            refine sx_aload_n dX2_readUnit_128 rfl ?_
            refine sx_getR (k := 0) (t := 34) cl_2 fl_X2_18 dX2_readUnit_129 s_43 (by decide) rfl (by decide) (by omega) ?_
            refine sx_bipush dX2_readUnit_132 ⟨by decide, by decide, by decide⟩ ?_
            refine sx_callVz lk_X2_33 cl_5 s_34 (by decide) dX2_readUnit_134 (vs := [_]) rfl rfl (Nat.le_of_ble_eq_true rfl) (Nat.le_of_ble_eq_true rfl) rfl (c_X5_isKey _ Ih5.1 _) (fun x14 h13 zx14 ph13 => ?_)
            subst ph13
            refine sx_if_eq (tgt := 149) dX2_readUnit_137 (by decide) (fun c15 => ?_) (fun c15 => ?_)
            ·
              refine sx_aload_n dX2_readUnit_149 rfl ?_
              refine sx_getR (k := 0) (t := 34) cl_2 fl_X2_18 dX2_readUnit_150 s_43 (by decide) rfl (by decide) (by omega) ?_
              refine sx_callVv lk_X2_59 cl_5 s_34 (by decide) dX2_readUnit_153 (vs := []) rfl rfl (Nat.le_of_ble_eq_true rfl) (Nat.le_of_ble_eq_true rfl) rfl (c_X5_refuse _ Ih5.1) (fun h16 ph16 => ?_)
              obtain ⟨Kh16, f_h16⟩ := ph16
              have Ih16 := Ih5.tr Kh16 sb_prF_prC
              have th16_43_0 := Kh16.2 (43) 0 rfl
              have th16_43_4 := Kh16.2 (43) 4 rfl
              refine sx_aload_n dX2_readUnit_156 rfl ?_
              refine sx_getR (k := 0) (t := 34) cl_2 fl_X2_18 dX2_readUnit_157 s_43 (by decide) rfl (by decide) (by omega) ?_
              refine sx_getI (k := 7) cl_5 fl_X2_46 dX2_readUnit_160 s_34 (by decide) rfl (by decide) ?_
              refine sx_if_ne (tgt := 173) dX2_readUnit_163 (by decide) (fun c18 => ?_) (fun c18 => ?_)
              ·
                refine sx_ret dX2_readUnit_173 ?_
                exact ⟨rfl, Ih16⟩
              ·
                refine sx_aload_n dX2_readUnit_166 rfl ?_
                refine sx_getR (k := 0) (t := 34) cl_2 fl_X2_18 dX2_readUnit_167 s_43 (by decide) rfl (by decide) (by omega) ?_
                refine sx_callVv lk_X2_53 cl_5 s_34 (by decide) dX2_readUnit_170 (vs := []) rfl rfl (Nat.le_of_ble_eq_true rfl) (Nat.le_of_ble_eq_true rfl) rfl (c_X5_advance _ Ih16.1) (fun h19 ph19 => ?_)
                have Kh19 := ph19
                have Ih19 := Ih16.tr Kh19 sb_prF_prC
                have th19_43_0 := Kh19.2 (43) 0 rfl
                have th19_43_4 := Kh19.2 (43) 4 rfl
                refine sx_ret dX2_readUnit_173 ?_
                exact ⟨rfl, Ih19⟩
            ·
              refine sx_aload_n dX2_readUnit_140 rfl ?_
              refine sx_bipush dX2_readUnit_141 ⟨by decide, by decide, by decide⟩ ?_
              refine sx_callVv lk_X2_56 cl_2 s_43 (by decide) dX2_readUnit_143 (vs := [_]) rfl rfl (Nat.le_of_ble_eq_true rfl) (Nat.le_of_ble_eq_true rfl) rfl (c_X2_append _ Ih5.1 _) (fun h21 ph21 => ?_)
              have Kh21 := ph21
              have Ih21 := Ih5.tr Kh21 sb_prF_prF
              have th21_43_0 := Kh21.2 (43) 0 rfl
              refine sx_goto (tgt := 156) dX2_readUnit_146 (by decide) ?_
              refine sx_aload_n dX2_readUnit_156 rfl ?_
              refine sx_getR (k := 0) (t := 34) cl_2 fl_X2_18 dX2_readUnit_157 s_43 (by decide) rfl (by decide) (by omega) ?_
              refine sx_getI (k := 7) cl_5 fl_X2_46 dX2_readUnit_160 s_34 (by decide) rfl (by decide) ?_
              refine sx_if_ne (tgt := 173) dX2_readUnit_163 (by decide) (fun c23 => ?_) (fun c23 => ?_)
              ·
                refine sx_ret dX2_readUnit_173 ?_
                exact ⟨rfl, Ih21⟩
              ·
                refine sx_aload_n dX2_readUnit_166 rfl ?_
                refine sx_getR (k := 0) (t := 34) cl_2 fl_X2_18 dX2_readUnit_167 s_43 (by decide) rfl (by decide) (by omega) ?_
                refine sx_callVv lk_X2_53 cl_5 s_34 (by decide) dX2_readUnit_170 (vs := []) rfl rfl (Nat.le_of_ble_eq_true rfl) (Nat.le_of_ble_eq_true rfl) rfl (c_X5_advance _ Ih21.1) (fun h24 ph24 => ?_)
                have Kh24 := ph24
                have Ih24 := Ih21.tr Kh24 sb_prF_prC
                have th24_43_0 := Kh24.2 (43) 0 rfl
                have th24_43_4 := Kh24.2 (43) 4 rfl
                refine sx_ret dX2_readUnit_173 ?_
                exact ⟨rfl, Ih24⟩
          ·
            refine sx_aload_n dX2_readUnit_120 rfl ?_
            refine sx_iconst dX2_readUnit_121 ⟨by decide, by decide⟩ ?_
            refine sx_callVv lk_X2_56 cl_2 s_43 (by decide) dX2_readUnit_122 (vs := [_]) rfl rfl (Nat.le_of_ble_eq_true rfl) (Nat.le_of_ble_eq_true rfl) rfl (c_X2_append _ Ih5.1 _) (fun h26 ph26 => ?_)
            have Kh26 := ph26
            have Ih26 := Ih5.tr Kh26 sb_prF_prF
            have th26_43_0 := Kh26.2 (43) 0 rfl
            refine sx_goto (tgt := 156) dX2_readUnit_125 (by decide) ?_
            refine sx_aload_n dX2_readUnit_156 rfl ?_
            refine sx_getR (k := 0) (t := 34) cl_2 fl_X2_18 dX2_readUnit_157 s_43 (by decide) rfl (by decide) (by omega) ?_
            refine sx_getI (k := 7) cl_5 fl_X2_46 dX2_readUnit_160 s_34 (by decide) rfl (by decide) ?_
            refine sx_if_ne (tgt := 173) dX2_readUnit_163 (by decide) (fun c28 => ?_) (fun c28 => ?_)
            ·
              refine sx_ret dX2_readUnit_173 ?_
              exact ⟨rfl, Ih26⟩
            ·
              refine sx_aload_n dX2_readUnit_166 rfl ?_
              refine sx_getR (k := 0) (t := 34) cl_2 fl_X2_18 dX2_readUnit_167 s_43 (by decide) rfl (by decide) (by omega) ?_
              refine sx_callVv lk_X2_53 cl_5 s_34 (by decide) dX2_readUnit_170 (vs := []) rfl rfl (Nat.le_of_ble_eq_true rfl) (Nat.le_of_ble_eq_true rfl) rfl (c_X5_advance _ Ih26.1) (fun h29 ph29 => ?_)
              have Kh29 := ph29
              have Ih29 := Ih26.tr Kh29 sb_prF_prC
              have th29_43_0 := Kh29.2 (43) 0 rfl
              have th29_43_4 := Kh29.2 (43) 4 rfl
              refine sx_ret dX2_readUnit_173 ?_
              exact ⟨rfl, Ih29⟩
        ·
          refine sx_aload_n dX2_readUnit_94 rfl ?_
          refine sx_aload_n dX2_readUnit_95 rfl ?_
          refine sx_getR (k := 0) (t := 34) cl_2 fl_X2_18 dX2_readUnit_96 s_43 (by decide) rfl (by decide) (by omega) ?_
          refine sx_getI (k := 5) cl_5 fl_X2_73 dX2_readUnit_99 s_34 (by decide) rfl (by decide) ?_
          refine sx_callVv lk_X2_56 cl_2 s_43 (by decide) dX2_readUnit_102 (vs := [_]) rfl rfl (Nat.le_of_ble_eq_true rfl) (Nat.le_of_ble_eq_true rfl) rfl (c_X2_append _ Ih5.1 _) (fun h31 ph31 => ?_)
          have Kh31 := ph31
          have Ih31 := Ih5.tr Kh31 sb_prF_prF
          have th31_43_0 := Kh31.2 (43) 0 rfl
          refine sx_goto (tgt := 156) dX2_readUnit_105 (by decide) ?_
          refine sx_aload_n dX2_readUnit_156 rfl ?_
          refine sx_getR (k := 0) (t := 34) cl_2 fl_X2_18 dX2_readUnit_157 s_43 (by decide) rfl (by decide) (by omega) ?_
          refine sx_getI (k := 7) cl_5 fl_X2_46 dX2_readUnit_160 s_34 (by decide) rfl (by decide) ?_
          refine sx_if_ne (tgt := 173) dX2_readUnit_163 (by decide) (fun c33 => ?_) (fun c33 => ?_)
          ·
            refine sx_ret dX2_readUnit_173 ?_
            exact ⟨rfl, Ih31⟩
          ·
            refine sx_aload_n dX2_readUnit_166 rfl ?_
            refine sx_getR (k := 0) (t := 34) cl_2 fl_X2_18 dX2_readUnit_167 s_43 (by decide) rfl (by decide) (by omega) ?_
            refine sx_callVv lk_X2_53 cl_5 s_34 (by decide) dX2_readUnit_170 (vs := []) rfl rfl (Nat.le_of_ble_eq_true rfl) (Nat.le_of_ble_eq_true rfl) rfl (c_X5_advance _ Ih31.1) (fun h34 ph34 => ?_)
            have Kh34 := ph34
            have Ih34 := Ih31.tr Kh34 sb_prF_prC
            have th34_43_0 := Kh34.2 (43) 0 rfl
            have th34_43_4 := Kh34.2 (43) 4 rfl
            refine sx_ret dX2_readUnit_173 ?_
            exact ⟨rfl, Ih34⟩
      ·
        refine sx_iload_n dX2_readUnit_50 rfl ?_
        refine sx_bipush dX2_readUnit_51 ⟨by decide, by decide, by decide⟩ ?_
        refine sx_icmp_gt (tgt := 83) dX2_readUnit_53 (by decide) (fun c36 => ?_) (fun c36 => ?_)
        ·
          refine sx_aload_n dX2_readUnit_83 rfl ?_
          refine sx_getR (k := 0) (t := 34) cl_2 fl_X2_18 dX2_readUnit_84 s_43 (by decide) rfl (by decide) (by omega) ?_
          refine sx_getI (k := 4) cl_5 fl_X2_70 dX2_readUnit_87 s_34 (by decide) rfl (by decide) ?_
          refine sx_iconst dX2_readUnit_90 ⟨by decide, by decide⟩ ?_
          refine sx_icmp_ne (tgt := 108) dX2_readUnit_91 (by decide) (fun c37 => ?_) (fun c37 => ?_)
          ·
            refine sx_aload_n dX2_readUnit_108 rfl ?_
            refine sx_getR (k := 0) (t := 34) cl_2 fl_X2_18 dX2_readUnit_109 s_43 (by decide) rfl (by decide) (by omega) ?_
            refine sx_bipush dX2_readUnit_112 ⟨by decide, by decide, by decide⟩ ?_
            refine sx_callVz lk_X2_33 cl_5 s_34 (by decide) dX2_readUnit_114 (vs := [_]) rfl rfl (Nat.le_of_ble_eq_true rfl) (Nat.le_of_ble_eq_true rfl) rfl (c_X5_isKey _ Ih5.1 _) (fun x39 h38 zx39 ph38 => ?_)
            subst ph38
            refine sx_if_eq (tgt := 128) dX2_readUnit_117 (by decide) (fun c40 => ?_) (fun c40 => ?_)
            ·
              refine sx_aload_n dX2_readUnit_128 rfl ?_
              refine sx_getR (k := 0) (t := 34) cl_2 fl_X2_18 dX2_readUnit_129 s_43 (by decide) rfl (by decide) (by omega) ?_
              refine sx_bipush dX2_readUnit_132 ⟨by decide, by decide, by decide⟩ ?_
              refine sx_callVz lk_X2_33 cl_5 s_34 (by decide) dX2_readUnit_134 (vs := [_]) rfl rfl (Nat.le_of_ble_eq_true rfl) (Nat.le_of_ble_eq_true rfl) rfl (c_X5_isKey _ Ih5.1 _) (fun x42 h41 zx42 ph41 => ?_)
              subst ph41
              refine sx_if_eq (tgt := 149) dX2_readUnit_137 (by decide) (fun c43 => ?_) (fun c43 => ?_)
              ·
                refine sx_aload_n dX2_readUnit_149 rfl ?_
                refine sx_getR (k := 0) (t := 34) cl_2 fl_X2_18 dX2_readUnit_150 s_43 (by decide) rfl (by decide) (by omega) ?_
                refine sx_callVv lk_X2_59 cl_5 s_34 (by decide) dX2_readUnit_153 (vs := []) rfl rfl (Nat.le_of_ble_eq_true rfl) (Nat.le_of_ble_eq_true rfl) rfl (c_X5_refuse _ Ih5.1) (fun h44 ph44 => ?_)
                obtain ⟨Kh44, f_h44⟩ := ph44
                have Ih44 := Ih5.tr Kh44 sb_prF_prC
                have th44_43_0 := Kh44.2 (43) 0 rfl
                have th44_43_4 := Kh44.2 (43) 4 rfl
                refine sx_aload_n dX2_readUnit_156 rfl ?_
                refine sx_getR (k := 0) (t := 34) cl_2 fl_X2_18 dX2_readUnit_157 s_43 (by decide) rfl (by decide) (by omega) ?_
                refine sx_getI (k := 7) cl_5 fl_X2_46 dX2_readUnit_160 s_34 (by decide) rfl (by decide) ?_
                refine sx_if_ne (tgt := 173) dX2_readUnit_163 (by decide) (fun c46 => ?_) (fun c46 => ?_)
                ·
                  refine sx_ret dX2_readUnit_173 ?_
                  exact ⟨rfl, Ih44⟩
                ·
                  refine sx_aload_n dX2_readUnit_166 rfl ?_
                  refine sx_getR (k := 0) (t := 34) cl_2 fl_X2_18 dX2_readUnit_167 s_43 (by decide) rfl (by decide) (by omega) ?_
                  refine sx_callVv lk_X2_53 cl_5 s_34 (by decide) dX2_readUnit_170 (vs := []) rfl rfl (Nat.le_of_ble_eq_true rfl) (Nat.le_of_ble_eq_true rfl) rfl (c_X5_advance _ Ih44.1) (fun h47 ph47 => ?_)
                  have Kh47 := ph47
                  have Ih47 := Ih44.tr Kh47 sb_prF_prC
                  have th47_43_0 := Kh47.2 (43) 0 rfl
                  have th47_43_4 := Kh47.2 (43) 4 rfl
                  refine sx_ret dX2_readUnit_173 ?_
                  exact ⟨rfl, Ih47⟩
              ·
                refine sx_aload_n dX2_readUnit_140 rfl ?_
                refine sx_bipush dX2_readUnit_141 ⟨by decide, by decide, by decide⟩ ?_
                refine sx_callVv lk_X2_56 cl_2 s_43 (by decide) dX2_readUnit_143 (vs := [_]) rfl rfl (Nat.le_of_ble_eq_true rfl) (Nat.le_of_ble_eq_true rfl) rfl (c_X2_append _ Ih5.1 _) (fun h49 ph49 => ?_)
                have Kh49 := ph49
                have Ih49 := Ih5.tr Kh49 sb_prF_prF
                have th49_43_0 := Kh49.2 (43) 0 rfl
                refine sx_goto (tgt := 156) dX2_readUnit_146 (by decide) ?_
                refine sx_aload_n dX2_readUnit_156 rfl ?_
                refine sx_getR (k := 0) (t := 34) cl_2 fl_X2_18 dX2_readUnit_157 s_43 (by decide) rfl (by decide) (by omega) ?_
                refine sx_getI (k := 7) cl_5 fl_X2_46 dX2_readUnit_160 s_34 (by decide) rfl (by decide) ?_
                refine sx_if_ne (tgt := 173) dX2_readUnit_163 (by decide) (fun c51 => ?_) (fun c51 => ?_)
                ·
                  refine sx_ret dX2_readUnit_173 ?_
                  exact ⟨rfl, Ih49⟩
                ·
                  refine sx_aload_n dX2_readUnit_166 rfl ?_
                  refine sx_getR (k := 0) (t := 34) cl_2 fl_X2_18 dX2_readUnit_167 s_43 (by decide) rfl (by decide) (by omega) ?_
                  refine sx_callVv lk_X2_53 cl_5 s_34 (by decide) dX2_readUnit_170 (vs := []) rfl rfl (Nat.le_of_ble_eq_true rfl) (Nat.le_of_ble_eq_true rfl) rfl (c_X5_advance _ Ih49.1) (fun h52 ph52 => ?_)
                  have Kh52 := ph52
                  have Ih52 := Ih49.tr Kh52 sb_prF_prC
                  have th52_43_0 := Kh52.2 (43) 0 rfl
                  have th52_43_4 := Kh52.2 (43) 4 rfl
                  refine sx_ret dX2_readUnit_173 ?_
                  exact ⟨rfl, Ih52⟩
            ·
              refine sx_aload_n dX2_readUnit_120 rfl ?_
              refine sx_iconst dX2_readUnit_121 ⟨by decide, by decide⟩ ?_
              refine sx_callVv lk_X2_56 cl_2 s_43 (by decide) dX2_readUnit_122 (vs := [_]) rfl rfl (Nat.le_of_ble_eq_true rfl) (Nat.le_of_ble_eq_true rfl) rfl (c_X2_append _ Ih5.1 _) (fun h54 ph54 => ?_)
              have Kh54 := ph54
              have Ih54 := Ih5.tr Kh54 sb_prF_prF
              have th54_43_0 := Kh54.2 (43) 0 rfl
              refine sx_goto (tgt := 156) dX2_readUnit_125 (by decide) ?_
              refine sx_aload_n dX2_readUnit_156 rfl ?_
              refine sx_getR (k := 0) (t := 34) cl_2 fl_X2_18 dX2_readUnit_157 s_43 (by decide) rfl (by decide) (by omega) ?_
              refine sx_getI (k := 7) cl_5 fl_X2_46 dX2_readUnit_160 s_34 (by decide) rfl (by decide) ?_
              refine sx_if_ne (tgt := 173) dX2_readUnit_163 (by decide) (fun c56 => ?_) (fun c56 => ?_)
              ·
                refine sx_ret dX2_readUnit_173 ?_
                exact ⟨rfl, Ih54⟩
              ·
                refine sx_aload_n dX2_readUnit_166 rfl ?_
                refine sx_getR (k := 0) (t := 34) cl_2 fl_X2_18 dX2_readUnit_167 s_43 (by decide) rfl (by decide) (by omega) ?_
                refine sx_callVv lk_X2_53 cl_5 s_34 (by decide) dX2_readUnit_170 (vs := []) rfl rfl (Nat.le_of_ble_eq_true rfl) (Nat.le_of_ble_eq_true rfl) rfl (c_X5_advance _ Ih54.1) (fun h57 ph57 => ?_)
                have Kh57 := ph57
                have Ih57 := Ih54.tr Kh57 sb_prF_prC
                have th57_43_0 := Kh57.2 (43) 0 rfl
                have th57_43_4 := Kh57.2 (43) 4 rfl
                refine sx_ret dX2_readUnit_173 ?_
                exact ⟨rfl, Ih57⟩
          ·
            refine sx_aload_n dX2_readUnit_94 rfl ?_
            refine sx_aload_n dX2_readUnit_95 rfl ?_
            refine sx_getR (k := 0) (t := 34) cl_2 fl_X2_18 dX2_readUnit_96 s_43 (by decide) rfl (by decide) (by omega) ?_
            refine sx_getI (k := 5) cl_5 fl_X2_73 dX2_readUnit_99 s_34 (by decide) rfl (by decide) ?_
            refine sx_callVv lk_X2_56 cl_2 s_43 (by decide) dX2_readUnit_102 (vs := [_]) rfl rfl (Nat.le_of_ble_eq_true rfl) (Nat.le_of_ble_eq_true rfl) rfl (c_X2_append _ Ih5.1 _) (fun h59 ph59 => ?_)
            have Kh59 := ph59
            have Ih59 := Ih5.tr Kh59 sb_prF_prF
            have th59_43_0 := Kh59.2 (43) 0 rfl
            refine sx_goto (tgt := 156) dX2_readUnit_105 (by decide) ?_
            refine sx_aload_n dX2_readUnit_156 rfl ?_
            refine sx_getR (k := 0) (t := 34) cl_2 fl_X2_18 dX2_readUnit_157 s_43 (by decide) rfl (by decide) (by omega) ?_
            refine sx_getI (k := 7) cl_5 fl_X2_46 dX2_readUnit_160 s_34 (by decide) rfl (by decide) ?_
            refine sx_if_ne (tgt := 173) dX2_readUnit_163 (by decide) (fun c61 => ?_) (fun c61 => ?_)
            ·
              refine sx_ret dX2_readUnit_173 ?_
              exact ⟨rfl, Ih59⟩
            ·
              refine sx_aload_n dX2_readUnit_166 rfl ?_
              refine sx_getR (k := 0) (t := 34) cl_2 fl_X2_18 dX2_readUnit_167 s_43 (by decide) rfl (by decide) (by omega) ?_
              refine sx_callVv lk_X2_53 cl_5 s_34 (by decide) dX2_readUnit_170 (vs := []) rfl rfl (Nat.le_of_ble_eq_true rfl) (Nat.le_of_ble_eq_true rfl) rfl (c_X5_advance _ Ih59.1) (fun h62 ph62 => ?_)
              have Kh62 := ph62
              have Ih62 := Ih59.tr Kh62 sb_prF_prC
              have th62_43_0 := Kh62.2 (43) 0 rfl
              have th62_43_4 := Kh62.2 (43) 4 rfl
              refine sx_ret dX2_readUnit_173 ?_
              exact ⟨rfl, Ih62⟩
        ·
          refine sx_aload_n dX2_readUnit_56 rfl ?_
          refine sx_getR (k := 0) (t := 34) cl_2 fl_X2_18 dX2_readUnit_57 s_43 (by decide) rfl (by decide) (by omega) ?_
          refine sx_callVv lk_X2_53 cl_5 s_34 (by decide) dX2_readUnit_60 (vs := []) rfl rfl (Nat.le_of_ble_eq_true rfl) (Nat.le_of_ble_eq_true rfl) rfl (c_X5_advance _ Ih5.1) (fun h64 ph64 => ?_)
          have Kh64 := ph64
          have Ih64 := Ih5.tr Kh64 sb_prF_prC
          have th64_43_0 := Kh64.2 (43) 0 rfl
          have th64_43_4 := Kh64.2 (43) 4 rfl
          refine sx_aload_n dX2_readUnit_63 rfl ?_
          refine sx_iconst dX2_readUnit_64 ⟨by decide, by decide⟩ ?_
          refine sx_iload_n dX2_readUnit_65 rfl ?_
          refine sx_iconst dX2_readUnit_66 ⟨by decide, by decide⟩ ?_
          refine sx_iadd dX2_readUnit_67 ?_
          refine sy_topw (by omega) ?_
          refine sx_callVv lk_X2_42 cl_2 s_43 (by decide) dX2_readUnit_68 (vs := [_, _]) rfl rfl (Nat.le_of_ble_eq_true rfl) (Nat.le_of_ble_eq_true rfl) rfl (hLa (by omega) _ Ih64.1 (by omega)) (fun h66 ph66 => ?_)
          have Kh66 := ph66
          have Ih66 := Ih64.tr Kh66 sb_prF_prF
          have th66_43_0 := Kh66.2 (43) 0 rfl
          refine sx_aload_n dX2_readUnit_71 rfl ?_
          refine sx_getR (k := 0) (t := 34) cl_2 fl_X2_18 dX2_readUnit_72 s_43 (by decide) rfl (by decide) (by omega) ?_
          refine sx_bipush dX2_readUnit_75 ⟨by decide, by decide, by decide⟩ ?_
          refine sx_callVv lk_X2_66 cl_5 s_34 (by decide) dX2_readUnit_77 (vs := [_]) rfl rfl (Nat.le_of_ble_eq_true rfl) (Nat.le_of_ble_eq_true rfl) rfl (c_X5_require _ Ih66.1 _) (fun h68 ph68 => ?_)
          have Kh68 := ph68
          have Ih68 := Ih66.tr Kh68 sb_prF_prC
          have th68_43_0 := Kh68.2 (43) 0 rfl
          have th68_43_4 := Kh68.2 (43) 4 rfl
          refine sx_goto (tgt := 156) dX2_readUnit_80 (by decide) ?_
          refine sx_aload_n dX2_readUnit_156 rfl ?_
          refine sx_getR (k := 0) (t := 34) cl_2 fl_X2_18 dX2_readUnit_157 s_43 (by decide) rfl (by decide) (by omega) ?_
          refine sx_getI (k := 7) cl_5 fl_X2_46 dX2_readUnit_160 s_34 (by decide) rfl (by decide) ?_
          refine sx_if_ne (tgt := 173) dX2_readUnit_163 (by decide) (fun c70 => ?_) (fun c70 => ?_)
          ·
            refine sx_ret dX2_readUnit_173 ?_
            exact ⟨rfl, Ih68⟩
          ·
            refine sx_aload_n dX2_readUnit_166 rfl ?_
            refine sx_getR (k := 0) (t := 34) cl_2 fl_X2_18 dX2_readUnit_167 s_43 (by decide) rfl (by decide) (by omega) ?_
            refine sx_callVv lk_X2_53 cl_5 s_34 (by decide) dX2_readUnit_170 (vs := []) rfl rfl (Nat.le_of_ble_eq_true rfl) (Nat.le_of_ble_eq_true rfl) rfl (c_X5_advance _ Ih68.1) (fun h71 ph71 => ?_)
            have Kh71 := ph71
            have Ih71 := Ih68.tr Kh71 sb_prF_prC
            have th71_43_0 := Kh71.2 (43) 0 rfl
            have th71_43_4 := Kh71.2 (43) 4 rfl
            refine sx_ret dX2_readUnit_173 ?_
            exact ⟨rfl, Ih71⟩
    ·
      refine sx_aload_n dX2_readUnit_20 rfl ?_
      refine sx_getR (k := 0) (t := 34) cl_2 fl_X2_18 dX2_readUnit_21 s_43 (by decide) rfl (by decide) (by omega) ?_
      refine sx_callVv lk_X2_59 cl_5 s_34 (by decide) dX2_readUnit_24 (vs := []) rfl rfl (Nat.le_of_ble_eq_true rfl) (Nat.le_of_ble_eq_true rfl) rfl (c_X5_refuse _ hI.1) (fun h73 ph73 => ?_)
      obtain ⟨Kh73, f_h73⟩ := ph73
      have Ih73 := hI.tr Kh73 sb_prF_prC
      have th73_43_0 := Kh73.2 (43) 0 rfl
      have th73_43_4 := Kh73.2 (43) 4 rfl
      refine sx_ret dX2_readUnit_27 ?_
      exact ⟨rfl, Ih73⟩
  ·
    refine sx_ret dX2_readUnit_10 ?_
    exact ⟨rfl, hI⟩
set_option maxRecDepth 20000 in
set_option maxHeartbeats 4000000 in
theorem o_X2_readNot {G : sw_G} (d : Nat) {h0 : sw_H} (hJ : cJ h0) (hs : h0 43 0 = 34) (dp : Int) (hdp : 0 ≤ dp ∧ dp ≤ 7) (hLa : dp ≤ 6 → ∀ (h1 : sw_H), cJ h1 → h1 43 0 = 34 → sw_E G NH SH (d + 10) mX2_readLevel 0 [some (sw_r 43), some (sw_i 2), some (sw_i (dp + 1)), none, none, none] [] h1 (sw_Qv (fun h' => cK prF h1 h'))) : sw_E G NH SH (d + 11) mX2_readNot 0 [some (sw_r 43), some (sw_i dp)] [] h0 (sw_Qv (fun h' => cK prF h0 h')) := by
  have hI : cK prF h0 h0 := cK.refl hJ
  refine sx_iload_n dX2_readNot_0 rfl ?_
  refine sx_bipush dX2_readNot_1 ⟨by decide, by decide, by decide⟩ ?_
  refine sx_icmp_le (tgt := 14) dX2_readNot_3 (by decide) (fun c1 => ?_) (fun c1 => ?_)
  ·
    refine sx_aload_n dX2_readNot_14 rfl ?_
    refine sx_getR (k := 0) (t := 34) cl_2 fl_X2_18 dX2_readNot_15 s_43 (by decide) rfl (by decide) (by omega) ?_
    refine sx_callVv lk_X2_53 cl_5 s_34 (by decide) dX2_readNot_18 (vs := []) rfl rfl (Nat.le_of_ble_eq_true rfl) (Nat.le_of_ble_eq_true rfl) rfl (c_X5_advance _ hI.1) (fun h2 ph2 => ?_)
    have Kh2 := ph2
    have Ih2 := hI.tr Kh2 sb_prF_prC
    have th2_43_0 := Kh2.2 (43) 0 rfl
    refine sx_aload_n dX2_readNot_21 rfl ?_
    refine sx_iconst dX2_readNot_22 ⟨by decide, by decide⟩ ?_
    refine sx_iload_n dX2_readNot_23 rfl ?_
    refine sx_iconst dX2_readNot_24 ⟨by decide, by decide⟩ ?_
    refine sx_iadd dX2_readNot_25 ?_
    refine sy_topw (by omega) ?_
    refine sx_callVv lk_X2_42 cl_2 s_43 (by decide) dX2_readNot_26 (vs := [_, _]) rfl rfl (Nat.le_of_ble_eq_true rfl) (Nat.le_of_ble_eq_true rfl) rfl (hLa (by omega) _ Ih2.1 (by omega)) (fun h4 ph4 => ?_)
    have Kh4 := ph4
    have Ih4 := Ih2.tr Kh4 sb_prF_prF
    have th4_43_0 := Kh4.2 (43) 0 rfl
    refine sx_aload_n dX2_readNot_29 rfl ?_
    refine sx_bipush dX2_readNot_30 ⟨by decide, by decide, by decide⟩ ?_
    refine sx_callVv lk_X2_56 cl_2 s_43 (by decide) dX2_readNot_32 (vs := [_]) rfl rfl (Nat.le_of_ble_eq_true rfl) (Nat.le_of_ble_eq_true rfl) rfl (c_X2_append _ Ih4.1 _) (fun h6 ph6 => ?_)
    have Kh6 := ph6
    have Ih6 := Ih4.tr Kh6 sb_prF_prF
    have th6_43_0 := Kh6.2 (43) 0 rfl
    refine sx_ret dX2_readNot_35 ?_
    exact ⟨rfl, Ih6⟩
  ·
    refine sx_aload_n dX2_readNot_6 rfl ?_
    refine sx_getR (k := 0) (t := 34) cl_2 fl_X2_18 dX2_readNot_7 s_43 (by decide) rfl (by decide) (by omega) ?_
    refine sx_callVv lk_X2_59 cl_5 s_34 (by decide) dX2_readNot_10 (vs := []) rfl rfl (Nat.le_of_ble_eq_true rfl) (Nat.le_of_ble_eq_true rfl) rfl (c_X5_refuse _ hI.1) (fun h8 ph8 => ?_)
    obtain ⟨Kh8, f_h8⟩ := ph8
    have Ih8 := hI.tr Kh8 sb_prF_prC
    have th8_43_0 := Kh8.2 (43) 0 rfl
    refine sx_ret dX2_readNot_13 ?_
    exact ⟨rfl, Ih8⟩
set_option maxRecDepth 20000 in
set_option maxHeartbeats 4000000 in
theorem o_X2_readLevel {G : sw_G} (d : Nat) {h0 : sw_H} (hJ : cJ h0) (hs : h0 43 0 = 34) (l dp : Int) (hl : 0 ≤ l ∧ l ≤ 5) (hdp : 0 ≤ dp ∧ dp ≤ 7) (hLa : l ≤ 4 → ∀ (h1 : sw_H), cJ h1 → h1 43 0 = 34 → sw_E G NH SH (d + 10) mX2_readLevel 0 [some (sw_r 43), some (sw_i (l + 1)), some (sw_i dp), none, none, none] [] h1 (sw_Qv (fun h' => cK prF h1 h'))) (hU : 5 ≤ l → ∀ (h1 : sw_H), cJ h1 → h1 43 0 = 34 → sw_E G NH SH (d + 10) mX2_readUnit 0 [some (sw_r 43), some (sw_i dp)] [] h1 (sw_Qv (fun h' => cK prF h1 h'))) (hN : l = 2 → ∀ (h1 : sw_H), cJ h1 → h1 43 0 = 34 → sw_E G NH SH (d + 10) mX2_readNot 0 [some (sw_r 43), some (sw_i dp)] [] h1 (sw_Qv (fun h' => cK prF h1 h'))) : sw_E G NH SH (d + 11) mX2_readLevel 0 [some (sw_r 43), some (sw_i l), some (sw_i dp), none, none, none] [] h0 (sw_Qv (fun h' => cK prF h0 h')) := by
  have hI : cK prF h0 h0 := cK.refl hJ
  refine sx_iload_n dX2_readLevel_0 rfl ?_
  refine sx_iconst dX2_readLevel_1 ⟨by decide, by decide⟩ ?_
  refine sx_icmp_lt (tgt := 11) dX2_readLevel_2 (by decide) (fun c1 => ?_) (fun c1 => ?_)
  ·
    refine sx_iload_n dX2_readLevel_11 rfl ?_
    refine sx_iconst dX2_readLevel_12 ⟨by decide, by decide⟩ ?_
    refine sx_icmp_ne (tgt := 34) dX2_readLevel_13 (by decide) (fun c2 => ?_) (fun c2 => ?_)
    ·
      refine sx_aload_n dX2_readLevel_34 rfl ?_
      refine sx_iload_n dX2_readLevel_35 rfl ?_
      refine sx_iconst dX2_readLevel_36 ⟨by decide, by decide⟩ ?_
      refine sx_iadd dX2_readLevel_37 ?_
      refine sy_topw (by omega) ?_
      refine sx_iload_n dX2_readLevel_38 rfl ?_
      refine sx_callVv lk_X2_42 cl_2 s_43 (by decide) dX2_readLevel_39 (vs := [_, _]) rfl rfl (Nat.le_of_ble_eq_true rfl) (Nat.le_of_ble_eq_true rfl) rfl (hLa (by omega) _ hI.1 (by omega)) (fun h3 ph3 => ?_)
      have Kh3 := ph3
      have Ih3 := hI.tr Kh3 sb_prF_prF
      have th3_43_0 := Kh3.2 (43) 0 rfl
      refine sx_iload_n dX2_readLevel_42 rfl ?_
      refine sx_iconst dX2_readLevel_43 ⟨by decide, by decide⟩ ?_
      refine sx_icmp_ne (tgt := 51) dX2_readLevel_44 (by decide) (fun c5 => ?_) (fun c5 => ?_)
      ·
        refine sx_bipush dX2_readLevel_51 ⟨by decide, by decide, by decide⟩ ?_
        refine sx_istore_n dX2_readLevel_53 (by decide) ?_
        refine sx_iconst dX2_readLevel_54 ⟨by decide, by decide⟩ ?_
        refine sx_istore dX2_readLevel_55 (by decide) ?_
        refine sx_loop1 (fun (h : sw_H) (n : Int) => (cK prF h0 h) ∧ (h 43 0 = 34) ∧ (0 ≤ n)) (fun (h : sw_H) (n : Int) => (30 - n).toNat) (fun (h : sw_H) (n : Int) => sw_E G NH SH (d + 11) mX2_readLevel 57 [some (sw_r 43), some (sw_i l), some (sw_i dp), some (sw_i 30), some (sw_i n), none] [] h (sw_Qv (fun h' => cK prF h0 h'))) ?_ _ _ ?_
        · rintro h6 n_7 ⟨Ih6, j8, j9⟩ ihh6
          try dsimp only at ihh6
          refine sx_iload dX2_readLevel_57 rfl ?_
          refine sx_iload_n dX2_readLevel_59 rfl ?_
          refine sx_icmp_ge (tgt := 114) dX2_readLevel_60 (by decide) (fun c10 => ?_) (fun c10 => ?_)
          ·
            refine sx_ret dX2_readLevel_114 ?_
            exact ⟨rfl, Ih6⟩
          ·
            refine sx_aload_n dX2_readLevel_63 rfl ?_
            refine sx_getR (k := 0) (t := 34) cl_2 fl_X2_18 dX2_readLevel_64 s_43 (by decide) rfl (by decide) (by omega) ?_
            refine sx_getI (k := 7) cl_5 fl_X2_46 dX2_readLevel_67 s_34 (by decide) rfl (by decide) ?_
            refine sx_if_ne (tgt := 114) dX2_readLevel_70 (by decide) (fun c11 => ?_) (fun c11 => ?_)
            ·
              refine sx_ret dX2_readLevel_114 ?_
              exact ⟨rfl, Ih6⟩
            ·
              refine sx_aload_n dX2_readLevel_73 rfl ?_
              refine sx_iload_n dX2_readLevel_74 rfl ?_
              refine sx_callVi lk_X2_49 cl_2 s_43 (by decide) dX2_readLevel_75 (vs := [_]) rfl rfl (Nat.le_of_ble_eq_true rfl) (Nat.le_of_ble_eq_true rfl) rfl (c_X2_operatorOf _ Ih6.1 (by omega) _) (fun x13 h12 ph12 => ?_)
              subst ph12
              refine sx_istore dX2_readLevel_78 (by decide) ?_
              refine sx_iload dX2_readLevel_80 rfl ?_
              refine sx_iconst dX2_readLevel_82 ⟨by decide, by decide⟩ ?_
              refine sx_icmp_ne (tgt := 87) dX2_readLevel_83 (by decide) (fun c14 => ?_) (fun c14 => ?_)
              ·
                refine sx_aload_n dX2_readLevel_87 rfl ?_
                refine sx_getR (k := 0) (t := 34) cl_2 fl_X2_18 dX2_readLevel_88 s_43 (by decide) rfl (by decide) (by omega) ?_
                refine sx_callVv lk_X2_53 cl_5 s_34 (by decide) dX2_readLevel_91 (vs := []) rfl rfl (Nat.le_of_ble_eq_true rfl) (Nat.le_of_ble_eq_true rfl) rfl (c_X5_advance _ Ih6.1) (fun h15 ph15 => ?_)
                have Kh15 := ph15
                have Ih15 := Ih6.tr Kh15 sb_prF_prC
                have th15_43_0 := Kh15.2 (43) 0 rfl
                refine sx_aload_n dX2_readLevel_94 rfl ?_
                refine sx_iload_n dX2_readLevel_95 rfl ?_
                refine sx_iconst dX2_readLevel_96 ⟨by decide, by decide⟩ ?_
                refine sx_iadd dX2_readLevel_97 ?_
                refine sy_topw (by omega) ?_
                refine sx_iload_n dX2_readLevel_98 rfl ?_
                refine sx_callVv lk_X2_42 cl_2 s_43 (by decide) dX2_readLevel_99 (vs := [_, _]) rfl rfl (Nat.le_of_ble_eq_true rfl) (Nat.le_of_ble_eq_true rfl) rfl (hLa (by omega) _ Ih15.1 (by omega)) (fun h17 ph17 => ?_)
                have Kh17 := ph17
                have Ih17 := Ih15.tr Kh17 sb_prF_prF
                have th17_43_0 := Kh17.2 (43) 0 rfl
                refine sx_aload_n dX2_readLevel_102 rfl ?_
                refine sx_iload dX2_readLevel_103 rfl ?_
                refine sx_callVv lk_X2_56 cl_2 s_43 (by decide) dX2_readLevel_105 (vs := [_]) rfl rfl (Nat.le_of_ble_eq_true rfl) (Nat.le_of_ble_eq_true rfl) rfl (c_X2_append _ Ih17.1 _) (fun h19 ph19 => ?_)
                have Kh19 := ph19
                have Ih19 := Ih17.tr Kh19 sb_prF_prF
                have th19_43_0 := Kh19.2 (43) 0 rfl
                refine sx_iinc dX2_readLevel_108 (by decide) rfl ?_
                rw [sw_w_id (by omega) (by omega)]
                refine sx_goto (tgt := 57) dX2_readLevel_111 (by decide) ?_
                refine sx_kill 5 ?_
                exact ihh6 _ _ ⟨Ih19, by omega, by omega⟩ (by exact sy_dec (by omega) (by omega))
              ·
                refine sx_ret dX2_readLevel_86 ?_
                exact ⟨rfl, Ih6⟩
        · exact ⟨Ih3, by omega, by omega⟩
      ·
        refine sx_iconst dX2_readLevel_47 ⟨by decide, by decide⟩ ?_
        refine sx_goto (tgt := 53) dX2_readLevel_48 (by decide) ?_
        refine sx_istore_n dX2_readLevel_53 (by decide) ?_
        refine sx_iconst dX2_readLevel_54 ⟨by decide, by decide⟩ ?_
        refine sx_istore dX2_readLevel_55 (by decide) ?_
        refine sx_loop1 (fun (h : sw_H) (n : Int) => (cK prF h0 h) ∧ (h 43 0 = 34) ∧ (0 ≤ n)) (fun (h : sw_H) (n : Int) => (30 - n).toNat) (fun (h : sw_H) (n : Int) => sw_E G NH SH (d + 11) mX2_readLevel 57 [some (sw_r 43), some (sw_i l), some (sw_i dp), some (sw_i 1), some (sw_i n), none] [] h (sw_Qv (fun h' => cK prF h0 h'))) ?_ _ _ ?_
        · rintro h21 n_22 ⟨Ih21, j23, j24⟩ ihh21
          try dsimp only at ihh21
          refine sx_iload dX2_readLevel_57 rfl ?_
          refine sx_iload_n dX2_readLevel_59 rfl ?_
          refine sx_icmp_ge (tgt := 114) dX2_readLevel_60 (by decide) (fun c25 => ?_) (fun c25 => ?_)
          ·
            refine sx_ret dX2_readLevel_114 ?_
            exact ⟨rfl, Ih21⟩
          ·
            refine sx_aload_n dX2_readLevel_63 rfl ?_
            refine sx_getR (k := 0) (t := 34) cl_2 fl_X2_18 dX2_readLevel_64 s_43 (by decide) rfl (by decide) (by omega) ?_
            refine sx_getI (k := 7) cl_5 fl_X2_46 dX2_readLevel_67 s_34 (by decide) rfl (by decide) ?_
            refine sx_if_ne (tgt := 114) dX2_readLevel_70 (by decide) (fun c26 => ?_) (fun c26 => ?_)
            ·
              refine sx_ret dX2_readLevel_114 ?_
              exact ⟨rfl, Ih21⟩
            ·
              refine sx_aload_n dX2_readLevel_73 rfl ?_
              refine sx_iload_n dX2_readLevel_74 rfl ?_
              refine sx_callVi lk_X2_49 cl_2 s_43 (by decide) dX2_readLevel_75 (vs := [_]) rfl rfl (Nat.le_of_ble_eq_true rfl) (Nat.le_of_ble_eq_true rfl) rfl (c_X2_operatorOf _ Ih21.1 (by omega) _) (fun x28 h27 ph27 => ?_)
              subst ph27
              refine sx_istore dX2_readLevel_78 (by decide) ?_
              refine sx_iload dX2_readLevel_80 rfl ?_
              refine sx_iconst dX2_readLevel_82 ⟨by decide, by decide⟩ ?_
              refine sx_icmp_ne (tgt := 87) dX2_readLevel_83 (by decide) (fun c29 => ?_) (fun c29 => ?_)
              ·
                refine sx_aload_n dX2_readLevel_87 rfl ?_
                refine sx_getR (k := 0) (t := 34) cl_2 fl_X2_18 dX2_readLevel_88 s_43 (by decide) rfl (by decide) (by omega) ?_
                refine sx_callVv lk_X2_53 cl_5 s_34 (by decide) dX2_readLevel_91 (vs := []) rfl rfl (Nat.le_of_ble_eq_true rfl) (Nat.le_of_ble_eq_true rfl) rfl (c_X5_advance _ Ih21.1) (fun h30 ph30 => ?_)
                have Kh30 := ph30
                have Ih30 := Ih21.tr Kh30 sb_prF_prC
                have th30_43_0 := Kh30.2 (43) 0 rfl
                refine sx_aload_n dX2_readLevel_94 rfl ?_
                refine sx_iload_n dX2_readLevel_95 rfl ?_
                refine sx_iconst dX2_readLevel_96 ⟨by decide, by decide⟩ ?_
                refine sx_iadd dX2_readLevel_97 ?_
                refine sy_topw (by omega) ?_
                refine sx_iload_n dX2_readLevel_98 rfl ?_
                refine sx_callVv lk_X2_42 cl_2 s_43 (by decide) dX2_readLevel_99 (vs := [_, _]) rfl rfl (Nat.le_of_ble_eq_true rfl) (Nat.le_of_ble_eq_true rfl) rfl (hLa (by omega) _ Ih30.1 (by omega)) (fun h32 ph32 => ?_)
                have Kh32 := ph32
                have Ih32 := Ih30.tr Kh32 sb_prF_prF
                have th32_43_0 := Kh32.2 (43) 0 rfl
                refine sx_aload_n dX2_readLevel_102 rfl ?_
                refine sx_iload dX2_readLevel_103 rfl ?_
                refine sx_callVv lk_X2_56 cl_2 s_43 (by decide) dX2_readLevel_105 (vs := [_]) rfl rfl (Nat.le_of_ble_eq_true rfl) (Nat.le_of_ble_eq_true rfl) rfl (c_X2_append _ Ih32.1 _) (fun h34 ph34 => ?_)
                have Kh34 := ph34
                have Ih34 := Ih32.tr Kh34 sb_prF_prF
                have th34_43_0 := Kh34.2 (43) 0 rfl
                refine sx_iinc dX2_readLevel_108 (by decide) rfl ?_
                rw [sw_w_id (by omega) (by omega)]
                refine sx_goto (tgt := 57) dX2_readLevel_111 (by decide) ?_
                refine sx_kill 5 ?_
                exact ihh21 _ _ ⟨Ih34, by omega, by omega⟩ (by exact sy_dec (by omega) (by omega))
              ·
                refine sx_ret dX2_readLevel_86 ?_
                exact ⟨rfl, Ih21⟩
        · exact ⟨Ih3, by omega, by omega⟩
    ·
      refine sx_aload_n dX2_readLevel_16 rfl ?_
      refine sx_getR (k := 0) (t := 34) cl_2 fl_X2_18 dX2_readLevel_17 s_43 (by decide) rfl (by decide) (by omega) ?_
      refine sx_bipush dX2_readLevel_20 ⟨by decide, by decide, by decide⟩ ?_
      refine sx_callVz lk_X2_33 cl_5 s_34 (by decide) dX2_readLevel_22 (vs := [_]) rfl rfl (Nat.le_of_ble_eq_true rfl) (Nat.le_of_ble_eq_true rfl) rfl (c_X5_isKey _ hI.1 _) (fun x37 h36 zx37 ph36 => ?_)
      subst ph36
      refine sx_if_eq (tgt := 34) dX2_readLevel_25 (by decide) (fun c38 => ?_) (fun c38 => ?_)
      ·
        refine sx_aload_n dX2_readLevel_34 rfl ?_
        refine sx_iload_n dX2_readLevel_35 rfl ?_
        refine sx_iconst dX2_readLevel_36 ⟨by decide, by decide⟩ ?_
        refine sx_iadd dX2_readLevel_37 ?_
        refine sy_topw (by omega) ?_
        refine sx_iload_n dX2_readLevel_38 rfl ?_
        refine sx_callVv lk_X2_42 cl_2 s_43 (by decide) dX2_readLevel_39 (vs := [_, _]) rfl rfl (Nat.le_of_ble_eq_true rfl) (Nat.le_of_ble_eq_true rfl) rfl (hLa (by omega) _ hI.1 (by omega)) (fun h39 ph39 => ?_)
        have Kh39 := ph39
        have Ih39 := hI.tr Kh39 sb_prF_prF
        have th39_43_0 := Kh39.2 (43) 0 rfl
        refine sx_iload_n dX2_readLevel_42 rfl ?_
        refine sx_iconst dX2_readLevel_43 ⟨by decide, by decide⟩ ?_
        refine sx_icmp_ne (tgt := 51) dX2_readLevel_44 (by decide) (fun c41 => ?_) (fun c41 => ?_)
        ·
          refine sx_bipush dX2_readLevel_51 ⟨by decide, by decide, by decide⟩ ?_
          refine sx_istore_n dX2_readLevel_53 (by decide) ?_
          refine sx_iconst dX2_readLevel_54 ⟨by decide, by decide⟩ ?_
          refine sx_istore dX2_readLevel_55 (by decide) ?_
          refine sx_loop1 (fun (h : sw_H) (n : Int) => (cK prF h0 h) ∧ (h 43 0 = 34) ∧ (0 ≤ n)) (fun (h : sw_H) (n : Int) => (30 - n).toNat) (fun (h : sw_H) (n : Int) => sw_E G NH SH (d + 11) mX2_readLevel 57 [some (sw_r 43), some (sw_i l), some (sw_i dp), some (sw_i 30), some (sw_i n), none] [] h (sw_Qv (fun h' => cK prF h0 h'))) ?_ _ _ ?_
          · rintro h42 n_43 ⟨Ih42, j44, j45⟩ ihh42
            try dsimp only at ihh42
            refine sx_iload dX2_readLevel_57 rfl ?_
            refine sx_iload_n dX2_readLevel_59 rfl ?_
            refine sx_icmp_ge (tgt := 114) dX2_readLevel_60 (by decide) (fun c46 => ?_) (fun c46 => ?_)
            ·
              refine sx_ret dX2_readLevel_114 ?_
              exact ⟨rfl, Ih42⟩
            ·
              refine sx_aload_n dX2_readLevel_63 rfl ?_
              refine sx_getR (k := 0) (t := 34) cl_2 fl_X2_18 dX2_readLevel_64 s_43 (by decide) rfl (by decide) (by omega) ?_
              refine sx_getI (k := 7) cl_5 fl_X2_46 dX2_readLevel_67 s_34 (by decide) rfl (by decide) ?_
              refine sx_if_ne (tgt := 114) dX2_readLevel_70 (by decide) (fun c47 => ?_) (fun c47 => ?_)
              ·
                refine sx_ret dX2_readLevel_114 ?_
                exact ⟨rfl, Ih42⟩
              ·
                refine sx_aload_n dX2_readLevel_73 rfl ?_
                refine sx_iload_n dX2_readLevel_74 rfl ?_
                refine sx_callVi lk_X2_49 cl_2 s_43 (by decide) dX2_readLevel_75 (vs := [_]) rfl rfl (Nat.le_of_ble_eq_true rfl) (Nat.le_of_ble_eq_true rfl) rfl (c_X2_operatorOf _ Ih42.1 (by omega) _) (fun x49 h48 ph48 => ?_)
                subst ph48
                refine sx_istore dX2_readLevel_78 (by decide) ?_
                refine sx_iload dX2_readLevel_80 rfl ?_
                refine sx_iconst dX2_readLevel_82 ⟨by decide, by decide⟩ ?_
                refine sx_icmp_ne (tgt := 87) dX2_readLevel_83 (by decide) (fun c50 => ?_) (fun c50 => ?_)
                ·
                  refine sx_aload_n dX2_readLevel_87 rfl ?_
                  refine sx_getR (k := 0) (t := 34) cl_2 fl_X2_18 dX2_readLevel_88 s_43 (by decide) rfl (by decide) (by omega) ?_
                  refine sx_callVv lk_X2_53 cl_5 s_34 (by decide) dX2_readLevel_91 (vs := []) rfl rfl (Nat.le_of_ble_eq_true rfl) (Nat.le_of_ble_eq_true rfl) rfl (c_X5_advance _ Ih42.1) (fun h51 ph51 => ?_)
                  have Kh51 := ph51
                  have Ih51 := Ih42.tr Kh51 sb_prF_prC
                  have th51_43_0 := Kh51.2 (43) 0 rfl
                  refine sx_aload_n dX2_readLevel_94 rfl ?_
                  refine sx_iload_n dX2_readLevel_95 rfl ?_
                  refine sx_iconst dX2_readLevel_96 ⟨by decide, by decide⟩ ?_
                  refine sx_iadd dX2_readLevel_97 ?_
                  refine sy_topw (by omega) ?_
                  refine sx_iload_n dX2_readLevel_98 rfl ?_
                  refine sx_callVv lk_X2_42 cl_2 s_43 (by decide) dX2_readLevel_99 (vs := [_, _]) rfl rfl (Nat.le_of_ble_eq_true rfl) (Nat.le_of_ble_eq_true rfl) rfl (hLa (by omega) _ Ih51.1 (by omega)) (fun h53 ph53 => ?_)
                  have Kh53 := ph53
                  have Ih53 := Ih51.tr Kh53 sb_prF_prF
                  have th53_43_0 := Kh53.2 (43) 0 rfl
                  refine sx_aload_n dX2_readLevel_102 rfl ?_
                  refine sx_iload dX2_readLevel_103 rfl ?_
                  refine sx_callVv lk_X2_56 cl_2 s_43 (by decide) dX2_readLevel_105 (vs := [_]) rfl rfl (Nat.le_of_ble_eq_true rfl) (Nat.le_of_ble_eq_true rfl) rfl (c_X2_append _ Ih53.1 _) (fun h55 ph55 => ?_)
                  have Kh55 := ph55
                  have Ih55 := Ih53.tr Kh55 sb_prF_prF
                  have th55_43_0 := Kh55.2 (43) 0 rfl
                  refine sx_iinc dX2_readLevel_108 (by decide) rfl ?_
                  rw [sw_w_id (by omega) (by omega)]
                  refine sx_goto (tgt := 57) dX2_readLevel_111 (by decide) ?_
                  refine sx_kill 5 ?_
                  exact ihh42 _ _ ⟨Ih55, by omega, by omega⟩ (by exact sy_dec (by omega) (by omega))
                ·
                  refine sx_ret dX2_readLevel_86 ?_
                  exact ⟨rfl, Ih42⟩
          · exact ⟨Ih39, by omega, by omega⟩
        ·
          refine sx_iconst dX2_readLevel_47 ⟨by decide, by decide⟩ ?_
          refine sx_goto (tgt := 53) dX2_readLevel_48 (by decide) ?_
          refine sx_istore_n dX2_readLevel_53 (by decide) ?_
          refine sx_iconst dX2_readLevel_54 ⟨by decide, by decide⟩ ?_
          refine sx_istore dX2_readLevel_55 (by decide) ?_
          refine sx_loop1 (fun (h : sw_H) (n : Int) => (cK prF h0 h) ∧ (h 43 0 = 34) ∧ (0 ≤ n)) (fun (h : sw_H) (n : Int) => (30 - n).toNat) (fun (h : sw_H) (n : Int) => sw_E G NH SH (d + 11) mX2_readLevel 57 [some (sw_r 43), some (sw_i l), some (sw_i dp), some (sw_i 1), some (sw_i n), none] [] h (sw_Qv (fun h' => cK prF h0 h'))) ?_ _ _ ?_
          · rintro h57 n_58 ⟨Ih57, j59, j60⟩ ihh57
            try dsimp only at ihh57
            refine sx_iload dX2_readLevel_57 rfl ?_
            refine sx_iload_n dX2_readLevel_59 rfl ?_
            refine sx_icmp_ge (tgt := 114) dX2_readLevel_60 (by decide) (fun c61 => ?_) (fun c61 => ?_)
            ·
              refine sx_ret dX2_readLevel_114 ?_
              exact ⟨rfl, Ih57⟩
            ·
              refine sx_aload_n dX2_readLevel_63 rfl ?_
              refine sx_getR (k := 0) (t := 34) cl_2 fl_X2_18 dX2_readLevel_64 s_43 (by decide) rfl (by decide) (by omega) ?_
              refine sx_getI (k := 7) cl_5 fl_X2_46 dX2_readLevel_67 s_34 (by decide) rfl (by decide) ?_
              refine sx_if_ne (tgt := 114) dX2_readLevel_70 (by decide) (fun c62 => ?_) (fun c62 => ?_)
              ·
                refine sx_ret dX2_readLevel_114 ?_
                exact ⟨rfl, Ih57⟩
              ·
                refine sx_aload_n dX2_readLevel_73 rfl ?_
                refine sx_iload_n dX2_readLevel_74 rfl ?_
                refine sx_callVi lk_X2_49 cl_2 s_43 (by decide) dX2_readLevel_75 (vs := [_]) rfl rfl (Nat.le_of_ble_eq_true rfl) (Nat.le_of_ble_eq_true rfl) rfl (c_X2_operatorOf _ Ih57.1 (by omega) _) (fun x64 h63 ph63 => ?_)
                subst ph63
                refine sx_istore dX2_readLevel_78 (by decide) ?_
                refine sx_iload dX2_readLevel_80 rfl ?_
                refine sx_iconst dX2_readLevel_82 ⟨by decide, by decide⟩ ?_
                refine sx_icmp_ne (tgt := 87) dX2_readLevel_83 (by decide) (fun c65 => ?_) (fun c65 => ?_)
                ·
                  refine sx_aload_n dX2_readLevel_87 rfl ?_
                  refine sx_getR (k := 0) (t := 34) cl_2 fl_X2_18 dX2_readLevel_88 s_43 (by decide) rfl (by decide) (by omega) ?_
                  refine sx_callVv lk_X2_53 cl_5 s_34 (by decide) dX2_readLevel_91 (vs := []) rfl rfl (Nat.le_of_ble_eq_true rfl) (Nat.le_of_ble_eq_true rfl) rfl (c_X5_advance _ Ih57.1) (fun h66 ph66 => ?_)
                  have Kh66 := ph66
                  have Ih66 := Ih57.tr Kh66 sb_prF_prC
                  have th66_43_0 := Kh66.2 (43) 0 rfl
                  refine sx_aload_n dX2_readLevel_94 rfl ?_
                  refine sx_iload_n dX2_readLevel_95 rfl ?_
                  refine sx_iconst dX2_readLevel_96 ⟨by decide, by decide⟩ ?_
                  refine sx_iadd dX2_readLevel_97 ?_
                  refine sy_topw (by omega) ?_
                  refine sx_iload_n dX2_readLevel_98 rfl ?_
                  refine sx_callVv lk_X2_42 cl_2 s_43 (by decide) dX2_readLevel_99 (vs := [_, _]) rfl rfl (Nat.le_of_ble_eq_true rfl) (Nat.le_of_ble_eq_true rfl) rfl (hLa (by omega) _ Ih66.1 (by omega)) (fun h68 ph68 => ?_)
                  have Kh68 := ph68
                  have Ih68 := Ih66.tr Kh68 sb_prF_prF
                  have th68_43_0 := Kh68.2 (43) 0 rfl
                  refine sx_aload_n dX2_readLevel_102 rfl ?_
                  refine sx_iload dX2_readLevel_103 rfl ?_
                  refine sx_callVv lk_X2_56 cl_2 s_43 (by decide) dX2_readLevel_105 (vs := [_]) rfl rfl (Nat.le_of_ble_eq_true rfl) (Nat.le_of_ble_eq_true rfl) rfl (c_X2_append _ Ih68.1 _) (fun h70 ph70 => ?_)
                  have Kh70 := ph70
                  have Ih70 := Ih68.tr Kh70 sb_prF_prF
                  have th70_43_0 := Kh70.2 (43) 0 rfl
                  refine sx_iinc dX2_readLevel_108 (by decide) rfl ?_
                  rw [sw_w_id (by omega) (by omega)]
                  refine sx_goto (tgt := 57) dX2_readLevel_111 (by decide) ?_
                  refine sx_kill 5 ?_
                  exact ihh57 _ _ ⟨Ih70, by omega, by omega⟩ (by exact sy_dec (by omega) (by omega))
                ·
                  refine sx_ret dX2_readLevel_86 ?_
                  exact ⟨rfl, Ih57⟩
          · exact ⟨Ih39, by omega, by omega⟩
      ·
        refine sx_aload_n dX2_readLevel_28 rfl ?_
        refine sx_iload_n dX2_readLevel_29 rfl ?_
        refine sx_callVv lk_X2_39 cl_2 s_43 (by decide) dX2_readLevel_30 (vs := [_]) rfl rfl (Nat.le_of_ble_eq_true rfl) (Nat.le_of_ble_eq_true rfl) rfl (hN (by omega) _ hI.1 (by omega)) (fun h72 ph72 => ?_)
        have Kh72 := ph72
        have Ih72 := hI.tr Kh72 sb_prF_prF
        have th72_43_0 := Kh72.2 (43) 0 rfl
        refine sx_ret dX2_readLevel_33 ?_
        exact ⟨rfl, Ih72⟩
  ·
    refine sx_aload_n dX2_readLevel_5 rfl ?_
    refine sx_iload_n dX2_readLevel_6 rfl ?_
    refine sx_callVv lk_X2_29 cl_2 s_43 (by decide) dX2_readLevel_7 (vs := [_]) rfl rfl (Nat.le_of_ble_eq_true rfl) (Nat.le_of_ble_eq_true rfl) rfl (hU (by omega) _ hI.1 (by omega)) (fun h74 ph74 => ?_)
    have Kh74 := ph74
    have Ih74 := hI.tr Kh74 sb_prF_prF
    have th74_43_0 := Kh74.2 (43) 0 rfl
    refine sx_ret dX2_readLevel_10 ?_
    exact ⟨rfl, Ih74⟩
theorem c_X2_readLevel {G : sw_G} : ∀ (n d : Nat) {h0 : sw_H} (_ : cJ h0) (_ : h0 43 0 = 34) (l dp : Int) (_ : 0 ≤ l ∧ l ≤ 5) (_ : 0 ≤ dp ∧ dp ≤ 7) (_ : 8 * (8 - dp) + 7 - l ≤ n), sw_E G NH SH (d + 2 * n + 11) mX2_readLevel 0 [some (sw_r 43), some (sw_i l), some (sw_i dp), none, none, none] [] h0 (sw_Qv (fun h' => cK prF h0 h')) := by
  intro n
  induction n with
  | zero =>
    intro d h0 hJ hs l dp hl hdp hm
    exact absurd hm (by omega)
  | succ n ih =>
    intro d h0 hJ hs l dp hl hdp hm
    exact o_X2_readLevel (d + 2 * n + 2) hJ hs l dp hl hdp
      (fun hl4 h1 hJ1 hs1 => (ih (d + 1) hJ1 hs1 (l + 1) dp (by omega) hdp (by omega)).deeper (by omega))
      (fun hl5 h1 hJ1 hs1 => o_X2_readUnit (d + 2 * n + 1) hJ1 hs1 dp hdp (fun h6 h2 hJ2 hs2 => ih d hJ2 hs2 0 (dp + 1) (by omega) (by omega) (by omega)))
      (fun hl2 h1 hJ1 hs1 => o_X2_readNot (d + 2 * n + 1) hJ1 hs1 dp hdp (fun h6 h2 hJ2 hs2 => ih d hJ2 hs2 2 (dp + 1) (by omega) (by omega) (by omega)))

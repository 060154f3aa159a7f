set_option maxRecDepth 20000 in
set_option maxHeartbeats 4000000 in
theorem o_X4_doItem_25_1 {G : sw_G} (d : Nat) {h0 : sw_H} (hJ : cJ h0) (o : Nat) (hom : o ∈ stL) (hc : h0 25 0 = 1) (hs : h0 25 1 = (o : Int)) (dp : Int) (hdp : 0 ≤ dp) (hgo : dp < 6 → ∀ (h1 : sw_H), cJ h1 → h1 25 0 = 1 → h1 25 1 = (o : Int) → ∀ a b : Int, b ≤ 60 → sw_E G NH SH d mX4_goOver 0 [some (sw_r 25), some (sw_i a), some (sw_i b), some (sw_i (dp + 1)), none] [] h1 (sw_Qv (fun h' => cK prE h1 h' ∧ h' 25 2 ≤ h1 25 2))) (i : Int) (hi : 0 ≤ i ∧ i < 60) : sw_E G NH SH (d + 1) mX4_doItem 0 [some (sw_r 25), some (sw_i i), some (sw_i dp), none, none] [] h0 (sw_Qi (fun z h' => cK prE h0 h' ∧ h' 25 2 ≤ h0 25 2)) := by
  have hI : cK prE h0 h0 := cK.refl hJ
  obtain ⟨So0, So1, So2, bo⟩ := s_St o hom
  have Bo0 : o < NH := show o < 290 by omega
  have Bo1 : o + 1 < NH := show o + 1 < 290 by omega
  have Bo2 : o + 2 < NH := show o + 2 < 290 by omega
  have rw : (0 : Int) ≤ h0 1 0 ∧ h0 1 0 ≤ 6 := hI.1.1 1 0
  refine sx_aload_n dX4_doItem_0 rfl ?_
  refine sx_getR (k := 0) (t := 1) cl_4 fl_X4_34 dX4_doItem_1 s_25 (by decide) rfl (by decide) (by omega) ?_
  refine sx_getS (k := 6) (t := 3) cl_0 fl_X4_54 dX4_doItem_4 s_1 (by decide) rfl (by decide) ?_
  refine sx_iload_n dX4_doItem_7 rfl ?_
  refine sx_iaload dX4_doItem_8 s_3 (by decide) (by decide) ⟨by omega, by omega⟩ ?_
  refine sy_top (fun v1 ev1 => ?_)
  refine sx_istore_n dX4_doItem_9 (by decide) ?_
  refine sx_aload_n dX4_doItem_10 rfl ?_
  refine sx_getR (k := 0) (t := 1) cl_4 fl_X4_34 dX4_doItem_11 s_25 (by decide) rfl (by decide) (by omega) ?_
  refine sx_getS (k := 5) (t := 2) cl_0 fl_X4_57 dX4_doItem_14 s_1 (by decide) rfl (by decide) ?_
  refine sx_iload_n dX4_doItem_17 rfl ?_
  refine sx_iaload dX4_doItem_18 s_2 (by decide) (by decide) ⟨by omega, by omega⟩ ?_
  refine sx_tsw (dt := 230) (ts := [64, 76, 88, 136, 164, 230, 176, 187]) dX4_doItem_19 (by decide) (by decide) (by decide) (fun c2 => ?_) (And.intro (fun c2 => ?_) (And.intro (fun c2 => ?_) (And.intro (fun c2 => ?_) (And.intro (fun c2 => ?_) (And.intro (fun c2 => ?_) (And.intro (fun c2 => ?_) (And.intro (fun c2 => ?_) (And.intro (fun c2 => ?_) trivial))))))))
  ·
    refine sx_iload_n dX4_doItem_230 rfl ?_
    refine sx_iconst dX4_doItem_231 ⟨by decide, by decide⟩ ?_
    refine sx_iadd dX4_doItem_232 ?_
    refine sy_topw (by omega) ?_
    refine sx_ireturn dX4_doItem_233 ?_
    exact ⟨_, rfl, ⟨hI, by omega⟩⟩
  ·
    refine sx_aload_n dX4_doItem_64 rfl ?_
    refine sx_getR (k := 1) (t := o) cl_4 fl_X4_38 dX4_doItem_65 s_25 (by decide) rfl (by decide) (by omega) ?_
    refine sx_iload_n dX4_doItem_68 rfl ?_
    refine sx_callVv lk_X4_60 cl_8 So0 Bo0 dX4_doItem_69 (vs := [_]) rfl rfl (Nat.le_of_ble_eq_true rfl) (Nat.le_of_ble_eq_true rfl) rfl (c_X8_perform _ hI.1 (o) hom _) (fun h3 ph3 => ?_)
    have Kh3 := ph3
    have Ih3 := hI.tr Kh3 sb_prE_prS
    have th3_25_0 := Kh3.2 (25) 0 rfl
    have th3_25_1 := Kh3.2 (25) 1 rfl
    have th3_25_2 := Kh3.2 (25) 2 rfl
    refine sx_iload_n dX4_doItem_72 rfl ?_
    refine sx_iconst dX4_doItem_73 ⟨by decide, by decide⟩ ?_
    refine sx_iadd dX4_doItem_74 ?_
    refine sy_topw (by omega) ?_
    refine sx_ireturn dX4_doItem_75 ?_
    exact ⟨_, rfl, ⟨Ih3, by omega⟩⟩
  ·
    refine sx_aload_n dX4_doItem_76 rfl ?_
    refine sx_getR (k := 1) (t := o) cl_4 fl_X4_38 dX4_doItem_77 s_25 (by decide) rfl (by decide) (by omega) ?_
    refine sx_iload_n dX4_doItem_80 rfl ?_
    refine sx_callVv lk_X4_64 cl_8 So0 Bo0 dX4_doItem_81 (vs := [_]) rfl rfl (Nat.le_of_ble_eq_true rfl) (Nat.le_of_ble_eq_true rfl) rfl (c_X8_add _ hI.1 (o) hom _) (fun h5 ph5 => ?_)
    have Kh5 := ph5
    have Ih5 := hI.tr Kh5 sb_prE_prS
    have th5_25_0 := Kh5.2 (25) 0 rfl
    have th5_25_1 := Kh5.2 (25) 1 rfl
    have th5_25_2 := Kh5.2 (25) 2 rfl
    refine sx_iload_n dX4_doItem_84 rfl ?_
    refine sx_iconst dX4_doItem_85 ⟨by decide, by decide⟩ ?_
    refine sx_iadd dX4_doItem_86 ?_
    refine sy_topw (by omega) ?_
    refine sx_ireturn dX4_doItem_87 ?_
    exact ⟨_, rfl, ⟨Ih5, by omega⟩⟩
  ·
    refine sx_iload_n dX4_doItem_88 rfl ?_
    refine sx_bipush dX4_doItem_89 ⟨by decide, by decide, by decide⟩ ?_
    refine sx_icmp_ge (tgt := 132) dX4_doItem_91 (by decide) (fun c7 => ?_) (fun c7 => ?_)
    ·
      refine sx_iload_n dX4_doItem_132 rfl ?_
      refine sx_iconst dX4_doItem_133 ⟨by decide, by decide⟩ ?_
      refine sx_iadd dX4_doItem_134 ?_
      refine sy_topw (by omega) ?_
      refine sx_ireturn dX4_doItem_135 ?_
      exact ⟨_, rfl, ⟨hI, by omega⟩⟩
    ·
      refine sx_aload_n dX4_doItem_94 rfl ?_
      refine sx_getR (k := 0) (t := 1) cl_4 fl_X4_34 dX4_doItem_95 s_25 (by decide) rfl (by decide) (by omega) ?_
      refine sx_iload_n dX4_doItem_98 rfl ?_
      refine sx_callVz lk_X4_67 cl_0 s_1 (by decide) dX4_doItem_99 (vs := [_]) rfl rfl (Nat.le_of_ble_eq_true rfl) (Nat.le_of_ble_eq_true rfl) rfl (c_X0_hasWord_1 _ hI.1 _) (fun x9 h8 zx9 ph8 => ?_)
      obtain ⟨rfl, w_x9⟩ := ph8
      refine sx_if_eq (tgt := 132) dX4_doItem_102 (by decide) (fun c10 => ?_) (fun c10 => ?_)
      ·
        refine sx_iload_n dX4_doItem_132 rfl ?_
        refine sx_iconst dX4_doItem_133 ⟨by decide, by decide⟩ ?_
        refine sx_iadd dX4_doItem_134 ?_
        refine sy_topw (by omega) ?_
        refine sx_ireturn dX4_doItem_135 ?_
        exact ⟨_, rfl, ⟨hI, by omega⟩⟩
      ·
        refine sx_aload_n dX4_doItem_105 rfl ?_
        refine sx_aload_n dX4_doItem_106 rfl ?_
        refine sx_getR (k := 0) (t := 1) cl_4 fl_X4_34 dX4_doItem_107 s_25 (by decide) rfl (by decide) (by omega) ?_
        refine sx_getS (k := 9) (t := 6) cl_0 fl_X4_25 dX4_doItem_110 s_1 (by decide) rfl (by decide) ?_
        refine sx_iload_n dX4_doItem_113 rfl ?_
        refine sy_iaF (F := fun z => (0 : Int) ≤ z ∧ z ≤ 60) dX4_doItem_114 s_6 (by decide) (by decide) ⟨by omega, by omega⟩ (hI.1.1 6 _) (fun r11 => ?_)
        refine sx_aload_n dX4_doItem_115 rfl ?_
        refine sx_getR (k := 0) (t := 1) cl_4 fl_X4_34 dX4_doItem_116 s_25 (by decide) rfl (by decide) (by omega) ?_
        refine sx_getS (k := 9) (t := 6) cl_0 fl_X4_25 dX4_doItem_119 s_1 (by decide) rfl (by decide) ?_
        refine sx_iload_n dX4_doItem_122 rfl ?_
        refine sx_iconst dX4_doItem_123 ⟨by decide, by decide⟩ ?_
        refine sx_iadd dX4_doItem_124 ?_
        refine sy_topw (by omega) ?_
        refine sy_iaF (F := fun z => (0 : Int) ≤ z ∧ z ≤ 60) dX4_doItem_125 s_6 (by decide) (by decide) ⟨by omega, by omega⟩ (hI.1.1 6 _) (fun r12 => ?_)
        refine sx_iload_n dX4_doItem_126 rfl ?_
        refine sx_iconst dX4_doItem_127 ⟨by decide, by decide⟩ ?_
        refine sx_iadd dX4_doItem_128 ?_
        refine sy_topw (by omega) ?_
        refine sx_callVv lk_X4_46 cl_4 s_25 (by decide) dX4_doItem_129 (vs := [_, _, _]) rfl rfl (Nat.le_of_ble_eq_true rfl) (Nat.le_of_ble_eq_true rfl) rfl (hgo (by omega) _ hI.1 (by omega) (by omega) _ _ (by omega)) (fun h13 ph13 => ?_)
        obtain ⟨Kh13, b_h13⟩ := ph13
        have Ih13 := hI.tr Kh13 sb_prE_prE
        have th13_25_0 := Kh13.2 (25) 0 rfl
        have th13_25_1 := Kh13.2 (25) 1 rfl
        refine sx_iload_n dX4_doItem_132 rfl ?_
        refine sx_iconst dX4_doItem_133 ⟨by decide, by decide⟩ ?_
        refine sx_iadd dX4_doItem_134 ?_
        refine sy_topw (by omega) ?_
        refine sx_ireturn dX4_doItem_135 ?_
        exact ⟨_, rfl, ⟨Ih13, by omega⟩⟩
  ·
    refine sx_aload_n dX4_doItem_136 rfl ?_
    refine sx_getR (k := 1) (t := o) cl_4 fl_X4_38 dX4_doItem_137 s_25 (by decide) rfl (by decide) (by omega) ?_
    refine sx_callVi lk_X4_71 cl_8 So0 Bo0 dX4_doItem_140 (vs := []) rfl rfl (Nat.le_of_ble_eq_true rfl) (Nat.le_of_ble_eq_true rfl) rfl (c_X8_takeTop _ hI.1 (o) hom) (fun x16 h15 ph15 => ?_)
    have Kh15 := ph15
    have Ih15 := hI.tr Kh15 sb_prE_prS
    have th15_25_0 := Kh15.2 (25) 0 rfl
    have th15_25_1 := Kh15.2 (25) 1 rfl
    have th15_25_2 := Kh15.2 (25) 2 rfl
    refine sx_if_eq (tgt := 152) dX4_doItem_143 (by decide) (fun c17 => ?_) (fun c17 => ?_)
    ·
      refine sx_aload_n dX4_doItem_152 rfl ?_
      refine sx_getR (k := 0) (t := 1) cl_4 fl_X4_34 dX4_doItem_153 s_25 (by decide) rfl (by decide) (by omega) ?_
      refine sx_getS (k := 7) (t := 4) cl_0 fl_X4_75 dX4_doItem_156 s_1 (by decide) rfl (by decide) ?_
      refine sx_iload_n dX4_doItem_159 rfl ?_
      refine sy_iaF (F := fun z => (0 : Int) ≤ z ∧ z ≤ 59) dX4_doItem_160 s_4 (by decide) (by decide) ⟨by omega, by omega⟩ (Ih15.1.1 4 _) (fun r18 => ?_)
      refine sx_iconst dX4_doItem_161 ⟨by decide, by decide⟩ ?_
      refine sx_iadd dX4_doItem_162 ?_
      refine sy_topw (by omega) ?_
      refine sx_ireturn dX4_doItem_163 ?_
      exact ⟨_, rfl, ⟨Ih15, by omega⟩⟩
    ·
      refine sx_iload_n dX4_doItem_146 rfl ?_
      refine sx_iconst dX4_doItem_147 ⟨by decide, by decide⟩ ?_
      refine sx_iadd dX4_doItem_148 ?_
      refine sy_topw (by omega) ?_
      refine sx_goto (tgt := 163) dX4_doItem_149 (by decide) ?_
      refine sx_ireturn dX4_doItem_163 ?_
      exact ⟨_, rfl, ⟨Ih15, by omega⟩⟩
  ·
    refine sx_aload_n dX4_doItem_164 rfl ?_
    refine sx_getR (k := 0) (t := 1) cl_4 fl_X4_34 dX4_doItem_165 s_25 (by decide) rfl (by decide) (by omega) ?_
    refine sx_getS (k := 7) (t := 4) cl_0 fl_X4_75 dX4_doItem_168 s_1 (by decide) rfl (by decide) ?_
    refine sx_iload_n dX4_doItem_171 rfl ?_
    refine sy_iaF (F := fun z => (0 : Int) ≤ z ∧ z ≤ 59) dX4_doItem_172 s_4 (by decide) (by decide) ⟨by omega, by omega⟩ (hI.1.1 4 _) (fun r19 => ?_)
    refine sx_iconst dX4_doItem_173 ⟨by decide, by decide⟩ ?_
    refine sx_iadd dX4_doItem_174 ?_
    refine sy_topw (by omega) ?_
    refine sx_ireturn dX4_doItem_175 ?_
    exact ⟨_, rfl, ⟨hI, by omega⟩⟩
  ·
    refine sx_iload_n dX4_doItem_230 rfl ?_
    refine sx_iconst dX4_doItem_231 ⟨by decide, by decide⟩ ?_
    refine sx_iadd dX4_doItem_232 ?_
    refine sy_topw (by omega) ?_
    refine sx_ireturn dX4_doItem_233 ?_
    exact ⟨_, rfl, ⟨hI, by omega⟩⟩
  ·
    refine sx_aload_n dX4_doItem_176 rfl ?_
    refine sx_getS (k := 3) (t := 26) cl_4 fl_X4_9 dX4_doItem_177 s_25 (by decide) rfl (by decide) ?_
    refine sx_iload_n dX4_doItem_180 rfl ?_
    refine sx_iload_n dX4_doItem_181 rfl ?_
    refine sy_iastore dX4_doItem_182 s_26 (by decide) (by decide) ⟨by omega, by omega⟩ (fun h20 eh20 => ?_)
    have Ih20 := hI.up eh20 trivial rfl rfl
    have th20_25_0 := eh20.2 (25) 0 (by omega)
    have th20_25_1 := eh20.2 (25) 1 (by omega)
    have th20_25_2 := eh20.2 (25) 2 (by omega)
    refine sx_iload_n dX4_doItem_183 rfl ?_
    refine sx_iconst dX4_doItem_184 ⟨by decide, by decide⟩ ?_
    refine sx_iadd dX4_doItem_185 ?_
    refine sy_topw (by omega) ?_
    refine sx_ireturn dX4_doItem_186 ?_
    exact ⟨_, rfl, ⟨Ih20, by omega⟩⟩
  ·
    refine sx_aload_n dX4_doItem_187 rfl ?_
    refine sx_getR (k := 0) (t := 1) cl_4 fl_X4_34 dX4_doItem_188 s_25 (by decide) rfl (by decide) (by omega) ?_
    refine sx_getS (k := 7) (t := 4) cl_0 fl_X4_75 dX4_doItem_191 s_1 (by decide) rfl (by decide) ?_
    refine sx_iload_n dX4_doItem_194 rfl ?_
    refine sy_iaF (F := fun z => (0 : Int) ≤ z ∧ z ≤ 59) dX4_doItem_195 s_4 (by decide) (by decide) ⟨by omega, by omega⟩ (hI.1.1 4 _) (fun r21 => ?_)
    refine sy_top (fun v22 ev22 => ?_)
    refine sx_istore dX4_doItem_196 (by decide) ?_
    refine sx_aload_n dX4_doItem_198 rfl ?_
    refine sx_getS (k := 3) (t := 26) cl_4 fl_X4_9 dX4_doItem_199 s_25 (by decide) rfl (by decide) ?_
    refine sx_iload dX4_doItem_202 rfl ?_
    refine sx_dup2 dX4_doItem_204 ?_
    refine sx_iaload dX4_doItem_205 s_26 (by decide) (by decide) ⟨by omega, by omega⟩ ?_
    refine sx_iconst dX4_doItem_206 ⟨by decide, by decide⟩ ?_
    refine sx_isub dX4_doItem_207 ?_
    refine sy_iastore dX4_doItem_208 s_26 (by decide) (by decide) ⟨by omega, by omega⟩ (fun h23 eh23 => ?_)
    have Ih23 := hI.up eh23 trivial rfl rfl
    have th23_25_0 := eh23.2 (25) 0 (by omega)
    have th23_25_1 := eh23.2 (25) 1 (by omega)
    have th23_25_2 := eh23.2 (25) 2 (by omega)
    refine sx_aload_n dX4_doItem_209 rfl ?_
    refine sx_getS (k := 3) (t := 26) cl_4 fl_X4_9 dX4_doItem_210 s_25 (by decide) rfl (by decide) ?_
    refine sx_iload dX4_doItem_213 rfl ?_
    refine sx_iaload dX4_doItem_215 s_26 (by decide) (by decide) ⟨by omega, by omega⟩ ?_
    refine sx_if_le (tgt := 226) dX4_doItem_216 (by decide) (fun c24 => ?_) (fun c24 => ?_)
    ·
      refine sx_iload_n dX4_doItem_226 rfl ?_
      refine sx_iconst dX4_doItem_227 ⟨by decide, by decide⟩ ?_
      refine sx_iadd dX4_doItem_228 ?_
      refine sy_topw (by omega) ?_
      refine sx_ireturn dX4_doItem_229 ?_
      exact ⟨_, rfl, ⟨Ih23, by omega⟩⟩
    ·
      refine sx_iload dX4_doItem_219 rfl ?_
      refine sx_iconst dX4_doItem_221 ⟨by decide, by decide⟩ ?_
      refine sx_iadd dX4_doItem_222 ?_
      refine sy_topw (by omega) ?_
      refine sx_goto (tgt := 229) dX4_doItem_223 (by decide) ?_
      refine sx_ireturn dX4_doItem_229 ?_
      exact ⟨_, rfl, ⟨Ih23, by omega⟩⟩
set_option maxRecDepth 20000 in
set_option maxHeartbeats 4000000 in
theorem o_X4_goOver_25_1 {G : sw_G} (d : Nat) {h0 : sw_H} (hJ : cJ h0) (o : Nat) (hom : o ∈ stL) (hc : h0 25 0 = 1) (hs : h0 25 1 = (o : Int)) (dp : Int) (hdo : ∀ (h1 : sw_H), cJ h1 → h1 25 0 = 1 → h1 25 1 = (o : Int) → ∀ i : Int, 0 ≤ i ∧ i < 60 → sw_E G NH SH d mX4_doItem 0 [some (sw_r 25), some (sw_i i), some (sw_i dp), none, none] [] h1 (sw_Qi (fun z h' => cK prE h1 h' ∧ h' 25 2 ≤ h1 25 2))) (a b : Int) (hb : b ≤ 60) : sw_E G NH SH (d + 1) mX4_goOver 0 [some (sw_r 25), some (sw_i a), some (sw_i b), some (sw_i dp), none] [] h0 (sw_Qv (fun h' => cK prE h0 h' ∧ h' 25 2 ≤ h0 25 2)) := by
  have hI : cK prE h0 h0 := cK.refl hJ
  obtain ⟨So0, So1, So2, bo⟩ := s_St o hom
  have Bo0 : o < NH := show o < 290 by omega
  have Bo1 : o + 1 < NH := show o + 1 < 290 by omega
  have Bo2 : o + 2 < NH := show o + 2 < 290 by omega
  refine sx_iload_n dX4_goOver_0 rfl ?_
  refine sx_istore dX4_goOver_1 (by decide) ?_
  refine sx_loop1 (fun (h : sw_H) (i : Int) => (cK prE h0 h) ∧ (h 25 0 = 1) ∧ (h 25 1 = (o : Int)) ∧ (h 25 2 ≤ h0 25 2)) (fun (h : sw_H) (i : Int) => (h 25 2).toNat) (fun (h : sw_H) (i : Int) => sw_E G NH SH (d + 1) mX4_goOver 3 [some (sw_r 25), some (sw_i a), some (sw_i b), some (sw_i dp), some (sw_i i)] [] h (sw_Qv (fun h' => cK prE h0 h' ∧ h' 25 2 ≤ h0 25 2))) ?_ _ _ ?_
  · rintro h1 i_2 ⟨Ih1, j3, j4, j5⟩ ihh1
    try dsimp only at ihh1
    refine sx_iload dX4_goOver_3 rfl ?_
    refine sx_if_lt (tgt := 43) dX4_goOver_5 (by decide) (fun c6 => ?_) (fun c6 => ?_)
    ·
      refine sx_ret dX4_goOver_43 ?_
      exact ⟨rfl, ⟨Ih1, by omega⟩⟩
    ·
      refine sx_iload dX4_goOver_8 rfl ?_
      refine sx_iload_n dX4_goOver_10 rfl ?_
      refine sx_icmp_ge (tgt := 43) dX4_goOver_11 (by decide) (fun c7 => ?_) (fun c7 => ?_)
      ·
        refine sx_ret dX4_goOver_43 ?_
        exact ⟨rfl, ⟨Ih1, by omega⟩⟩
      ·
        refine sx_aload_n dX4_goOver_14 rfl ?_
        refine sx_getI (k := 2) cl_4 fl_X4_42 dX4_goOver_15 s_25 (by decide) rfl (by decide) ?_
        have r8 : (0 : Int) ≤ h1 25 2 ∧ h1 25 2 ≤ 1000000 := Ih1.1.1 25 2
        refine sx_if_le (tgt := 43) dX4_goOver_18 (by decide) (fun c9 => ?_) (fun c9 => ?_)
        ·
          refine sx_ret dX4_goOver_43 ?_
          exact ⟨rfl, ⟨Ih1, by omega⟩⟩
        ·
          refine sx_aload_n dX4_goOver_21 rfl ?_
          refine sx_dupr dX4_goOver_22 ?_
          refine sx_getI (k := 2) cl_4 fl_X4_42 dX4_goOver_23 s_25 (by decide) rfl (by decide) ?_
          have r10 : (0 : Int) ≤ h1 25 2 ∧ h1 25 2 ≤ 1000000 := Ih1.1.1 25 2
          refine sx_iconst dX4_goOver_26 ⟨by decide, by decide⟩ ?_
          refine sx_isub dX4_goOver_27 ?_
          refine sy_topw (by omega) ?_
          refine sy_putI (k := 2) cl_4 fl_X4_42 dX4_goOver_28 s_25 (by decide) rfl (by decide) rfl rfl (fun h11 eh11 => ?_)
          have Ih11 := Ih1.up eh11 (show (0 : Int) ≤ _ ∧ _ ≤ (1000000 : Int) from ⟨by omega, by omega⟩) rfl rfl
          have th11_25_0 := eh11.2 (25) 0 (by decide)
          have th11_25_1 := eh11.2 (25) 1 (by decide)
          have th11_25_2 := eh11.1
          refine sx_aload_n dX4_goOver_31 rfl ?_
          refine sx_iload dX4_goOver_32 rfl ?_
          refine sx_iload_n dX4_goOver_34 rfl ?_
          refine sx_callVi lk_X4_50 cl_4 s_25 (by decide) dX4_goOver_35 (vs := [_, _]) rfl rfl (Nat.le_of_ble_eq_true rfl) (Nat.le_of_ble_eq_true rfl) rfl (hdo _ Ih11.1 (by omega) (by omega) _ (by omega)) (fun x13 h12 ph12 => ?_)
          obtain ⟨Kh12, b_h12⟩ := ph12
          have Ih12 := Ih11.tr Kh12 sb_prE_prE
          have th12_25_0 := Kh12.2 (25) 0 rfl
          have th12_25_1 := Kh12.2 (25) 1 rfl
          refine sx_istore dX4_goOver_38 (by decide) ?_
          refine sx_goto (tgt := 3) dX4_goOver_40 (by decide) ?_
          exact ihh1 _ _ ⟨Ih12, by omega, by omega, by omega⟩ (by exact sy_dec (by omega) (by omega))
  · exact ⟨hI, by omega, by omega, by omega⟩
theorem c_X4_goOver_25_1 {G : sw_G} : ∀ (n d : Nat) {h0 : sw_H} (_ : cJ h0) (o : Nat) (_ : o ∈ stL) (_ : h0 25 0 = 1) (_ : h0 25 1 = (o : Int)) (dp : Int) (_ : 0 ≤ dp) (_ : 6 - dp ≤ n) (a b : Int) (_ : b ≤ 60), sw_E G NH SH (d + 2 * n + 3) mX4_goOver 0 [some (sw_r 25), some (sw_i a), some (sw_i b), some (sw_i dp), none] [] h0 (sw_Qv (fun h' => cK prE h0 h' ∧ h' 25 2 ≤ h0 25 2)) := by
  intro n
  induction n with
  | zero =>
    intro d h0 hJ o hom hc hs dp hd0 hdp a b hb
    exact o_X4_goOver_25_1 (d + 2) hJ o hom hc hs dp (fun h1 hJ1 hc1 hs1 i hi => o_X4_doItem_25_1 (d + 1) hJ1 o hom hc1 hs1 dp hd0 (fun hlt => absurd hlt (by omega)) i hi) a b hb
  | succ n ih =>
    intro d h0 hJ o hom hc hs dp hd0 hdp a b hb
    exact o_X4_goOver_25_1 (d + 2 * n + 4) hJ o hom hc hs dp (fun h1 hJ1 hc1 hs1 i hi => o_X4_doItem_25_1 (d + 2 * n + 3) hJ1 o hom hc1 hs1 dp hd0 (fun hlt h2 hJ2 hc2 hs2 a2 b2 hb2 => ih d hJ2 o hom hc2 hs2 (dp + 1) (by omega) (by omega) a2 b2 hb2) i hi) a b hb
set_option maxRecDepth 20000 in
set_option maxHeartbeats 4000000 in
theorem c_X4_doItems_25_1 {G : sw_G} (d : Nat) {h0 : sw_H} (hJ : cJ h0) (o : Nat) (hom : o ∈ stL) (a b : Int) (hb : b ≤ 60) : sw_E G NH SH (d + 16) mX4_doItems 0 [some (sw_r 25), some (sw_r 1), some (sw_r o), some (sw_i a), some (sw_i b)] [] h0 (sw_Qv (fun h' => cK prD h0 h')) := by
  have hI : cK prD h0 h0 := cK.refl hJ
  obtain ⟨So0, So1, So2, bo⟩ := s_St o hom
  have Bo0 : o < NH := show o < 290 by omega
  have Bo1 : o + 1 < NH := show o + 1 < 290 by omega
  have Bo2 : o + 2 < NH := show o + 2 < 290 by omega
  refine sx_aload_n dX4_doItems_0 rfl ?_
  refine sx_aload_n dX4_doItems_1 rfl ?_
  refine sy_putR (k := 0) cl_4 fl_X4_34 dX4_doItems_2 s_25 (by decide) rfl (by decide) rfl rfl (by decide) (fun h1 eh1 => ?_)
  have Ih1 := hI.up eh1 trivial rfl rfl
  have th1_25_0 := eh1.1
  have th1_25_1 := eh1.2 (25) 1 (by decide)
  refine sx_aload_n dX4_doItems_5 rfl ?_
  refine sx_aload_n dX4_doItems_6 rfl ?_
  refine sy_putR (k := 1) cl_4 fl_X4_38 dX4_doItems_7 s_25 (by decide) rfl (by decide) rfl rfl (by omega) (fun h2 eh2 => ?_)
  have Ih2 := Ih1.up eh2 trivial rfl rfl
  have th2_25_0 := eh2.2 (25) 0 (by decide)
  have th2_25_1 := eh2.1
  refine sx_aload_n dX4_doItems_10 rfl ?_
  refine sx_ldc kc_X4_41 ⟨by decide, by decide⟩ dX4_doItems_11 ?_
  refine sy_putI (k := 2) cl_4 fl_X4_42 dX4_doItems_13 s_25 (by decide) rfl (by decide) rfl rfl (fun h3 eh3 => ?_)
  have Ih3 := Ih2.up eh3 (show (0 : Int) ≤ _ ∧ _ ≤ (1000000 : Int) from ⟨by omega, by omega⟩) rfl rfl
  have th3_25_0 := eh3.2 (25) 0 (by decide)
  have th3_25_1 := eh3.2 (25) 1 (by decide)
  refine sx_aload_n dX4_doItems_16 rfl ?_
  refine sx_iload_n dX4_doItems_17 rfl ?_
  refine sx_iload dX4_doItems_18 rfl ?_
  refine sx_iconst dX4_doItems_20 ⟨by decide, by decide⟩ ?_
  refine sx_callVv lk_X4_46 cl_4 s_25 (by decide) dX4_doItems_21 (vs := [_, _, _]) rfl rfl (Nat.le_of_ble_eq_true rfl) (Nat.le_of_ble_eq_true rfl) rfl (c_X4_goOver_25_1 6 _ Ih3.1 o hom (by omega) (by omega) 0 (by decide) (by decide) _ _ (by omega)) (fun h4 ph4 => ?_)
  obtain ⟨Kh4, b_h4⟩ := ph4
  have Ih4 := Ih3.tr Kh4 sb_prD_prE
  have th4_25_0 := Kh4.2 (25) 0 rfl
  have th4_25_1 := Kh4.2 (25) 1 rfl
  refine sx_ret dX4_doItems_24 ?_
  exact ⟨rfl, Ih4⟩
set_option maxRecDepth 20000 in
set_option maxHeartbeats 4000000 in
theorem c_X4_doWord_25_1 {G : sw_G} (d : Nat) {h0 : sw_H} (hJ : cJ h0) (o : Nat) (hom : o ∈ stL) (w : Int) (hw : 0 ≤ w ∧ w < 6) : sw_E G NH SH (d + 17) mX4_doWord 0 [some (sw_r 25), some (sw_r 1), some (sw_r o), some (sw_i w)] [] h0 (sw_Qv (fun h' => cK prD h0 h')) := by
  have hI : cK prD h0 h0 := cK.refl hJ
  obtain ⟨So0, So1, So2, bo⟩ := s_St o hom
  have Bo0 : o < NH := show o < 290 by omega
  have Bo1 : o + 1 < NH := show o + 1 < 290 by omega
  have Bo2 : o + 2 < NH := show o + 2 < 290 by omega
  refine sx_aload_n dX4_doWord_0 rfl ?_
  refine sx_aload_n dX4_doWord_1 rfl ?_
  refine sx_aload_n dX4_doWord_2 rfl ?_
  refine sx_aload_n dX4_doWord_3 rfl ?_
  refine sx_getS (k := 9) (t := 6) cl_0 fl_X4_25 dX4_doWord_4 s_1 (by decide) rfl (by decide) ?_
  refine sx_iload_n dX4_doWord_7 rfl ?_
  refine sy_iaF (F := fun z => (0 : Int) ≤ z ∧ z ≤ 60) dX4_doWord_8 s_6 (by decide) (by decide) ⟨by omega, by omega⟩ (hI.1.1 6 _) (fun r1 => ?_)
  refine sx_aload_n dX4_doWord_9 rfl ?_
  refine sx_getS (k := 9) (t := 6) cl_0 fl_X4_25 dX4_doWord_10 s_1 (by decide) rfl (by decide) ?_
  refine sx_iload_n dX4_doWord_13 rfl ?_
  refine sx_iconst dX4_doWord_14 ⟨by decide, by decide⟩ ?_
  refine sx_iadd dX4_doWord_15 ?_
  refine sy_topw (by omega) ?_
  refine sy_iaF (F := fun z => (0 : Int) ≤ z ∧ z ≤ 60) dX4_doWord_16 s_6 (by decide) (by decide) ⟨by omega, by omega⟩ (hI.1.1 6 _) (fun r2 => ?_)
  refine sx_callVv lk_X4_30 cl_4 s_25 (by decide) dX4_doWord_17 (vs := [_, _, _, _]) rfl rfl (Nat.le_of_ble_eq_true rfl) (Nat.le_of_ble_eq_true rfl) rfl (c_X4_doItems_25_1 _ hI.1 (o) hom _ _ (by omega)) (fun h3 ph3 => ?_)
  have Kh3 := ph3
  have Ih3 := hI.tr Kh3 sb_prD_prD
  refine sx_ret dX4_doWord_20 ?_
  exact ⟨rfl, Ih3⟩
set_option maxRecDepth 20000 in
set_option maxHeartbeats 4000000 in
theorem o_X4_doItem_25_13 {G : sw_G} (d : Nat) {h0 : sw_H} (hJ : cJ h0) (o : Nat) (hom : o ∈ stL) (hc : h0 25 0 = 13) (hs : h0 25 1 = (o : Int)) (dp : Int) (hdp : 0 ≤ dp) (hgo : dp < 6 → ∀ (h1 : sw_H), cJ h1 → h1 25 0 = 13 → h1 25 1 = (o : Int) → ∀ a b : Int, b ≤ 60 → sw_E G NH SH d mX4_goOver 0 [some (sw_r 25), some (sw_i a), some (sw_i b), some (sw_i (dp + 1)), none] [] h1 (sw_Qv (fun h' => cK prE h1 h' ∧ h' 25 2 ≤ h1 25 2))) (i : Int) (hi : 0 ≤ i ∧ i < 60) : sw_E G NH SH (d + 1) mX4_doItem 0 [some (sw_r 25), some (sw_i i), some (sw_i dp), none, none] [] h0 (sw_Qi (fun z h' => cK prE h0 h' ∧ h' 25 2 ≤ h0 25 2)) := by
  have hI : cK prE h0 h0 := cK.refl hJ
  obtain ⟨So0, So1, So2, bo⟩ := s_St o hom
  have Bo0 : o < NH := show o < 290 by omega
  have Bo1 : o + 1 < NH := show o + 1 < 290 by omega
  have Bo2 : o + 2 < NH := show o + 2 < 290 by omega
  have rw : (0 : Int) ≤ h0 13 0 ∧ h0 13 0 ≤ 6 := hI.1.1 13 0
  refine sx_aload_n dX4_doItem_0 rfl ?_
  refine sx_getR (k := 0) (t := 13) cl_4 fl_X4_34 dX4_doItem_1 s_25 (by decide) rfl (by decide) (by omega) ?_
  refine sx_getS (k := 6) (t := 15) cl_0 fl_X4_54 dX4_doItem_4 s_13 (by decide) rfl (by decide) ?_
  refine sx_iload_n dX4_doItem_7 rfl ?_
  refine sx_iaload dX4_doItem_8 s_15 (by decide) (by decide) ⟨by omega, by omega⟩ ?_
  refine sy_top (fun v1 ev1 => ?_)
  refine sx_istore_n dX4_doItem_9 (by decide) ?_
  refine sx_aload_n dX4_doItem_10 rfl ?_
  refine sx_getR (k := 0) (t := 13) cl_4 fl_X4_34 dX4_doItem_11 s_25 (by decide) rfl (by decide) (by omega) ?_
  refine sx_getS (k := 5) (t := 14) cl_0 fl_X4_57 dX4_doItem_14 s_13 (by decide) rfl (by decide) ?_
  refine sx_iload_n dX4_doItem_17 rfl ?_
  refine sx_iaload dX4_doItem_18 s_14 (by decide) (by decide) ⟨by omega, by omega⟩ ?_
  refine sx_tsw (dt := 230) (ts := [64, 76, 88, 136, 164, 230, 176, 187]) dX4_doItem_19 (by decide) (by decide) (by decide) (fun c2 => ?_) (And.intro (fun c2 => ?_) (And.intro (fun c2 => ?_) (And.intro (fun c2 => ?_) (And.intro (fun c2 => ?_) (And.intro (fun c2 => ?_) (And.intro (fun c2 => ?_) (And.intro (fun c2 => ?_) (And.intro (fun c2 => ?_) trivial))))))))
  ·
    refine sx_iload_n dX4_doItem_230 rfl ?_
    refine sx_iconst dX4_doItem_231 ⟨by decide, by decide⟩ ?_
    refine sx_iadd dX4_doItem_232 ?_
    refine sy_topw (by omega) ?_
    refine sx_ireturn dX4_doItem_233 ?_
    exact ⟨_, rfl, ⟨hI, by omega⟩⟩
  ·
    refine sx_aload_n dX4_doItem_64 rfl ?_
    refine sx_getR (k := 1) (t := o) cl_4 fl_X4_38 dX4_doItem_65 s_25 (by decide) rfl (by decide) (by omega) ?_
    refine sx_iload_n dX4_doItem_68 rfl ?_
    refine sx_callVv lk_X4_60 cl_8 So0 Bo0 dX4_doItem_69 (vs := [_]) rfl rfl (Nat.le_of_ble_eq_true rfl) (Nat.le_of_ble_eq_true rfl) rfl (c_X8_perform _ hI.1 (o) hom _) (fun h3 ph3 => ?_)
    have Kh3 := ph3
    have Ih3 := hI.tr Kh3 sb_prE_prS
    have th3_25_0 := Kh3.2 (25) 0 rfl
    have th3_25_1 := Kh3.2 (25) 1 rfl
    have th3_25_2 := Kh3.2 (25) 2 rfl
    refine sx_iload_n dX4_doItem_72 rfl ?_
    refine sx_iconst dX4_doItem_73 ⟨by decide, by decide⟩ ?_
    refine sx_iadd dX4_doItem_74 ?_
    refine sy_topw (by omega) ?_
    refine sx_ireturn dX4_doItem_75 ?_
    exact ⟨_, rfl, ⟨Ih3, by omega⟩⟩
  ·
    refine sx_aload_n dX4_doItem_76 rfl ?_
    refine sx_getR (k := 1) (t := o) cl_4 fl_X4_38 dX4_doItem_77 s_25 (by decide) rfl (by decide) (by omega) ?_
    refine sx_iload_n dX4_doItem_80 rfl ?_
    refine sx_callVv lk_X4_64 cl_8 So0 Bo0 dX4_doItem_81 (vs := [_]) rfl rfl (Nat.le_of_ble_eq_true rfl) (Nat.le_of_ble_eq_true rfl) rfl (c_X8_add _ hI.1 (o) hom _) (fun h5 ph5 => ?_)
    have Kh5 := ph5
    have Ih5 := hI.tr Kh5 sb_prE_prS
    have th5_25_0 := Kh5.2 (25) 0 rfl
    have th5_25_1 := Kh5.2 (25) 1 rfl
    have th5_25_2 := Kh5.2 (25) 2 rfl
    refine sx_iload_n dX4_doItem_84 rfl ?_
    refine sx_iconst dX4_doItem_85 ⟨by decide, by decide⟩ ?_
    refine sx_iadd dX4_doItem_86 ?_
    refine sy_topw (by omega) ?_
    refine sx_ireturn dX4_doItem_87 ?_
    exact ⟨_, rfl, ⟨Ih5, by omega⟩⟩
  ·
    refine sx_iload_n dX4_doItem_88 rfl ?_
    refine sx_bipush dX4_doItem_89 ⟨by decide, by decide, by decide⟩ ?_
    refine sx_icmp_ge (tgt := 132) dX4_doItem_91 (by decide) (fun c7 => ?_) (fun c7 => ?_)
    ·
      refine sx_iload_n dX4_doItem_132 rfl ?_
      refine sx_iconst dX4_doItem_133 ⟨by decide, by decide⟩ ?_
      refine sx_iadd dX4_doItem_134 ?_
      refine sy_topw (by omega) ?_
      refine sx_ireturn dX4_doItem_135 ?_
      exact ⟨_, rfl, ⟨hI, by omega⟩⟩
    ·
      refine sx_aload_n dX4_doItem_94 rfl ?_
      refine sx_getR (k := 0) (t := 13) cl_4 fl_X4_34 dX4_doItem_95 s_25 (by decide) rfl (by decide) (by omega) ?_
      refine sx_iload_n dX4_doItem_98 rfl ?_
      refine sx_callVz lk_X4_67 cl_0 s_13 (by decide) dX4_doItem_99 (vs := [_]) rfl rfl (Nat.le_of_ble_eq_true rfl) (Nat.le_of_ble_eq_true rfl) rfl (c_X0_hasWord_13 _ hI.1 _) (fun x9 h8 zx9 ph8 => ?_)
      obtain ⟨rfl, w_x9⟩ := ph8
      refine sx_if_eq (tgt := 132) dX4_doItem_102 (by decide) (fun c10 => ?_) (fun c10 => ?_)
      ·
        refine sx_iload_n dX4_doItem_132 rfl ?_
        refine sx_iconst dX4_doItem_133 ⟨by decide, by decide⟩ ?_
        refine sx_iadd dX4_doItem_134 ?_
        refine sy_topw (by omega) ?_
        refine sx_ireturn dX4_doItem_135 ?_
        exact ⟨_, rfl, ⟨hI, by omega⟩⟩
      ·
        refine sx_aload_n dX4_doItem_105 rfl ?_
        refine sx_aload_n dX4_doItem_106 rfl ?_
        refine sx_getR (k := 0) (t := 13) cl_4 fl_X4_34 dX4_doItem_107 s_25 (by decide) rfl (by decide) (by omega) ?_
        refine sx_getS (k := 9) (t := 18) cl_0 fl_X4_25 dX4_doItem_110 s_13 (by decide) rfl (by decide) ?_
        refine sx_iload_n dX4_doItem_113 rfl ?_
        refine sy_iaF (F := fun z => (0 : Int) ≤ z ∧ z ≤ 60) dX4_doItem_114 s_18 (by decide) (by decide) ⟨by omega, by omega⟩ (hI.1.1 18 _) (fun r11 => ?_)
        refine sx_aload_n dX4_doItem_115 rfl ?_
        refine sx_getR (k := 0) (t := 13) cl_4 fl_X4_34 dX4_doItem_116 s_25 (by decide) rfl (by decide) (by omega) ?_
        refine sx_getS (k := 9) (t := 18) cl_0 fl_X4_25 dX4_doItem_119 s_13 (by decide) rfl (by decide) ?_
        refine sx_iload_n dX4_doItem_122 rfl ?_
        refine sx_iconst dX4_doItem_123 ⟨by decide, by decide⟩ ?_
        refine sx_iadd dX4_doItem_124 ?_
        refine sy_topw (by omega) ?_
        refine sy_iaF (F := fun z => (0 : Int) ≤ z ∧ z ≤ 60) dX4_doItem_125 s_18 (by decide) (by decide) ⟨by omega, by omega⟩ (hI.1.1 18 _) (fun r12 => ?_)
        refine sx_iload_n dX4_doItem_126 rfl ?_
        refine sx_iconst dX4_doItem_127 ⟨by decide, by decide⟩ ?_
        refine sx_iadd dX4_doItem_128 ?_
        refine sy_topw (by omega) ?_
        refine sx_callVv lk_X4_46 cl_4 s_25 (by decide) dX4_doItem_129 (vs := [_, _, _]) rfl rfl (Nat.le_of_ble_eq_true rfl) (Nat.le_of_ble_eq_true rfl) rfl (hgo (by omega) _ hI.1 (by omega) (by omega) _ _ (by omega)) (fun h13 ph13 => ?_)
        obtain ⟨Kh13, b_h13⟩ := ph13
        have Ih13 := hI.tr Kh13 sb_prE_prE
        have th13_25_0 := Kh13.2 (25) 0 rfl
        have th13_25_1 := Kh13.2 (25) 1 rfl
        refine sx_iload_n dX4_doItem_132 rfl ?_
        refine sx_iconst dX4_doItem_133 ⟨by decide, by decide⟩ ?_
        refine sx_iadd dX4_doItem_134 ?_
        refine sy_topw (by omega) ?_
        refine sx_ireturn dX4_doItem_135 ?_
        exact ⟨_, rfl, ⟨Ih13, by omega⟩⟩
  ·
    refine sx_aload_n dX4_doItem_136 rfl ?_
    refine sx_getR (k := 1) (t := o) cl_4 fl_X4_38 dX4_doItem_137 s_25 (by decide) rfl (by decide) (by omega) ?_
    refine sx_callVi lk_X4_71 cl_8 So0 Bo0 dX4_doItem_140 (vs := []) rfl rfl (Nat.le_of_ble_eq_true rfl) (Nat.le_of_ble_eq_true rfl) rfl (c_X8_takeTop _ hI.1 (o) hom) (fun x16 h15 ph15 => ?_)
    have Kh15 := ph15
    have Ih15 := hI.tr Kh15 sb_prE_prS
    have th15_25_0 := Kh15.2 (25) 0 rfl
    have th15_25_1 := Kh15.2 (25) 1 rfl
    have th15_25_2 := Kh15.2 (25) 2 rfl
    refine sx_if_eq (tgt := 152) dX4_doItem_143 (by decide) (fun c17 => ?_) (fun c17 => ?_)
    ·
      refine sx_aload_n dX4_doItem_152 rfl ?_
      refine sx_getR (k := 0) (t := 13) cl_4 fl_X4_34 dX4_doItem_153 s_25 (by decide) rfl (by decide) (by omega) ?_
      refine sx_getS (k := 7) (t := 16) cl_0 fl_X4_75 dX4_doItem_156 s_13 (by decide) rfl (by decide) ?_
      refine sx_iload_n dX4_doItem_159 rfl ?_
      refine sy_iaF (F := fun z => (0 : Int) ≤ z ∧ z ≤ 59) dX4_doItem_160 s_16 (by decide) (by decide) ⟨by omega, by omega⟩ (Ih15.1.1 16 _) (fun r18 => ?_)
      refine sx_iconst dX4_doItem_161 ⟨by decide, by decide⟩ ?_
      refine sx_iadd dX4_doItem_162 ?_
      refine sy_topw (by omega) ?_
      refine sx_ireturn dX4_doItem_163 ?_
      exact ⟨_, rfl, ⟨Ih15, by omega⟩⟩
    ·
      refine sx_iload_n dX4_doItem_146 rfl ?_
      refine sx_iconst dX4_doItem_147 ⟨by decide, by decide⟩ ?_
      refine sx_iadd dX4_doItem_148 ?_
      refine sy_topw (by omega) ?_
      refine sx_goto (tgt := 163) dX4_doItem_149 (by decide) ?_
      refine sx_ireturn dX4_doItem_163 ?_
      exact ⟨_, rfl, ⟨Ih15, by omega⟩⟩
  ·
    refine sx_aload_n dX4_doItem_164 rfl ?_
    refine sx_getR (k := 0) (t := 13) cl_4 fl_X4_34 dX4_doItem_165 s_25 (by decide) rfl (by decide) (by omega) ?_
    refine sx_getS (k := 7) (t := 16) cl_0 fl_X4_75 dX4_doItem_168 s_13 (by decide) rfl (by decide) ?_
    refine sx_iload_n dX4_doItem_171 rfl ?_
    refine sy_iaF (F := fun z => (0 : Int) ≤ z ∧ z ≤ 59) dX4_doItem_172 s_16 (by decide) (by decide) ⟨by omega, by omega⟩ (hI.1.1 16 _) (fun r19 => ?_)
    refine sx_iconst dX4_doItem_173 ⟨by decide, by decide⟩ ?_
    refine sx_iadd dX4_doItem_174 ?_
    refine sy_topw (by omega) ?_
    refine sx_ireturn dX4_doItem_175 ?_
    exact ⟨_, rfl, ⟨hI, by omega⟩⟩
  ·
    refine sx_iload_n dX4_doItem_230 rfl ?_
    refine sx_iconst dX4_doItem_231 ⟨by decide, by decide⟩ ?_
    refine sx_iadd dX4_doItem_232 ?_
    refine sy_topw (by omega) ?_
    refine sx_ireturn dX4_doItem_233 ?_
    exact ⟨_, rfl, ⟨hI, by omega⟩⟩
  ·
    refine sx_aload_n dX4_doItem_176 rfl ?_
    refine sx_getS (k := 3) (t := 26) cl_4 fl_X4_9 dX4_doItem_177 s_25 (by decide) rfl (by decide) ?_
    refine sx_iload_n dX4_doItem_180 rfl ?_
    refine sx_iload_n dX4_doItem_181 rfl ?_
    refine sy_iastore dX4_doItem_182 s_26 (by decide) (by decide) ⟨by omega, by omega⟩ (fun h20 eh20 => ?_)
    have Ih20 := hI.up eh20 trivial rfl rfl
    have th20_25_0 := eh20.2 (25) 0 (by omega)
    have th20_25_1 := eh20.2 (25) 1 (by omega)
    have th20_25_2 := eh20.2 (25) 2 (by omega)
    refine sx_iload_n dX4_doItem_183 rfl ?_
    refine sx_iconst dX4_doItem_184 ⟨by decide, by decide⟩ ?_
    refine sx_iadd dX4_doItem_185 ?_
    refine sy_topw (by omega) ?_
    refine sx_ireturn dX4_doItem_186 ?_
    exact ⟨_, rfl, ⟨Ih20, by omega⟩⟩
  ·
    refine sx_aload_n dX4_doItem_187 rfl ?_
    refine sx_getR (k := 0) (t := 13) cl_4 fl_X4_34 dX4_doItem_188 s_25 (by decide) rfl (by decide) (by omega) ?_
    refine sx_getS (k := 7) (t := 16) cl_0 fl_X4_75 dX4_doItem_191 s_13 (by decide) rfl (by decide) ?_
    refine sx_iload_n dX4_doItem_194 rfl ?_
    refine sy_iaF (F := fun z => (0 : Int) ≤ z ∧ z ≤ 59) dX4_doItem_195 s_16 (by decide) (by decide) ⟨by omega, by omega⟩ (hI.1.1 16 _) (fun r21 => ?_)
    refine sy_top (fun v22 ev22 => ?_)
    refine sx_istore dX4_doItem_196 (by decide) ?_
    refine sx_aload_n dX4_doItem_198 rfl ?_
    refine sx_getS (k := 3) (t := 26) cl_4 fl_X4_9 dX4_doItem_199 s_25 (by decide) rfl (by decide) ?_
    refine sx_iload dX4_doItem_202 rfl ?_
    refine sx_dup2 dX4_doItem_204 ?_
    refine sx_iaload dX4_doItem_205 s_26 (by decide) (by decide) ⟨by omega, by omega⟩ ?_
    refine sx_iconst dX4_doItem_206 ⟨by decide, by decide⟩ ?_
    refine sx_isub dX4_doItem_207 ?_
    refine sy_iastore dX4_doItem_208 s_26 (by decide) (by decide) ⟨by omega, by omega⟩ (fun h23 eh23 => ?_)
    have Ih23 := hI.up eh23 trivial rfl rfl
    have th23_25_0 := eh23.2 (25) 0 (by omega)
    have th23_25_1 := eh23.2 (25) 1 (by omega)
    have th23_25_2 := eh23.2 (25) 2 (by omega)
    refine sx_aload_n dX4_doItem_209 rfl ?_
    refine sx_getS (k := 3) (t := 26) cl_4 fl_X4_9 dX4_doItem_210 s_25 (by decide) rfl (by decide) ?_
    refine sx_iload dX4_doItem_213 rfl ?_
    refine sx_iaload dX4_doItem_215 s_26 (by decide) (by decide) ⟨by omega, by omega⟩ ?_
    refine sx_if_le (tgt := 226) dX4_doItem_216 (by decide) (fun c24 => ?_) (fun c24 => ?_)
    ·
      refine sx_iload_n dX4_doItem_226 rfl ?_
      refine sx_iconst dX4_doItem_227 ⟨by decide, by decide⟩ ?_
      refine sx_iadd dX4_doItem_228 ?_
      refine sy_topw (by omega) ?_
      refine sx_ireturn dX4_doItem_229 ?_
      exact ⟨_, rfl, ⟨Ih23, by omega⟩⟩
    ·
      refine sx_iload dX4_doItem_219 rfl ?_
      refine sx_iconst dX4_doItem_221 ⟨by decide, by decide⟩ ?_
      refine sx_iadd dX4_doItem_222 ?_
      refine sy_topw (by omega) ?_
      refine sx_goto (tgt := 229) dX4_doItem_223 (by decide) ?_
      refine sx_ireturn dX4_doItem_229 ?_
      exact ⟨_, rfl, ⟨Ih23, by omega⟩⟩
set_option maxRecDepth 20000 in
set_option maxHeartbeats 4000000 in
theorem o_X4_goOver_25_13 {G : sw_G} (d : Nat) {h0 : sw_H} (hJ : cJ h0) (o : Nat) (hom : o ∈ stL) (hc : h0 25 0 = 13) (hs : h0 25 1 = (o : Int)) (dp : Int) (hdo : ∀ (h1 : sw_H), cJ h1 → h1 25 0 = 13 → h1 25 1 = (o : Int) → ∀ i : Int, 0 ≤ i ∧ i < 60 → sw_E G NH SH d mX4_doItem 0 [some (sw_r 25), some (sw_i i), some (sw_i dp), none, none] [] h1 (sw_Qi (fun z h' => cK prE h1 h' ∧ h' 25 2 ≤ h1 25 2))) (a b : Int) (hb : b ≤ 60) : sw_E G NH SH (d + 1) mX4_goOver 0 [some (sw_r 25), some (sw_i a), some (sw_i b), some (sw_i dp), none] [] h0 (sw_Qv (fun h' => cK prE h0 h' ∧ h' 25 2 ≤ h0 25 2)) := by
  have hI : cK prE h0 h0 := cK.refl hJ
  obtain ⟨So0, So1, So2, bo⟩ := s_St o hom
  have Bo0 : o < NH := show o < 290 by omega
  have Bo1 : o + 1 < NH := show o + 1 < 290 by omega
  have Bo2 : o + 2 < NH := show o + 2 < 290 by omega
  refine sx_iload_n dX4_goOver_0 rfl ?_
  refine sx_istore dX4_goOver_1 (by decide) ?_
  refine sx_loop1 (fun (h : sw_H) (i : Int) => (cK prE h0 h) ∧ (h 25 0 = 13) ∧ (h 25 1 = (o : Int)) ∧ (h 25 2 ≤ h0 25 2)) (fun (h : sw_H) (i : Int) => (h 25 2).toNat) (fun (h : sw_H) (i : Int) => sw_E G NH SH (d + 1) mX4_goOver 3 [some (sw_r 25), some (sw_i a), some (sw_i b), some (sw_i dp), some (sw_i i)] [] h (sw_Qv (fun h' => cK prE h0 h' ∧ h' 25 2 ≤ h0 25 2))) ?_ _ _ ?_
  · rintro h1 i_2 ⟨Ih1, j3, j4, j5⟩ ihh1
    try dsimp only at ihh1
    refine sx_iload dX4_goOver_3 rfl ?_
    refine sx_if_lt (tgt := 43) dX4_goOver_5 (by decide) (fun c6 => ?_) (fun c6 => ?_)
    ·
      refine sx_ret dX4_goOver_43 ?_
      exact ⟨rfl, ⟨Ih1, by omega⟩⟩
    ·
      refine sx_iload dX4_goOver_8 rfl ?_
      refine sx_iload_n dX4_goOver_10 rfl ?_
      refine sx_icmp_ge (tgt := 43) dX4_goOver_11 (by decide) (fun c7 => ?_) (fun c7 => ?_)
      ·
        refine sx_ret dX4_goOver_43 ?_
        exact ⟨rfl, ⟨Ih1, by omega⟩⟩
      ·
        refine sx_aload_n dX4_goOver_14 rfl ?_
        refine sx_getI (k := 2) cl_4 fl_X4_42 dX4_goOver_15 s_25 (by decide) rfl (by decide) ?_
        have r8 : (0 : Int) ≤ h1 25 2 ∧ h1 25 2 ≤ 1000000 := Ih1.1.1 25 2
        refine sx_if_le (tgt := 43) dX4_goOver_18 (by decide) (fun c9 => ?_) (fun c9 => ?_)
        ·
          refine sx_ret dX4_goOver_43 ?_
          exact ⟨rfl, ⟨Ih1, by omega⟩⟩
        ·
          refine sx_aload_n dX4_goOver_21 rfl ?_
          refine sx_dupr dX4_goOver_22 ?_
          refine sx_getI (k := 2) cl_4 fl_X4_42 dX4_goOver_23 s_25 (by decide) rfl (by decide) ?_
          have r10 : (0 : Int) ≤ h1 25 2 ∧ h1 25 2 ≤ 1000000 := Ih1.1.1 25 2
          refine sx_iconst dX4_goOver_26 ⟨by decide, by decide⟩ ?_
          refine sx_isub dX4_goOver_27 ?_
          refine sy_topw (by omega) ?_
          refine sy_putI (k := 2) cl_4 fl_X4_42 dX4_goOver_28 s_25 (by decide) rfl (by decide) rfl rfl (fun h11 eh11 => ?_)
          have Ih11 := Ih1.up eh11 (show (0 : Int) ≤ _ ∧ _ ≤ (1000000 : Int) from ⟨by omega, by omega⟩) rfl rfl
          have th11_25_0 := eh11.2 (25) 0 (by decide)
          have th11_25_1 := eh11.2 (25) 1 (by decide)
          have th11_25_2 := eh11.1
          refine sx_aload_n dX4_goOver_31 rfl ?_
          refine sx_iload dX4_goOver_32 rfl ?_
          refine sx_iload_n dX4_goOver_34 rfl ?_
          refine sx_callVi lk_X4_50 cl_4 s_25 (by decide) dX4_goOver_35 (vs := [_, _]) rfl rfl (Nat.le_of_ble_eq_true rfl) (Nat.le_of_ble_eq_true rfl) rfl (hdo _ Ih11.1 (by omega) (by omega) _ (by omega)) (fun x13 h12 ph12 => ?_)
          obtain ⟨Kh12, b_h12⟩ := ph12
          have Ih12 := Ih11.tr Kh12 sb_prE_prE
          have th12_25_0 := Kh12.2 (25) 0 rfl
          have th12_25_1 := Kh12.2 (25) 1 rfl
          refine sx_istore dX4_goOver_38 (by decide) ?_
          refine sx_goto (tgt := 3) dX4_goOver_40 (by decide) ?_
          exact ihh1 _ _ ⟨Ih12, by omega, by omega, by omega⟩ (by exact sy_dec (by omega) (by omega))
  · exact ⟨hI, by omega, by omega, by omega⟩
theorem c_X4_goOver_25_13 {G : sw_G} : ∀ (n d : Nat) {h0 : sw_H} (_ : cJ h0) (o : Nat) (_ : o ∈ stL) (_ : h0 25 0 = 13) (_ : h0 25 1 = (o : Int)) (dp : Int) (_ : 0 ≤ dp) (_ : 6 - dp ≤ n) (a b : Int) (_ : b ≤ 60), sw_E G NH SH (d + 2 * n + 3) mX4_goOver 0 [some (sw_r 25), some (sw_i a), some (sw_i b), some (sw_i dp), none] [] h0 (sw_Qv (fun h' => cK prE h0 h' ∧ h' 25 2 ≤ h0 25 2)) := by
  intro n
  induction n with
  | zero =>
    intro d h0 hJ o hom hc hs dp hd0 hdp a b hb
    exact o_X4_goOver_25_13 (d + 2) hJ o hom hc hs dp (fun h1 hJ1 hc1 hs1 i hi => o_X4_doItem_25_13 (d + 1) hJ1 o hom hc1 hs1 dp hd0 (fun hlt => absurd hlt (by omega)) i hi) a b hb
  | succ n ih =>
    intro d h0 hJ o hom hc hs dp hd0 hdp a b hb
    exact o_X4_goOver_25_13 (d + 2 * n + 4) hJ o hom hc hs dp (fun h1 hJ1 hc1 hs1 i hi => o_X4_doItem_25_13 (d + 2 * n + 3) hJ1 o hom hc1 hs1 dp hd0 (fun hlt h2 hJ2 hc2 hs2 a2 b2 hb2 => ih d hJ2 o hom hc2 hs2 (dp + 1) (by omega) (by omega) a2 b2 hb2) i hi) a b hb
set_option maxRecDepth 20000 in
set_option maxHeartbeats 4000000 in
theorem c_X4_doItems_25_13 {G : sw_G} (d : Nat) {h0 : sw_H} (hJ : cJ h0) (o : Nat) (hom : o ∈ stL) (a b : Int) (hb : b ≤ 60) : sw_E G NH SH (d + 16) mX4_doItems 0 [some (sw_r 25), some (sw_r 13), some (sw_r o), some (sw_i a), some (sw_i b)] [] h0 (sw_Qv (fun h' => cK prD h0 h')) := by
  have hI : cK prD h0 h0 := cK.refl hJ
  obtain ⟨So0, So1, So2, bo⟩ := s_St o hom
  have Bo0 : o < NH := show o < 290 by omega
  have Bo1 : o + 1 < NH := show o + 1 < 290 by omega
  have Bo2 : o + 2 < NH := show o + 2 < 290 by omega
  refine sx_aload_n dX4_doItems_0 rfl ?_
  refine sx_aload_n dX4_doItems_1 rfl ?_
  refine sy_putR (k := 0) cl_4 fl_X4_34 dX4_doItems_2 s_25 (by decide) rfl (by decide) rfl rfl (by decide) (fun h1 eh1 => ?_)
  have Ih1 := hI.up eh1 trivial rfl rfl
  have th1_25_0 := eh1.1
  have th1_25_1 := eh1.2 (25) 1 (by decide)
  refine sx_aload_n dX4_doItems_5 rfl ?_
  refine sx_aload_n dX4_doItems_6 rfl ?_
  refine sy_putR (k := 1) cl_4 fl_X4_38 dX4_doItems_7 s_25 (by decide) rfl (by decide) rfl rfl (by omega) (fun h2 eh2 => ?_)
  have Ih2 := Ih1.up eh2 trivial rfl rfl
  have th2_25_0 := eh2.2 (25) 0 (by decide)
  have th2_25_1 := eh2.1
  refine sx_aload_n dX4_doItems_10 rfl ?_
  refine sx_ldc kc_X4_41 ⟨by decide, by decide⟩ dX4_doItems_11 ?_
  refine sy_putI (k := 2) cl_4 fl_X4_42 dX4_doItems_13 s_25 (by decide) rfl (by decide) rfl rfl (fun h3 eh3 => ?_)
  have Ih3 := Ih2.up eh3 (show (0 : Int) ≤ _ ∧ _ ≤ (1000000 : Int) from ⟨by omega, by omega⟩) rfl rfl
  have th3_25_0 := eh3.2 (25) 0 (by decide)
  have th3_25_1 := eh3.2 (25) 1 (by decide)
  refine sx_aload_n dX4_doItems_16 rfl ?_
  refine sx_iload_n dX4_doItems_17 rfl ?_
  refine sx_iload dX4_doItems_18 rfl ?_
  refine sx_iconst dX4_doItems_20 ⟨by decide, by decide⟩ ?_
  refine sx_callVv lk_X4_46 cl_4 s_25 (by decide) dX4_doItems_21 (vs := [_, _, _]) rfl rfl (Nat.le_of_ble_eq_true rfl) (Nat.le_of_ble_eq_true rfl) rfl (c_X4_goOver_25_13 6 _ Ih3.1 o hom (by omega) (by omega) 0 (by decide) (by decide) _ _ (by omega)) (fun h4 ph4 => ?_)
  obtain ⟨Kh4, b_h4⟩ := ph4
  have Ih4 := Ih3.tr Kh4 sb_prD_prE
  have th4_25_0 := Kh4.2 (25) 0 rfl
  have th4_25_1 := Kh4.2 (25) 1 rfl
  refine sx_ret dX4_doItems_24 ?_
  exact ⟨rfl, Ih4⟩
set_option maxRecDepth 20000 in
set_option maxHeartbeats 4000000 in
theorem c_X4_doWord_25_13 {G : sw_G} (d : Nat) {h0 : sw_H} (hJ : cJ h0) (o : Nat) (hom : o ∈ stL) (w : Int) (hw : 0 ≤ w ∧ w < 6) : sw_E G NH SH (d + 17) mX4_doWord 0 [some (sw_r 25), some (sw_r 13), some (sw_r o), some (sw_i w)] [] h0 (sw_Qv (fun h' => cK prD h0 h')) := by
  have hI : cK prD h0 h0 := cK.refl hJ
  obtain ⟨So0, So1, So2, bo⟩ := s_St o hom
  have Bo0 : o < NH := show o < 290 by omega
  have Bo1 : o + 1 < NH := show o + 1 < 290 by omega
  have Bo2 : o + 2 < NH := show o + 2 < 290 by omega
  refine sx_aload_n dX4_doWord_0 rfl ?_
  refine sx_aload_n dX4_doWord_1 rfl ?_
  refine sx_aload_n dX4_doWord_2 rfl ?_
  refine sx_aload_n dX4_doWord_3 rfl ?_
  refine sx_getS (k := 9) (t := 18) cl_0 fl_X4_25 dX4_doWord_4 s_13 (by decide) rfl (by decide) ?_
  refine sx_iload_n dX4_doWord_7 rfl ?_
  refine sy_iaF (F := fun z => (0 : Int) ≤ z ∧ z ≤ 60) dX4_doWord_8 s_18 (by decide) (by decide) ⟨by omega, by omega⟩ (hI.1.1 18 _) (fun r1 => ?_)
  refine sx_aload_n dX4_doWord_9 rfl ?_
  refine sx_getS (k := 9) (t := 18) cl_0 fl_X4_25 dX4_doWord_10 s_13 (by decide) rfl (by decide) ?_
  refine sx_iload_n dX4_doWord_13 rfl ?_
  refine sx_iconst dX4_doWord_14 ⟨by decide, by decide⟩ ?_
  refine sx_iadd dX4_doWord_15 ?_
  refine sy_topw (by omega) ?_
  refine sy_iaF (F := fun z => (0 : Int) ≤ z ∧ z ≤ 60) dX4_doWord_16 s_18 (by decide) (by decide) ⟨by omega, by omega⟩ (hI.1.1 18 _) (fun r2 => ?_)
  refine sx_callVv lk_X4_30 cl_4 s_25 (by decide) dX4_doWord_17 (vs := [_, _, _, _]) rfl rfl (Nat.le_of_ble_eq_true rfl) (Nat.le_of_ble_eq_true rfl) rfl (c_X4_doItems_25_13 _ hI.1 (o) hom _ _ (by omega)) (fun h3 ph3 => ?_)
  have Kh3 := ph3
  have Ih3 := hI.tr Kh3 sb_prD_prD
  refine sx_ret dX4_doWord_20 ?_
  exact ⟨rfl, Ih3⟩
set_option maxRecDepth 20000 in
set_option maxHeartbeats 4000000 in
theorem o_X4_doItem_197_1 {G : sw_G} (d : Nat) {h0 : sw_H} (hJ : cJ h0) (o : Nat) (hom : o ∈ stL) (hc : h0 197 0 = 1) (hs : h0 197 1 = (o : Int)) (dp : Int) (hdp : 0 ≤ dp) (hgo : dp < 6 → ∀ (h1 : sw_H), cJ h1 → h1 197 0 = 1 → h1 197 1 = (o : Int) → ∀ a b : Int, b ≤ 60 → sw_E G NH SH d mX4_goOver 0 [some (sw_r 197), some (sw_i a), some (sw_i b), some (sw_i (dp + 1)), none] [] h1 (sw_Qv (fun h' => cK prE h1 h' ∧ h' 197 2 ≤ h1 197 2))) (i : Int) (hi : 0 ≤ i ∧ i < 60) : sw_E G NH SH (d + 1) mX4_doItem 0 [some (sw_r 197), some (sw_i i), some (sw_i dp), none, none] [] h0 (sw_Qi (fun z h' => cK prE h0 h' ∧ h' 197 2 ≤ h0 197 2)) := by
  have hI : cK prE h0 h0 := cK.refl hJ
  obtain ⟨So0, So1, So2, bo⟩ := s_St o hom
  have Bo0 : o < NH := show o < 290 by omega
  have Bo1 : o + 1 < NH := show o + 1 < 290 by omega
  have Bo2 : o + 2 < NH := show o + 2 < 290 by omega
  have rw : (0 : Int) ≤ h0 1 0 ∧ h0 1 0 ≤ 6 := hI.1.1 1 0
  refine sx_aload_n dX4_doItem_0 rfl ?_
  refine sx_getR (k := 0) (t := 1) cl_4 fl_X4_34 dX4_doItem_1 s_197 (by decide) rfl (by decide) (by omega) ?_
  refine sx_getS (k := 6) (t := 3) cl_0 fl_X4_54 dX4_doItem_4 s_1 (by decide) rfl (by decide) ?_
  refine sx_iload_n dX4_doItem_7 rfl ?_
  refine sx_iaload dX4_doItem_8 s_3 (by decide) (by decide) ⟨by omega, by omega⟩ ?_
  refine sy_top (fun v1 ev1 => ?_)
  refine sx_istore_n dX4_doItem_9 (by decide) ?_
  refine sx_aload_n dX4_doItem_10 rfl ?_
  refine sx_getR (k := 0) (t := 1) cl_4 fl_X4_34 dX4_doItem_11 s_197 (by decide) rfl (by decide) (by omega) ?_
  refine sx_getS (k := 5) (t := 2) cl_0 fl_X4_57 dX4_doItem_14 s_1 (by decide) rfl (by decide) ?_
  refine sx_iload_n dX4_doItem_17 rfl ?_
  refine sx_iaload dX4_doItem_18 s_2 (by decide) (by decide) ⟨by omega, by omega⟩ ?_
  refine sx_tsw (dt := 230) (ts := [64, 76, 88, 136, 164, 230, 176, 187]) dX4_doItem_19 (by decide) (by decide) (by decide) (fun c2 => ?_) (And.intro (fun c2 => ?_) (And.intro (fun c2 => ?_) (And.intro (fun c2 => ?_) (And.intro (fun c2 => ?_) (And.intro (fun c2 => ?_) (And.intro (fun c2 => ?_) (And.intro (fun c2 => ?_) (And.intro (fun c2 => ?_) trivial))))))))
  ·
    refine sx_iload_n dX4_doItem_230 rfl ?_
    refine sx_iconst dX4_doItem_231 ⟨by decide, by decide⟩ ?_
    refine sx_iadd dX4_doItem_232 ?_
    refine sy_topw (by omega) ?_
    refine sx_ireturn dX4_doItem_233 ?_
    exact ⟨_, rfl, ⟨hI, by omega⟩⟩
  ·
    refine sx_aload_n dX4_doItem_64 rfl ?_
    refine sx_getR (k := 1) (t := o) cl_4 fl_X4_38 dX4_doItem_65 s_197 (by decide) rfl (by decide) (by omega) ?_
    refine sx_iload_n dX4_doItem_68 rfl ?_
    refine sx_callVv lk_X4_60 cl_8 So0 Bo0 dX4_doItem_69 (vs := [_]) rfl rfl (Nat.le_of_ble_eq_true rfl) (Nat.le_of_ble_eq_true rfl) rfl (c_X8_perform _ hI.1 (o) hom _) (fun h3 ph3 => ?_)
    have Kh3 := ph3
    have Ih3 := hI.tr Kh3 sb_prE_prS
    have th3_197_0 := Kh3.2 (197) 0 rfl
    have th3_197_1 := Kh3.2 (197) 1 rfl
    have th3_197_2 := Kh3.2 (197) 2 rfl
    refine sx_iload_n dX4_doItem_72 rfl ?_
    refine sx_iconst dX4_doItem_73 ⟨by decide, by decide⟩ ?_
    refine sx_iadd dX4_doItem_74 ?_
    refine sy_topw (by omega) ?_
    refine sx_ireturn dX4_doItem_75 ?_
    exact ⟨_, rfl, ⟨Ih3, by omega⟩⟩
  ·
    refine sx_aload_n dX4_doItem_76 rfl ?_
    refine sx_getR (k := 1) (t := o) cl_4 fl_X4_38 dX4_doItem_77 s_197 (by decide) rfl (by decide) (by omega) ?_
    refine sx_iload_n dX4_doItem_80 rfl ?_
    refine sx_callVv lk_X4_64 cl_8 So0 Bo0 dX4_doItem_81 (vs := [_]) rfl rfl (Nat.le_of_ble_eq_true rfl) (Nat.le_of_ble_eq_true rfl) rfl (c_X8_add _ hI.1 (o) hom _) (fun h5 ph5 => ?_)
    have Kh5 := ph5
    have Ih5 := hI.tr Kh5 sb_prE_prS
    have th5_197_0 := Kh5.2 (197) 0 rfl
    have th5_197_1 := Kh5.2 (197) 1 rfl
    have th5_197_2 := Kh5.2 (197) 2 rfl
    refine sx_iload_n dX4_doItem_84 rfl ?_
    refine sx_iconst dX4_doItem_85 ⟨by decide, by decide⟩ ?_
    refine sx_iadd dX4_doItem_86 ?_
    refine sy_topw (by omega) ?_
    refine sx_ireturn dX4_doItem_87 ?_
    exact ⟨_, rfl, ⟨Ih5, by omega⟩⟩
  ·
    refine sx_iload_n dX4_doItem_88 rfl ?_
    refine sx_bipush dX4_doItem_89 ⟨by decide, by decide, by decide⟩ ?_
    refine sx_icmp_ge (tgt := 132) dX4_doItem_91 (by decide) (fun c7 => ?_) (fun c7 => ?_)
    ·
      refine sx_iload_n dX4_doItem_132 rfl ?_
      refine sx_iconst dX4_doItem_133 ⟨by decide, by decide⟩ ?_
      refine sx_iadd dX4_doItem_134 ?_
      refine sy_topw (by omega) ?_
      refine sx_ireturn dX4_doItem_135 ?_
      exact ⟨_, rfl, ⟨hI, by omega⟩⟩
    ·
      refine sx_aload_n dX4_doItem_94 rfl ?_
      refine sx_getR (k := 0) (t := 1) cl_4 fl_X4_34 dX4_doItem_95 s_197 (by decide) rfl (by decide) (by omega) ?_
      refine sx_iload_n dX4_doItem_98 rfl ?_
      refine sx_callVz lk_X4_67 cl_0 s_1 (by decide) dX4_doItem_99 (vs := [_]) rfl rfl (Nat.le_of_ble_eq_true rfl) (Nat.le_of_ble_eq_true rfl) rfl (c_X0_hasWord_1 _ hI.1 _) (fun x9 h8 zx9 ph8 => ?_)
      obtain ⟨rfl, w_x9⟩ := ph8
      refine sx_if_eq (tgt := 132) dX4_doItem_102 (by decide) (fun c10 => ?_) (fun c10 => ?_)
      ·
        refine sx_iload_n dX4_doItem_132 rfl ?_
        refine sx_iconst dX4_doItem_133 ⟨by decide, by decide⟩ ?_
        refine sx_iadd dX4_doItem_134 ?_
        refine sy_topw (by omega) ?_
        refine sx_ireturn dX4_doItem_135 ?_
        exact ⟨_, rfl, ⟨hI, by omega⟩⟩
      ·
        refine sx_aload_n dX4_doItem_105 rfl ?_
        refine sx_aload_n dX4_doItem_106 rfl ?_
        refine sx_getR (k := 0) (t := 1) cl_4 fl_X4_34 dX4_doItem_107 s_197 (by decide) rfl (by decide) (by omega) ?_
        refine sx_getS (k := 9) (t := 6) cl_0 fl_X4_25 dX4_doItem_110 s_1 (by decide) rfl (by decide) ?_
        refine sx_iload_n dX4_doItem_113 rfl ?_
        refine sy_iaF (F := fun z => (0 : Int) ≤ z ∧ z ≤ 60) dX4_doItem_114 s_6 (by decide) (by decide) ⟨by omega, by omega⟩ (hI.1.1 6 _) (fun r11 => ?_)
        refine sx_aload_n dX4_doItem_115 rfl ?_
        refine sx_getR (k := 0) (t := 1) cl_4 fl_X4_34 dX4_doItem_116 s_197 (by decide) rfl (by decide) (by omega) ?_
        refine sx_getS (k := 9) (t := 6) cl_0 fl_X4_25 dX4_doItem_119 s_1 (by decide) rfl (by decide) ?_
        refine sx_iload_n dX4_doItem_122 rfl ?_
        refine sx_iconst dX4_doItem_123 ⟨by decide, by decide⟩ ?_
        refine sx_iadd dX4_doItem_124 ?_
        refine sy_topw (by omega) ?_
        refine sy_iaF (F := fun z => (0 : Int) ≤ z ∧ z ≤ 60) dX4_doItem_125 s_6 (by decide) (by decide) ⟨by omega, by omega⟩ (hI.1.1 6 _) (fun r12 => ?_)
        refine sx_iload_n dX4_doItem_126 rfl ?_
        refine sx_iconst dX4_doItem_127 ⟨by decide, by decide⟩ ?_
        refine sx_iadd dX4_doItem_128 ?_
        refine sy_topw (by omega) ?_
        refine sx_callVv lk_X4_46 cl_4 s_197 (by decide) dX4_doItem_129 (vs := [_, _, _]) rfl rfl (Nat.le_of_ble_eq_true rfl) (Nat.le_of_ble_eq_true rfl) rfl (hgo (by omega) _ hI.1 (by omega) (by omega) _ _ (by omega)) (fun h13 ph13 => ?_)
        obtain ⟨Kh13, b_h13⟩ := ph13
        have Ih13 := hI.tr Kh13 sb_prE_prE
        have th13_197_0 := Kh13.2 (197) 0 rfl
        have th13_197_1 := Kh13.2 (197) 1 rfl
        refine sx_iload_n dX4_doItem_132 rfl ?_
        refine sx_iconst dX4_doItem_133 ⟨by decide, by decide⟩ ?_
        refine sx_iadd dX4_doItem_134 ?_
        refine sy_topw (by omega) ?_
        refine sx_ireturn dX4_doItem_135 ?_
        exact ⟨_, rfl, ⟨Ih13, by omega⟩⟩
  ·
    refine sx_aload_n dX4_doItem_136 rfl ?_
    refine sx_getR (k := 1) (t := o) cl_4 fl_X4_38 dX4_doItem_137 s_197 (by decide) rfl (by decide) (by omega) ?_
    refine sx_callVi lk_X4_71 cl_8 So0 Bo0 dX4_doItem_140 (vs := []) rfl rfl (Nat.le_of_ble_eq_true rfl) (Nat.le_of_ble_eq_true rfl) rfl (c_X8_takeTop _ hI.1 (o) hom) (fun x16 h15 ph15 => ?_)
    have Kh15 := ph15
    have Ih15 := hI.tr Kh15 sb_prE_prS
    have th15_197_0 := Kh15.2 (197) 0 rfl
    have th15_197_1 := Kh15.2 (197) 1 rfl
    have th15_197_2 := Kh15.2 (197) 2 rfl
    refine sx_if_eq (tgt := 152) dX4_doItem_143 (by decide) (fun c17 => ?_) (fun c17 => ?_)
    ·
      refine sx_aload_n dX4_doItem_152 rfl ?_
      refine sx_getR (k := 0) (t := 1) cl_4 fl_X4_34 dX4_doItem_153 s_197 (by decide) rfl (by decide) (by omega) ?_
      refine sx_getS (k := 7) (t := 4) cl_0 fl_X4_75 dX4_doItem_156 s_1 (by decide) rfl (by decide) ?_
      refine sx_iload_n dX4_doItem_159 rfl ?_
      refine sy_iaF (F := fun z => (0 : Int) ≤ z ∧ z ≤ 59) dX4_doItem_160 s_4 (by decide) (by decide) ⟨by omega, by omega⟩ (Ih15.1.1 4 _) (fun r18 => ?_)
      refine sx_iconst dX4_doItem_161 ⟨by decide, by decide⟩ ?_
      refine sx_iadd dX4_doItem_162 ?_
      refine sy_topw (by omega) ?_
      refine sx_ireturn dX4_doItem_163 ?_
      exact ⟨_, rfl, ⟨Ih15, by omega⟩⟩
    ·
      refine sx_iload_n dX4_doItem_146 rfl ?_
      refine sx_iconst dX4_doItem_147 ⟨by decide, by decide⟩ ?_
      refine sx_iadd dX4_doItem_148 ?_
      refine sy_topw (by omega) ?_
      refine sx_goto (tgt := 163) dX4_doItem_149 (by decide) ?_
      refine sx_ireturn dX4_doItem_163 ?_
      exact ⟨_, rfl, ⟨Ih15, by omega⟩⟩
  ·
    refine sx_aload_n dX4_doItem_164 rfl ?_
    refine sx_getR (k := 0) (t := 1) cl_4 fl_X4_34 dX4_doItem_165 s_197 (by decide) rfl (by decide) (by omega) ?_
    refine sx_getS (k := 7) (t := 4) cl_0 fl_X4_75 dX4_doItem_168 s_1 (by decide) rfl (by decide) ?_
    refine sx_iload_n dX4_doItem_171 rfl ?_
    refine sy_iaF (F := fun z => (0 : Int) ≤ z ∧ z ≤ 59) dX4_doItem_172 s_4 (by decide) (by decide) ⟨by omega, by omega⟩ (hI.1.1 4 _) (fun r19 => ?_)
    refine sx_iconst dX4_doItem_173 ⟨by decide, by decide⟩ ?_
    refine sx_iadd dX4_doItem_174 ?_
    refine sy_topw (by omega) ?_
    refine sx_ireturn dX4_doItem_175 ?_
    exact ⟨_, rfl, ⟨hI, by omega⟩⟩
  ·
    refine sx_iload_n dX4_doItem_230 rfl ?_
    refine sx_iconst dX4_doItem_231 ⟨by decide, by decide⟩ ?_
    refine sx_iadd dX4_doItem_232 ?_
    refine sy_topw (by omega) ?_
    refine sx_ireturn dX4_doItem_233 ?_
    exact ⟨_, rfl, ⟨hI, by omega⟩⟩
  ·
    refine sx_aload_n dX4_doItem_176 rfl ?_
    refine sx_getS (k := 3) (t := 198) cl_4 fl_X4_9 dX4_doItem_177 s_197 (by decide) rfl (by decide) ?_
    refine sx_iload_n dX4_doItem_180 rfl ?_
    refine sx_iload_n dX4_doItem_181 rfl ?_
    refine sy_iastore dX4_doItem_182 s_198 (by decide) (by decide) ⟨by omega, by omega⟩ (fun h20 eh20 => ?_)
    have Ih20 := hI.up eh20 trivial rfl rfl
    have th20_197_0 := eh20.2 (197) 0 (by omega)
    have th20_197_1 := eh20.2 (197) 1 (by omega)
    have th20_197_2 := eh20.2 (197) 2 (by omega)
    refine sx_iload_n dX4_doItem_183 rfl ?_
    refine sx_iconst dX4_doItem_184 ⟨by decide, by decide⟩ ?_
    refine sx_iadd dX4_doItem_185 ?_
    refine sy_topw (by omega) ?_
    refine sx_ireturn dX4_doItem_186 ?_
    exact ⟨_, rfl, ⟨Ih20, by omega⟩⟩
  ·
    refine sx_aload_n dX4_doItem_187 rfl ?_
    refine sx_getR (k := 0) (t := 1) cl_4 fl_X4_34 dX4_doItem_188 s_197 (by decide) rfl (by decide) (by omega) ?_
    refine sx_getS (k := 7) (t := 4) cl_0 fl_X4_75 dX4_doItem_191 s_1 (by decide) rfl (by decide) ?_
    refine sx_iload_n dX4_doItem_194 rfl ?_
    refine sy_iaF (F := fun z => (0 : Int) ≤ z ∧ z ≤ 59) dX4_doItem_195 s_4 (by decide) (by decide) ⟨by omega, by omega⟩ (hI.1.1 4 _) (fun r21 => ?_)
    refine sy_top (fun v22 ev22 => ?_)
    refine sx_istore dX4_doItem_196 (by decide) ?_
    refine sx_aload_n dX4_doItem_198 rfl ?_
    refine sx_getS (k := 3) (t := 198) cl_4 fl_X4_9 dX4_doItem_199 s_197 (by decide) rfl (by decide) ?_
    refine sx_iload dX4_doItem_202 rfl ?_
    refine sx_dup2 dX4_doItem_204 ?_
    refine sx_iaload dX4_doItem_205 s_198 (by decide) (by decide) ⟨by omega, by omega⟩ ?_
    refine sx_iconst dX4_doItem_206 ⟨by decide, by decide⟩ ?_
    refine sx_isub dX4_doItem_207 ?_
    refine sy_iastore dX4_doItem_208 s_198 (by decide) (by decide) ⟨by omega, by omega⟩ (fun h23 eh23 => ?_)
    have Ih23 := hI.up eh23 trivial rfl rfl
    have th23_197_0 := eh23.2 (197) 0 (by omega)
    have th23_197_1 := eh23.2 (197) 1 (by omega)
    have th23_197_2 := eh23.2 (197) 2 (by omega)
    refine sx_aload_n dX4_doItem_209 rfl ?_
    refine sx_getS (k := 3) (t := 198) cl_4 fl_X4_9 dX4_doItem_210 s_197 (by decide) rfl (by decide) ?_
    refine sx_iload dX4_doItem_213 rfl ?_
    refine sx_iaload dX4_doItem_215 s_198 (by decide) (by decide) ⟨by omega, by omega⟩ ?_
    refine sx_if_le (tgt := 226) dX4_doItem_216 (by decide) (fun c24 => ?_) (fun c24 => ?_)
    ·
      refine sx_iload_n dX4_doItem_226 rfl ?_
      refine sx_iconst dX4_doItem_227 ⟨by decide, by decide⟩ ?_
      refine sx_iadd dX4_doItem_228 ?_
      refine sy_topw (by omega) ?_
      refine sx_ireturn dX4_doItem_229 ?_
      exact ⟨_, rfl, ⟨Ih23, by omega⟩⟩
    ·
      refine sx_iload dX4_doItem_219 rfl ?_
      refine sx_iconst dX4_doItem_221 ⟨by decide, by decide⟩ ?_
      refine sx_iadd dX4_doItem_222 ?_
      refine sy_topw (by omega) ?_
      refine sx_goto (tgt := 229) dX4_doItem_223 (by decide) ?_
      refine sx_ireturn dX4_doItem_229 ?_
      exact ⟨_, rfl, ⟨Ih23, by omega⟩⟩
set_option maxRecDepth 20000 in
set_option maxHeartbeats 4000000 in
theorem o_X4_goOver_197_1 {G : sw_G} (d : Nat) {h0 : sw_H} (hJ : cJ h0) (o : Nat) (hom : o ∈ stL) (hc : h0 197 0 = 1) (hs : h0 197 1 = (o : Int)) (dp : Int) (hdo : ∀ (h1 : sw_H), cJ h1 → h1 197 0 = 1 → h1 197 1 = (o : Int) → ∀ i : Int, 0 ≤ i ∧ i < 60 → sw_E G NH SH d mX4_doItem 0 [some (sw_r 197), some (sw_i i), some (sw_i dp), none, none] [] h1 (sw_Qi (fun z h' => cK prE h1 h' ∧ h' 197 2 ≤ h1 197 2))) (a b : Int) (hb : b ≤ 60) : sw_E G NH SH (d + 1) mX4_goOver 0 [some (sw_r 197), some (sw_i a), some (sw_i b), some (sw_i dp), none] [] h0 (sw_Qv (fun h' => cK prE h0 h' ∧ h' 197 2 ≤ h0 197 2)) := by
  have hI : cK prE h0 h0 := cK.refl hJ
  obtain ⟨So0, So1, So2, bo⟩ := s_St o hom
  have Bo0 : o < NH := show o < 290 by omega
  have Bo1 : o + 1 < NH := show o + 1 < 290 by omega
  have Bo2 : o + 2 < NH := show o + 2 < 290 by omega
  refine sx_iload_n dX4_goOver_0 rfl ?_
  refine sx_istore dX4_goOver_1 (by decide) ?_
  refine sx_loop1 (fun (h : sw_H) (i : Int) => (cK prE h0 h) ∧ (h 197 0 = 1) ∧ (h 197 1 = (o : Int)) ∧ (h 197 2 ≤ h0 197 2)) (fun (h : sw_H) (i : Int) => (h 197 2).toNat) (fun (h : sw_H) (i : Int) => sw_E G NH SH (d + 1) mX4_goOver 3 [some (sw_r 197), some (sw_i a), some (sw_i b), some (sw_i dp), some (sw_i i)] [] h (sw_Qv (fun h' => cK prE h0 h' ∧ h' 197 2 ≤ h0 197 2))) ?_ _ _ ?_
  · rintro h1 i_2 ⟨Ih1, j3, j4, j5⟩ ihh1
    try dsimp only at ihh1
    refine sx_iload dX4_goOver_3 rfl ?_
    refine sx_if_lt (tgt := 43) dX4_goOver_5 (by decide) (fun c6 => ?_) (fun c6 => ?_)
    ·
      refine sx_ret dX4_goOver_43 ?_
      exact ⟨rfl, ⟨Ih1, by omega⟩⟩
    ·
      refine sx_iload dX4_goOver_8 rfl ?_
      refine sx_iload_n dX4_goOver_10 rfl ?_
      refine sx_icmp_ge (tgt := 43) dX4_goOver_11 (by decide) (fun c7 => ?_) (fun c7 => ?_)
      ·
        refine sx_ret dX4_goOver_43 ?_
        exact ⟨rfl, ⟨Ih1, by omega⟩⟩
      ·
        refine sx_aload_n dX4_goOver_14 rfl ?_
        refine sx_getI (k := 2) cl_4 fl_X4_42 dX4_goOver_15 s_197 (by decide) rfl (by decide) ?_
        have r8 : (0 : Int) ≤ h1 197 2 ∧ h1 197 2 ≤ 1000000 := Ih1.1.1 197 2
        refine sx_if_le (tgt := 43) dX4_goOver_18 (by decide) (fun c9 => ?_) (fun c9 => ?_)
        ·
          refine sx_ret dX4_goOver_43 ?_
          exact ⟨rfl, ⟨Ih1, by omega⟩⟩
        ·
          refine sx_aload_n dX4_goOver_21 rfl ?_
          refine sx_dupr dX4_goOver_22 ?_
          refine sx_getI (k := 2) cl_4 fl_X4_42 dX4_goOver_23 s_197 (by decide) rfl (by decide) ?_
          have r10 : (0 : Int) ≤ h1 197 2 ∧ h1 197 2 ≤ 1000000 := Ih1.1.1 197 2
          refine sx_iconst dX4_goOver_26 ⟨by decide, by decide⟩ ?_
          refine sx_isub dX4_goOver_27 ?_
          refine sy_topw (by omega) ?_
          refine sy_putI (k := 2) cl_4 fl_X4_42 dX4_goOver_28 s_197 (by decide) rfl (by decide) rfl rfl (fun h11 eh11 => ?_)
          have Ih11 := Ih1.up eh11 (show (0 : Int) ≤ _ ∧ _ ≤ (1000000 : Int) from ⟨by omega, by omega⟩) rfl rfl
          have th11_197_0 := eh11.2 (197) 0 (by decide)
          have th11_197_1 := eh11.2 (197) 1 (by decide)
          have th11_197_2 := eh11.1
          refine sx_aload_n dX4_goOver_31 rfl ?_
          refine sx_iload dX4_goOver_32 rfl ?_
          refine sx_iload_n dX4_goOver_34 rfl ?_
          refine sx_callVi lk_X4_50 cl_4 s_197 (by decide) dX4_goOver_35 (vs := [_, _]) rfl rfl (Nat.le_of_ble_eq_true rfl) (Nat.le_of_ble_eq_true rfl) rfl (hdo _ Ih11.1 (by omega) (by omega) _ (by omega)) (fun x13 h12 ph12 => ?_)
          obtain ⟨Kh12, b_h12⟩ := ph12
          have Ih12 := Ih11.tr Kh12 sb_prE_prE
          have th12_197_0 := Kh12.2 (197) 0 rfl
          have th12_197_1 := Kh12.2 (197) 1 rfl
          refine sx_istore dX4_goOver_38 (by decide) ?_
          refine sx_goto (tgt := 3) dX4_goOver_40 (by decide) ?_
          exact ihh1 _ _ ⟨Ih12, by omega, by omega, by omega⟩ (by exact sy_dec (by omega) (by omega))
  · exact ⟨hI, by omega, by omega, by omega⟩
theorem c_X4_goOver_197_1 {G : sw_G} : ∀ (n d : Nat) {h0 : sw_H} (_ : cJ h0) (o : Nat) (_ : o ∈ stL) (_ : h0 197 0 = 1) (_ : h0 197 1 = (o : Int)) (dp : Int) (_ : 0 ≤ dp) (_ : 6 - dp ≤ n) (a b : Int) (_ : b ≤ 60), sw_E G NH SH (d + 2 * n + 3) mX4_goOver 0 [some (sw_r 197), some (sw_i a), some (sw_i b), some (sw_i dp), none] [] h0 (sw_Qv (fun h' => cK prE h0 h' ∧ h' 197 2 ≤ h0 197 2)) := by
  intro n
  induction n with
  | zero =>
    intro d h0 hJ o hom hc hs dp hd0 hdp a b hb
    exact o_X4_goOver_197_1 (d + 2) hJ o hom hc hs dp (fun h1 hJ1 hc1 hs1 i hi => o_X4_doItem_197_1 (d + 1) hJ1 o hom hc1 hs1 dp hd0 (fun hlt => absurd hlt (by omega)) i hi) a b hb
  | succ n ih =>
    intro d h0 hJ o hom hc hs dp hd0 hdp a b hb
    exact o_X4_goOver_197_1 (d + 2 * n + 4) hJ o hom hc hs dp (fun h1 hJ1 hc1 hs1 i hi => o_X4_doItem_197_1 (d + 2 * n + 3) hJ1 o hom hc1 hs1 dp hd0 (fun hlt h2 hJ2 hc2 hs2 a2 b2 hb2 => ih d hJ2 o hom hc2 hs2 (dp + 1) (by omega) (by omega) a2 b2 hb2) i hi) a b hb
set_option maxRecDepth 20000 in
set_option maxHeartbeats 4000000 in
theorem c_X4_doItems_197_1 {G : sw_G} (d : Nat) {h0 : sw_H} (hJ : cJ h0) (o : Nat) (hom : o ∈ stL) (a b : Int) (hb : b ≤ 60) : sw_E G NH SH (d + 16) mX4_doItems 0 [some (sw_r 197), some (sw_r 1), some (sw_r o), some (sw_i a), some (sw_i b)] [] h0 (sw_Qv (fun h' => cK prD h0 h')) := by
  have hI : cK prD h0 h0 := cK.refl hJ
  obtain ⟨So0, So1, So2, bo⟩ := s_St o hom
  have Bo0 : o < NH := show o < 290 by omega
  have Bo1 : o + 1 < NH := show o + 1 < 290 by omega
  have Bo2 : o + 2 < NH := show o + 2 < 290 by omega
  refine sx_aload_n dX4_doItems_0 rfl ?_
  refine sx_aload_n dX4_doItems_1 rfl ?_
  refine sy_putR (k := 0) cl_4 fl_X4_34 dX4_doItems_2 s_197 (by decide) rfl (by decide) rfl rfl (by decide) (fun h1 eh1 => ?_)
  have Ih1 := hI.up eh1 trivial rfl rfl
  have th1_197_0 := eh1.1
  have th1_197_1 := eh1.2 (197) 1 (by decide)
  refine sx_aload_n dX4_doItems_5 rfl ?_
  refine sx_aload_n dX4_doItems_6 rfl ?_
  refine sy_putR (k := 1) cl_4 fl_X4_38 dX4_doItems_7 s_197 (by decide) rfl (by decide) rfl rfl (by omega) (fun h2 eh2 => ?_)
  have Ih2 := Ih1.up eh2 trivial rfl rfl
  have th2_197_0 := eh2.2 (197) 0 (by decide)
  have th2_197_1 := eh2.1
  refine sx_aload_n dX4_doItems_10 rfl ?_
  refine sx_ldc kc_X4_41 ⟨by decide, by decide⟩ dX4_doItems_11 ?_
  refine sy_putI (k := 2) cl_4 fl_X4_42 dX4_doItems_13 s_197 (by decide) rfl (by decide) rfl rfl (fun h3 eh3 => ?_)
  have Ih3 := Ih2.up eh3 (show (0 : Int) ≤ _ ∧ _ ≤ (1000000 : Int) from ⟨by omega, by omega⟩) rfl rfl
  have th3_197_0 := eh3.2 (197) 0 (by decide)
  have th3_197_1 := eh3.2 (197) 1 (by decide)
  refine sx_aload_n dX4_doItems_16 rfl ?_
  refine sx_iload_n dX4_doItems_17 rfl ?_
  refine sx_iload dX4_doItems_18 rfl ?_
  refine sx_iconst dX4_doItems_20 ⟨by decide, by decide⟩ ?_
  refine sx_callVv lk_X4_46 cl_4 s_197 (by decide) dX4_doItems_21 (vs := [_, _, _]) rfl rfl (Nat.le_of_ble_eq_true rfl) (Nat.le_of_ble_eq_true rfl) rfl (c_X4_goOver_197_1 6 _ Ih3.1 o hom (by omega) (by omega) 0 (by decide) (by decide) _ _ (by omega)) (fun h4 ph4 => ?_)
  obtain ⟨Kh4, b_h4⟩ := ph4
  have Ih4 := Ih3.tr Kh4 sb_prD_prE
  have th4_197_0 := Kh4.2 (197) 0 rfl
  have th4_197_1 := Kh4.2 (197) 1 rfl
  refine sx_ret dX4_doItems_24 ?_
  exact ⟨rfl, Ih4⟩
set_option maxRecDepth 20000 in
set_option maxHeartbeats 4000000 in
theorem c_X4_doWord_197_1 {G : sw_G} (d : Nat) {h0 : sw_H} (hJ : cJ h0) (o : Nat) (hom : o ∈ stL) (w : Int) (hw : 0 ≤ w ∧ w < 6) : sw_E G NH SH (d + 17) mX4_doWord 0 [some (sw_r 197), some (sw_r 1), some (sw_r o), some (sw_i w)] [] h0 (sw_Qv (fun h' => cK prD h0 h')) := by
  have hI : cK prD h0 h0 := cK.refl hJ
  obtain ⟨So0, So1, So2, bo⟩ := s_St o hom
  have Bo0 : o < NH := show o < 290 by omega
  have Bo1 : o + 1 < NH := show o + 1 < 290 by omega
  have Bo2 : o + 2 < NH := show o + 2 < 290 by omega
  refine sx_aload_n dX4_doWord_0 rfl ?_
  refine sx_aload_n dX4_doWord_1 rfl ?_
  refine sx_aload_n dX4_doWord_2 rfl ?_
  refine sx_aload_n dX4_doWord_3 rfl ?_
  refine sx_getS (k := 9) (t := 6) cl_0 fl_X4_25 dX4_doWord_4 s_1 (by decide) rfl (by decide) ?_
  refine sx_iload_n dX4_doWord_7 rfl ?_
  refine sy_iaF (F := fun z => (0 : Int) ≤ z ∧ z ≤ 60) dX4_doWord_8 s_6 (by decide) (by decide) ⟨by omega, by omega⟩ (hI.1.1 6 _) (fun r1 => ?_)
  refine sx_aload_n dX4_doWord_9 rfl ?_
  refine sx_getS (k := 9) (t := 6) cl_0 fl_X4_25 dX4_doWord_10 s_1 (by decide) rfl (by decide) ?_
  refine sx_iload_n dX4_doWord_13 rfl ?_
  refine sx_iconst dX4_doWord_14 ⟨by decide, by decide⟩ ?_
  refine sx_iadd dX4_doWord_15 ?_
  refine sy_topw (by omega) ?_
  refine sy_iaF (F := fun z => (0 : Int) ≤ z ∧ z ≤ 60) dX4_doWord_16 s_6 (by decide) (by decide) ⟨by omega, by omega⟩ (hI.1.1 6 _) (fun r2 => ?_)
  refine sx_callVv lk_X4_30 cl_4 s_197 (by decide) dX4_doWord_17 (vs := [_, _, _, _]) rfl rfl (Nat.le_of_ble_eq_true rfl) (Nat.le_of_ble_eq_true rfl) rfl (c_X4_doItems_197_1 _ hI.1 (o) hom _ _ (by omega)) (fun h3 ph3 => ?_)
  have Kh3 := ph3
  have Ih3 := hI.tr Kh3 sb_prD_prD
  refine sx_ret dX4_doWord_20 ?_
  exact ⟨rfl, Ih3⟩
set_option maxRecDepth 20000 in
set_option maxHeartbeats 4000000 in
theorem o_X4_doItem_197_13 {G : sw_G} (d : Nat) {h0 : sw_H} (hJ : cJ h0) (o : Nat) (hom : o ∈ stL) (hc : h0 197 0 = 13) (hs : h0 197 1 = (o : Int)) (dp : Int) (hdp : 0 ≤ dp) (hgo : dp < 6 → ∀ (h1 : sw_H), cJ h1 → h1 197 0 = 13 → h1 197 1 = (o : Int) → ∀ a b : Int, b ≤ 60 → sw_E G NH SH d mX4_goOver 0 [some (sw_r 197), some (sw_i a), some (sw_i b), some (sw_i (dp + 1)), none] [] h1 (sw_Qv (fun h' => cK prE h1 h' ∧ h' 197 2 ≤ h1 197 2))) (i : Int) (hi : 0 ≤ i ∧ i < 60) : sw_E G NH SH (d + 1) mX4_doItem 0 [some (sw_r 197), some (sw_i i), some (sw_i dp), none, none] [] h0 (sw_Qi (fun z h' => cK prE h0 h' ∧ h' 197 2 ≤ h0 197 2)) := by
  have hI : cK prE h0 h0 := cK.refl hJ
  obtain ⟨So0, So1, So2, bo⟩ := s_St o hom
  have Bo0 : o < NH := show o < 290 by omega
  have Bo1 : o + 1 < NH := show o + 1 < 290 by omega
  have Bo2 : o + 2 < NH := show o + 2 < 290 by omega
  have rw : (0 : Int) ≤ h0 13 0 ∧ h0 13 0 ≤ 6 := hI.1.1 13 0
  refine sx_aload_n dX4_doItem_0 rfl ?_
  refine sx_getR (k := 0) (t := 13) cl_4 fl_X4_34 dX4_doItem_1 s_197 (by decide) rfl (by decide) (by omega) ?_
  refine sx_getS (k := 6) (t := 15) cl_0 fl_X4_54 dX4_doItem_4 s_13 (by decide) rfl (by decide) ?_
  refine sx_iload_n dX4_doItem_7 rfl ?_
  refine sx_iaload dX4_doItem_8 s_15 (by decide) (by decide) ⟨by omega, by omega⟩ ?_
  refine sy_top (fun v1 ev1 => ?_)
  refine sx_istore_n dX4_doItem_9 (by decide) ?_
  refine sx_aload_n dX4_doItem_10 rfl ?_
  refine sx_getR (k := 0) (t := 13) cl_4 fl_X4_34 dX4_doItem_11 s_197 (by decide) rfl (by decide) (by omega) ?_
  refine sx_getS (k := 5) (t := 14) cl_0 fl_X4_57 dX4_doItem_14 s_13 (by decide) rfl (by decide) ?_
  refine sx_iload_n dX4_doItem_17 rfl ?_
  refine sx_iaload dX4_doItem_18 s_14 (by decide) (by decide) ⟨by omega, by omega⟩ ?_
  refine sx_tsw (dt := 230) (ts := [64, 76, 88, 136, 164, 230, 176, 187]) dX4_doItem_19 (by decide) (by decide) (by decide) (fun c2 => ?_) (And.intro (fun c2 => ?_) (And.intro (fun c2 => ?_) (And.intro (fun c2 => ?_) (And.intro (fun c2 => ?_) (And.intro (fun c2 => ?_) (And.intro (fun c2 => ?_) (And.intro (fun c2 => ?_) (And.intro (fun c2 => ?_) trivial))))))))
  ·
    refine sx_iload_n dX4_doItem_230 rfl ?_
    refine sx_iconst dX4_doItem_231 ⟨by decide, by decide⟩ ?_
    refine sx_iadd dX4_doItem_232 ?_
    refine sy_topw (by omega) ?_
    refine sx_ireturn dX4_doItem_233 ?_
    exact ⟨_, rfl, ⟨hI, by omega⟩⟩
  ·
    refine sx_aload_n dX4_doItem_64 rfl ?_
    refine sx_getR (k := 1) (t := o) cl_4 fl_X4_38 dX4_doItem_65 s_197 (by decide) rfl (by decide) (by omega) ?_
    refine sx_iload_n dX4_doItem_68 rfl ?_
    refine sx_callVv lk_X4_60 cl_8 So0 Bo0 dX4_doItem_69 (vs := [_]) rfl rfl (Nat.le_of_ble_eq_true rfl) (Nat.le_of_ble_eq_true rfl) rfl (c_X8_perform _ hI.1 (o) hom _) (fun h3 ph3 => ?_)
    have Kh3 := ph3
    have Ih3 := hI.tr Kh3 sb_prE_prS
    have th3_197_0 := Kh3.2 (197) 0 rfl
    have th3_197_1 := Kh3.2 (197) 1 rfl
    have th3_197_2 := Kh3.2 (197) 2 rfl
    refine sx_iload_n dX4_doItem_72 rfl ?_
    refine sx_iconst dX4_doItem_73 ⟨by decide, by decide⟩ ?_
    refine sx_iadd dX4_doItem_74 ?_
    refine sy_topw (by omega) ?_
    refine sx_ireturn dX4_doItem_75 ?_
    exact ⟨_, rfl, ⟨Ih3, by omega⟩⟩
  ·
    refine sx_aload_n dX4_doItem_76 rfl ?_
    refine sx_getR (k := 1) (t := o) cl_4 fl_X4_38 dX4_doItem_77 s_197 (by decide) rfl (by decide) (by omega) ?_
    refine sx_iload_n dX4_doItem_80 rfl ?_
    refine sx_callVv lk_X4_64 cl_8 So0 Bo0 dX4_doItem_81 (vs := [_]) rfl rfl (Nat.le_of_ble_eq_true rfl) (Nat.le_of_ble_eq_true rfl) rfl (c_X8_add _ hI.1 (o) hom _) (fun h5 ph5 => ?_)
    have Kh5 := ph5
    have Ih5 := hI.tr Kh5 sb_prE_prS
    have th5_197_0 := Kh5.2 (197) 0 rfl
    have th5_197_1 := Kh5.2 (197) 1 rfl
    have th5_197_2 := Kh5.2 (197) 2 rfl
    refine sx_iload_n dX4_doItem_84 rfl ?_
    refine sx_iconst dX4_doItem_85 ⟨by decide, by decide⟩ ?_
    refine sx_iadd dX4_doItem_86 ?_
    refine sy_topw (by omega) ?_
    refine sx_ireturn dX4_doItem_87 ?_
    exact ⟨_, rfl, ⟨Ih5, by omega⟩⟩
  ·
    refine sx_iload_n dX4_doItem_88 rfl ?_
    refine sx_bipush dX4_doItem_89 ⟨by decide, by decide, by decide⟩ ?_
    refine sx_icmp_ge (tgt := 132) dX4_doItem_91 (by decide) (fun c7 => ?_) (fun c7 => ?_)
    ·
      refine sx_iload_n dX4_doItem_132 rfl ?_
      refine sx_iconst dX4_doItem_133 ⟨by decide, by decide⟩ ?_
      refine sx_iadd dX4_doItem_134 ?_
      refine sy_topw (by omega) ?_
      refine sx_ireturn dX4_doItem_135 ?_
      exact ⟨_, rfl, ⟨hI, by omega⟩⟩
    ·
      refine sx_aload_n dX4_doItem_94 rfl ?_
      refine sx_getR (k := 0) (t := 13) cl_4 fl_X4_34 dX4_doItem_95 s_197 (by decide) rfl (by decide) (by omega) ?_
      refine sx_iload_n dX4_doItem_98 rfl ?_
      refine sx_callVz lk_X4_67 cl_0 s_13 (by decide) dX4_doItem_99 (vs := [_]) rfl rfl (Nat.le_of_ble_eq_true rfl) (Nat.le_of_ble_eq_true rfl) rfl (c_X0_hasWord_13 _ hI.1 _) (fun x9 h8 zx9 ph8 => ?_)
      obtain ⟨rfl, w_x9⟩ := ph8
      refine sx_if_eq (tgt := 132) dX4_doItem_102 (by decide) (fun c10 => ?_) (fun c10 => ?_)
      ·
        refine sx_iload_n dX4_doItem_132 rfl ?_
        refine sx_iconst dX4_doItem_133 ⟨by decide, by decide⟩ ?_
        refine sx_iadd dX4_doItem_134 ?_
        refine sy_topw (by omega) ?_
        refine sx_ireturn dX4_doItem_135 ?_
        exact ⟨_, rfl, ⟨hI, by omega⟩⟩
      ·
        refine sx_aload_n dX4_doItem_105 rfl ?_
        refine sx_aload_n dX4_doItem_106 rfl ?_
        refine sx_getR (k := 0) (t := 13) cl_4 fl_X4_34 dX4_doItem_107 s_197 (by decide) rfl (by decide) (by omega) ?_
        refine sx_getS (k := 9) (t := 18) cl_0 fl_X4_25 dX4_doItem_110 s_13 (by decide) rfl (by decide) ?_
        refine sx_iload_n dX4_doItem_113 rfl ?_
        refine sy_iaF (F := fun z => (0 : Int) ≤ z ∧ z ≤ 60) dX4_doItem_114 s_18 (by decide) (by decide) ⟨by omega, by omega⟩ (hI.1.1 18 _) (fun r11 => ?_)
        refine sx_aload_n dX4_doItem_115 rfl ?_
        refine sx_getR (k := 0) (t := 13) cl_4 fl_X4_34 dX4_doItem_116 s_197 (by decide) rfl (by decide) (by omega) ?_
        refine sx_getS (k := 9) (t := 18) cl_0 fl_X4_25 dX4_doItem_119 s_13 (by decide) rfl (by decide) ?_
        refine sx_iload_n dX4_doItem_122 rfl ?_
        refine sx_iconst dX4_doItem_123 ⟨by decide, by decide⟩ ?_
        refine sx_iadd dX4_doItem_124 ?_
        refine sy_topw (by omega) ?_
        refine sy_iaF (F := fun z => (0 : Int) ≤ z ∧ z ≤ 60) dX4_doItem_125 s_18 (by decide) (by decide) ⟨by omega, by omega⟩ (hI.1.1 18 _) (fun r12 => ?_)
        refine sx_iload_n dX4_doItem_126 rfl ?_
        refine sx_iconst dX4_doItem_127 ⟨by decide, by decide⟩ ?_
        refine sx_iadd dX4_doItem_128 ?_
        refine sy_topw (by omega) ?_
        refine sx_callVv lk_X4_46 cl_4 s_197 (by decide) dX4_doItem_129 (vs := [_, _, _]) rfl rfl (Nat.le_of_ble_eq_true rfl) (Nat.le_of_ble_eq_true rfl) rfl (hgo (by omega) _ hI.1 (by omega) (by omega) _ _ (by omega)) (fun h13 ph13 => ?_)
        obtain ⟨Kh13, b_h13⟩ := ph13
        have Ih13 := hI.tr Kh13 sb_prE_prE
        have th13_197_0 := Kh13.2 (197) 0 rfl
        have th13_197_1 := Kh13.2 (197) 1 rfl
        refine sx_iload_n dX4_doItem_132 rfl ?_
        refine sx_iconst dX4_doItem_133 ⟨by decide, by decide⟩ ?_
        refine sx_iadd dX4_doItem_134 ?_
        refine sy_topw (by omega) ?_
        refine sx_ireturn dX4_doItem_135 ?_
        exact ⟨_, rfl, ⟨Ih13, by omega⟩⟩
  ·
    refine sx_aload_n dX4_doItem_136 rfl ?_
    refine sx_getR (k := 1) (t := o) cl_4 fl_X4_38 dX4_doItem_137 s_197 (by decide) rfl (by decide) (by omega) ?_
    refine sx_callVi lk_X4_71 cl_8 So0 Bo0 dX4_doItem_140 (vs := []) rfl rfl (Nat.le_of_ble_eq_true rfl) (Nat.le_of_ble_eq_true rfl) rfl (c_X8_takeTop _ hI.1 (o) hom) (fun x16 h15 ph15 => ?_)
    have Kh15 := ph15
    have Ih15 := hI.tr Kh15 sb_prE_prS
    have th15_197_0 := Kh15.2 (197) 0 rfl
    have th15_197_1 := Kh15.2 (197) 1 rfl
    have th15_197_2 := Kh15.2 (197) 2 rfl
    refine sx_if_eq (tgt := 152) dX4_doItem_143 (by decide) (fun c17 => ?_) (fun c17 => ?_)
    ·
      refine sx_aload_n dX4_doItem_152 rfl ?_
      refine sx_getR (k := 0) (t := 13) cl_4 fl_X4_34 dX4_doItem_153 s_197 (by decide) rfl (by decide) (by omega) ?_
      refine sx_getS (k := 7) (t := 16) cl_0 fl_X4_75 dX4_doItem_156 s_13 (by decide) rfl (by decide) ?_
      refine sx_iload_n dX4_doItem_159 rfl ?_
      refine sy_iaF (F := fun z => (0 : Int) ≤ z ∧ z ≤ 59) dX4_doItem_160 s_16 (by decide) (by decide) ⟨by omega, by omega⟩ (Ih15.1.1 16 _) (fun r18 => ?_)
      refine sx_iconst dX4_doItem_161 ⟨by decide, by decide⟩ ?_
      refine sx_iadd dX4_doItem_162 ?_
      refine sy_topw (by omega) ?_
      refine sx_ireturn dX4_doItem_163 ?_
      exact ⟨_, rfl, ⟨Ih15, by omega⟩⟩
    ·
      refine sx_iload_n dX4_doItem_146 rfl ?_
      refine sx_iconst dX4_doItem_147 ⟨by decide, by decide⟩ ?_
      refine sx_iadd dX4_doItem_148 ?_
      refine sy_topw (by omega) ?_
      refine sx_goto (tgt := 163) dX4_doItem_149 (by decide) ?_
      refine sx_ireturn dX4_doItem_163 ?_
      exact ⟨_, rfl, ⟨Ih15, by omega⟩⟩
  ·
    refine sx_aload_n dX4_doItem_164 rfl ?_
    refine sx_getR (k := 0) (t := 13) cl_4 fl_X4_34 dX4_doItem_165 s_197 (by decide) rfl (by decide) (by omega) ?_
    refine sx_getS (k := 7) (t := 16) cl_0 fl_X4_75 dX4_doItem_168 s_13 (by decide) rfl (by decide) ?_
    refine sx_iload_n dX4_doItem_171 rfl ?_
    refine sy_iaF (F := fun z => (0 : Int) ≤ z ∧ z ≤ 59) dX4_doItem_172 s_16 (by decide) (by decide) ⟨by omega, by omega⟩ (hI.1.1 16 _) (fun r19 => ?_)
    refine sx_iconst dX4_doItem_173 ⟨by decide, by decide⟩ ?_
    refine sx_iadd dX4_doItem_174 ?_
    refine sy_topw (by omega) ?_
    refine sx_ireturn dX4_doItem_175 ?_
    exact ⟨_, rfl, ⟨hI, by omega⟩⟩
  ·
    refine sx_iload_n dX4_doItem_230 rfl ?_
    refine sx_iconst dX4_doItem_231 ⟨by decide, by decide⟩ ?_
    refine sx_iadd dX4_doItem_232 ?_
    refine sy_topw (by omega) ?_
    refine sx_ireturn dX4_doItem_233 ?_
    exact ⟨_, rfl, ⟨hI, by omega⟩⟩
  ·
    refine sx_aload_n dX4_doItem_176 rfl ?_
    refine sx_getS (k := 3) (t := 198) cl_4 fl_X4_9 dX4_doItem_177 s_197 (by decide) rfl (by decide) ?_
    refine sx_iload_n dX4_doItem_180 rfl ?_
    refine sx_iload_n dX4_doItem_181 rfl ?_
    refine sy_iastore dX4_doItem_182 s_198 (by decide) (by decide) ⟨by omega, by omega⟩ (fun h20 eh20 => ?_)
    have Ih20 := hI.up eh20 trivial rfl rfl
    have th20_197_0 := eh20.2 (197) 0 (by omega)
    have th20_197_1 := eh20.2 (197) 1 (by omega)
    have th20_197_2 := eh20.2 (197) 2 (by omega)
    refine sx_iload_n dX4_doItem_183 rfl ?_
    refine sx_iconst dX4_doItem_184 ⟨by decide, by decide⟩ ?_
    refine sx_iadd dX4_doItem_185 ?_
    refine sy_topw (by omega) ?_
    refine sx_ireturn dX4_doItem_186 ?_
    exact ⟨_, rfl, ⟨Ih20, by omega⟩⟩
  ·
    refine sx_aload_n dX4_doItem_187 rfl ?_
    refine sx_getR (k := 0) (t := 13) cl_4 fl_X4_34 dX4_doItem_188 s_197 (by decide) rfl (by decide) (by omega) ?_
    refine sx_getS (k := 7) (t := 16) cl_0 fl_X4_75 dX4_doItem_191 s_13 (by decide) rfl (by decide) ?_
    refine sx_iload_n dX4_doItem_194 rfl ?_
    refine sy_iaF (F := fun z => (0 : Int) ≤ z ∧ z ≤ 59) dX4_doItem_195 s_16 (by decide) (by decide) ⟨by omega, by omega⟩ (hI.1.1 16 _) (fun r21 => ?_)
    refine sy_top (fun v22 ev22 => ?_)
    refine sx_istore dX4_doItem_196 (by decide) ?_
    refine sx_aload_n dX4_doItem_198 rfl ?_
    refine sx_getS (k := 3) (t := 198) cl_4 fl_X4_9 dX4_doItem_199 s_197 (by decide) rfl (by decide) ?_
    refine sx_iload dX4_doItem_202 rfl ?_
    refine sx_dup2 dX4_doItem_204 ?_
    refine sx_iaload dX4_doItem_205 s_198 (by decide) (by decide) ⟨by omega, by omega⟩ ?_
    refine sx_iconst dX4_doItem_206 ⟨by decide, by decide⟩ ?_
    refine sx_isub dX4_doItem_207 ?_
    refine sy_iastore dX4_doItem_208 s_198 (by decide) (by decide) ⟨by omega, by omega⟩ (fun h23 eh23 => ?_)
    have Ih23 := hI.up eh23 trivial rfl rfl
    have th23_197_0 := eh23.2 (197) 0 (by omega)
    have th23_197_1 := eh23.2 (197) 1 (by omega)
    have th23_197_2 := eh23.2 (197) 2 (by omega)
    refine sx_aload_n dX4_doItem_209 rfl ?_
    refine sx_getS (k := 3) (t := 198) cl_4 fl_X4_9 dX4_doItem_210 s_197 (by decide) rfl (by decide) ?_
    refine sx_iload dX4_doItem_213 rfl ?_
    refine sx_iaload dX4_doItem_215 s_198 (by decide) (by decide) ⟨by omega, by omega⟩ ?_
    refine sx_if_le (tgt := 226) dX4_doItem_216 (by decide) (fun c24 => ?_) (fun c24 => ?_)
    ·
      refine sx_iload_n dX4_doItem_226 rfl ?_
      refine sx_iconst dX4_doItem_227 ⟨by decide, by decide⟩ ?_
      refine sx_iadd dX4_doItem_228 ?_
      refine sy_topw (by omega) ?_
      refine sx_ireturn dX4_doItem_229 ?_
      exact ⟨_, rfl, ⟨Ih23, by omega⟩⟩
    ·
      refine sx_iload dX4_doItem_219 rfl ?_
      refine sx_iconst dX4_doItem_221 ⟨by decide, by decide⟩ ?_
      refine sx_iadd dX4_doItem_222 ?_
      refine sy_topw (by omega) ?_
      refine sx_goto (tgt := 229) dX4_doItem_223 (by decide) ?_
      refine sx_ireturn dX4_doItem_229 ?_
      exact ⟨_, rfl, ⟨Ih23, by omega⟩⟩
set_option maxRecDepth 20000 in
set_option maxHeartbeats 4000000 in
theorem o_X4_goOver_197_13 {G : sw_G} (d : Nat) {h0 : sw_H} (hJ : cJ h0) (o : Nat) (hom : o ∈ stL) (hc : h0 197 0 = 13) (hs : h0 197 1 = (o : Int)) (dp : Int) (hdo : ∀ (h1 : sw_H), cJ h1 → h1 197 0 = 13 → h1 197 1 = (o : Int) → ∀ i : Int, 0 ≤ i ∧ i < 60 → sw_E G NH SH d mX4_doItem 0 [some (sw_r 197), some (sw_i i), some (sw_i dp), none, none] [] h1 (sw_Qi (fun z h' => cK prE h1 h' ∧ h' 197 2 ≤ h1 197 2))) (a b : Int) (hb : b ≤ 60) : sw_E G NH SH (d + 1) mX4_goOver 0 [some (sw_r 197), some (sw_i a), some (sw_i b), some (sw_i dp), none] [] h0 (sw_Qv (fun h' => cK prE h0 h' ∧ h' 197 2 ≤ h0 197 2)) := by
  have hI : cK prE h0 h0 := cK.refl hJ
  obtain ⟨So0, So1, So2, bo⟩ := s_St o hom
  have Bo0 : o < NH := show o < 290 by omega
  have Bo1 : o + 1 < NH := show o + 1 < 290 by omega
  have Bo2 : o + 2 < NH := show o + 2 < 290 by omega
  refine sx_iload_n dX4_goOver_0 rfl ?_
  refine sx_istore dX4_goOver_1 (by decide) ?_
  refine sx_loop1 (fun (h : sw_H) (i : Int) => (cK prE h0 h) ∧ (h 197 0 = 13) ∧ (h 197 1 = (o : Int)) ∧ (h 197 2 ≤ h0 197 2)) (fun (h : sw_H) (i : Int) => (h 197 2).toNat) (fun (h : sw_H) (i : Int) => sw_E G NH SH (d + 1) mX4_goOver 3 [some (sw_r 197), some (sw_i a), some (sw_i b), some (sw_i dp), some (sw_i i)] [] h (sw_Qv (fun h' => cK prE h0 h' ∧ h' 197 2 ≤ h0 197 2))) ?_ _ _ ?_
  · rintro h1 i_2 ⟨Ih1, j3, j4, j5⟩ ihh1
    try dsimp only at ihh1
    refine sx_iload dX4_goOver_3 rfl ?_
    refine sx_if_lt (tgt := 43) dX4_goOver_5 (by decide) (fun c6 => ?_) (fun c6 => ?_)
    ·
      refine sx_ret dX4_goOver_43 ?_
      exact ⟨rfl, ⟨Ih1, by omega⟩⟩
    ·
      refine sx_iload dX4_goOver_8 rfl ?_
      refine sx_iload_n dX4_goOver_10 rfl ?_
      refine sx_icmp_ge (tgt := 43) dX4_goOver_11 (by decide) (fun c7 => ?_) (fun c7 => ?_)
      ·
        refine sx_ret dX4_goOver_43 ?_
        exact ⟨rfl, ⟨Ih1, by omega⟩⟩
      ·
        refine sx_aload_n dX4_goOver_14 rfl ?_
        refine sx_getI (k := 2) cl_4 fl_X4_42 dX4_goOver_15 s_197 (by decide) rfl (by decide) ?_
        have r8 : (0 : Int) ≤ h1 197 2 ∧ h1 197 2 ≤ 1000000 := Ih1.1.1 197 2
        refine sx_if_le (tgt := 43) dX4_goOver_18 (by decide) (fun c9 => ?_) (fun c9 => ?_)
        ·
          refine sx_ret dX4_goOver_43 ?_
          exact ⟨rfl, ⟨Ih1, by omega⟩⟩
        ·
          refine sx_aload_n dX4_goOver_21 rfl ?_
          refine sx_dupr dX4_goOver_22 ?_
          refine sx_getI (k := 2) cl_4 fl_X4_42 dX4_goOver_23 s_197 (by decide) rfl (by decide) ?_
          have r10 : (0 : Int) ≤ h1 197 2 ∧ h1 197 2 ≤ 1000000 := Ih1.1.1 197 2
          refine sx_iconst dX4_goOver_26 ⟨by decide, by decide⟩ ?_
          refine sx_isub dX4_goOver_27 ?_
          refine sy_topw (by omega) ?_
          refine sy_putI (k := 2) cl_4 fl_X4_42 dX4_goOver_28 s_197 (by decide) rfl (by decide) rfl rfl (fun h11 eh11 => ?_)
          have Ih11 := Ih1.up eh11 (show (0 : Int) ≤ _ ∧ _ ≤ (1000000 : Int) from ⟨by omega, by omega⟩) rfl rfl
          have th11_197_0 := eh11.2 (197) 0 (by decide)
          have th11_197_1 := eh11.2 (197) 1 (by decide)
          have th11_197_2 := eh11.1
          refine sx_aload_n dX4_goOver_31 rfl ?_
          refine sx_iload dX4_goOver_32 rfl ?_
          refine sx_iload_n dX4_goOver_34 rfl ?_
          refine sx_callVi lk_X4_50 cl_4 s_197 (by decide) dX4_goOver_35 (vs := [_, _]) rfl rfl (Nat.le_of_ble_eq_true rfl) (Nat.le_of_ble_eq_true rfl) rfl (hdo _ Ih11.1 (by omega) (by omega) _ (by omega)) (fun x13 h12 ph12 => ?_)
          obtain ⟨Kh12, b_h12⟩ := ph12
          have Ih12 := Ih11.tr Kh12 sb_prE_prE
          have th12_197_0 := Kh12.2 (197) 0 rfl
          have th12_197_1 := Kh12.2 (197) 1 rfl
          refine sx_istore dX4_goOver_38 (by decide) ?_
          refine sx_goto (tgt := 3) dX4_goOver_40 (by decide) ?_
          exact ihh1 _ _ ⟨Ih12, by omega, by omega, by omega⟩ (by exact sy_dec (by omega) (by omega))
  · exact ⟨hI, by omega, by omega, by omega⟩
theorem c_X4_goOver_197_13 {G : sw_G} : ∀ (n d : Nat) {h0 : sw_H} (_ : cJ h0) (o : Nat) (_ : o ∈ stL) (_ : h0 197 0 = 13) (_ : h0 197 1 = (o : Int)) (dp : Int) (_ : 0 ≤ dp) (_ : 6 - dp ≤ n) (a b : Int) (_ : b ≤ 60), sw_E G NH SH (d + 2 * n + 3) mX4_goOver 0 [some (sw_r 197), some (sw_i a), some (sw_i b), some (sw_i dp), none] [] h0 (sw_Qv (fun h' => cK prE h0 h' ∧ h' 197 2 ≤ h0 197 2)) := by
  intro n
  induction n with
  | zero =>
    intro d h0 hJ o hom hc hs dp hd0 hdp a b hb
    exact o_X4_goOver_197_13 (d + 2) hJ o hom hc hs dp (fun h1 hJ1 hc1 hs1 i hi => o_X4_doItem_197_13 (d + 1) hJ1 o hom hc1 hs1 dp hd0 (fun hlt => absurd hlt (by omega)) i hi) a b hb
  | succ n ih =>
    intro d h0 hJ o hom hc hs dp hd0 hdp a b hb
    exact o_X4_goOver_197_13 (d + 2 * n + 4) hJ o hom hc hs dp (fun h1 hJ1 hc1 hs1 i hi => o_X4_doItem_197_13 (d + 2 * n + 3) hJ1 o hom hc1 hs1 dp hd0 (fun hlt h2 hJ2 hc2 hs2 a2 b2 hb2 => ih d hJ2 o hom hc2 hs2 (dp + 1) (by omega) (by omega) a2 b2 hb2) i hi) a b hb
set_option maxRecDepth 20000 in
set_option maxHeartbeats 4000000 in
theorem c_X4_doItems_197_13 {G : sw_G} (d : Nat) {h0 : sw_H} (hJ : cJ h0) (o : Nat) (hom : o ∈ stL) (a b : Int) (hb : b ≤ 60) : sw_E G NH SH (d + 16) mX4_doItems 0 [some (sw_r 197), some (sw_r 13), some (sw_r o), some (sw_i a), some (sw_i b)] [] h0 (sw_Qv (fun h' => cK prD h0 h')) := by
  have hI : cK prD h0 h0 := cK.refl hJ
  obtain ⟨So0, So1, So2, bo⟩ := s_St o hom
  have Bo0 : o < NH := show o < 290 by omega
  have Bo1 : o + 1 < NH := show o + 1 < 290 by omega
  have Bo2 : o + 2 < NH := show o + 2 < 290 by omega
  refine sx_aload_n dX4_doItems_0 rfl ?_
  refine sx_aload_n dX4_doItems_1 rfl ?_
  refine sy_putR (k := 0) cl_4 fl_X4_34 dX4_doItems_2 s_197 (by decide) rfl (by decide) rfl rfl (by decide) (fun h1 eh1 => ?_)
  have Ih1 := hI.up eh1 trivial rfl rfl
  have th1_197_0 := eh1.1
  have th1_197_1 := eh1.2 (197) 1 (by decide)
  refine sx_aload_n dX4_doItems_5 rfl ?_
  refine sx_aload_n dX4_doItems_6 rfl ?_
  refine sy_putR (k := 1) cl_4 fl_X4_38 dX4_doItems_7 s_197 (by decide) rfl (by decide) rfl rfl (by omega) (fun h2 eh2 => ?_)
  have Ih2 := Ih1.up eh2 trivial rfl rfl
  have th2_197_0 := eh2.2 (197) 0 (by decide)
  have th2_197_1 := eh2.1
  refine sx_aload_n dX4_doItems_10 rfl ?_
  refine sx_ldc kc_X4_41 ⟨by decide, by decide⟩ dX4_doItems_11 ?_
  refine sy_putI (k := 2) cl_4 fl_X4_42 dX4_doItems_13 s_197 (by decide) rfl (by decide) rfl rfl (fun h3 eh3 => ?_)
  have Ih3 := Ih2.up eh3 (show (0 : Int) ≤ _ ∧ _ ≤ (1000000 : Int) from ⟨by omega, by omega⟩) rfl rfl
  have th3_197_0 := eh3.2 (197) 0 (by decide)
  have th3_197_1 := eh3.2 (197) 1 (by decide)
  refine sx_aload_n dX4_doItems_16 rfl ?_
  refine sx_iload_n dX4_doItems_17 rfl ?_
  refine sx_iload dX4_doItems_18 rfl ?_
  refine sx_iconst dX4_doItems_20 ⟨by decide, by decide⟩ ?_
  refine sx_callVv lk_X4_46 cl_4 s_197 (by decide) dX4_doItems_21 (vs := [_, _, _]) rfl rfl (Nat.le_of_ble_eq_true rfl) (Nat.le_of_ble_eq_true rfl) rfl (c_X4_goOver_197_13 6 _ Ih3.1 o hom (by omega) (by omega) 0 (by decide) (by decide) _ _ (by omega)) (fun h4 ph4 => ?_)
  obtain ⟨Kh4, b_h4⟩ := ph4
  have Ih4 := Ih3.tr Kh4 sb_prD_prE
  have th4_197_0 := Kh4.2 (197) 0 rfl
  have th4_197_1 := Kh4.2 (197) 1 rfl
  refine sx_ret dX4_doItems_24 ?_
  exact ⟨rfl, Ih4⟩
set_option maxRecDepth 20000 in
set_option maxHeartbeats 4000000 in
theorem c_X4_doWord_197_13 {G : sw_G} (d : Nat) {h0 : sw_H} (hJ : cJ h0) (o : Nat) (hom : o ∈ stL) (w : Int) (hw : 0 ≤ w ∧ w < 6) : sw_E G NH SH (d + 17) mX4_doWord 0 [some (sw_r 197), some (sw_r 13), some (sw_r o), some (sw_i w)] [] h0 (sw_Qv (fun h' => cK prD h0 h')) := by
  have hI : cK prD h0 h0 := cK.refl hJ
  obtain ⟨So0, So1, So2, bo⟩ := s_St o hom
  have Bo0 : o < NH := show o < 290 by omega
  have Bo1 : o + 1 < NH := show o + 1 < 290 by omega
  have Bo2 : o + 2 < NH := show o + 2 < 290 by omega
  refine sx_aload_n dX4_doWord_0 rfl ?_
  refine sx_aload_n dX4_doWord_1 rfl ?_
  refine sx_aload_n dX4_doWord_2 rfl ?_
  refine sx_aload_n dX4_doWord_3 rfl ?_
  refine sx_getS (k := 9) (t := 18) cl_0 fl_X4_25 dX4_doWord_4 s_13 (by decide) rfl (by decide) ?_
  refine sx_iload_n dX4_doWord_7 rfl ?_
  refine sy_iaF (F := fun z => (0 : Int) ≤ z ∧ z ≤ 60) dX4_doWord_8 s_18 (by decide) (by decide) ⟨by omega, by omega⟩ (hI.1.1 18 _) (fun r1 => ?_)
  refine sx_aload_n dX4_doWord_9 rfl ?_
  refine sx_getS (k := 9) (t := 18) cl_0 fl_X4_25 dX4_doWord_10 s_13 (by decide) rfl (by decide) ?_
  refine sx_iload_n dX4_doWord_13 rfl ?_
  refine sx_iconst dX4_doWord_14 ⟨by decide, by decide⟩ ?_
  refine sx_iadd dX4_doWord_15 ?_
  refine sy_topw (by omega) ?_
  refine sy_iaF (F := fun z => (0 : Int) ≤ z ∧ z ≤ 60) dX4_doWord_16 s_18 (by decide) (by decide) ⟨by omega, by omega⟩ (hI.1.1 18 _) (fun r2 => ?_)
  refine sx_callVv lk_X4_30 cl_4 s_197 (by decide) dX4_doWord_17 (vs := [_, _, _, _]) rfl rfl (Nat.le_of_ble_eq_true rfl) (Nat.le_of_ble_eq_true rfl) rfl (c_X4_doItems_197_13 _ hI.1 (o) hom _ _ (by omega)) (fun h3 ph3 => ?_)
  have Kh3 := ph3
  have Ih3 := hI.tr Kh3 sb_prD_prD
  refine sx_ret dX4_doWord_20 ?_
  exact ⟨rfl, Ih3⟩
set_option maxRecDepth 20000 in
set_option maxHeartbeats 4000000 in
theorem c_X4_layDigits {G : sw_G} (d : Nat) {h0 : sw_H} (hJ : cJ h0) (o : Nat) (hom : o ∈ stL) (g n : Int) (hn : n ≤ 3 ∧ -2147483647 ≤ n) : sw_E G NH SH (d + 1) mX4_layDigits 0 [some (sw_r o), some (sw_i g), some (sw_i n), none, none, none] [] h0 (sw_Qi (fun z h' => cK prS h0 h')) := by
  have hI : cK prS h0 h0 := cK.refl hJ
  obtain ⟨So0, So1, So2, bo⟩ := s_St o hom
  have Bo0 : o < NH := show o < 290 by omega
  have Bo1 : o + 1 < NH := show o + 1 < 290 by omega
  have Bo2 : o + 2 < NH := show o + 2 < 290 by omega
  refine sx_iconst dX4_layDigits_0 ⟨by decide, by decide⟩ ?_
  refine sx_istore_n dX4_layDigits_1 (by decide) ?_
  refine sx_aload_n dX4_layDigits_2 rfl ?_
  refine sx_callVv lk_X4_96 cl_8 So0 Bo0 dX4_layDigits_3 (vs := []) rfl rfl (Nat.le_of_ble_eq_true rfl) (Nat.le_of_ble_eq_true rfl) rfl (c_X8_dropAll _ hI.1 (o) hom) (fun h1 ph1 => ?_)
  have Kh1 := ph1
  have Ih1 := hI.tr Kh1 sb_prS_prS
  refine sx_iload_n dX4_layDigits_6 rfl ?_
  refine sx_iconst dX4_layDigits_7 ⟨by decide, by decide⟩ ?_
  refine sx_isub dX4_layDigits_8 ?_
  refine sy_topw (by omega) ?_
  refine sy_top (fun v3 ev3 => ?_)
  refine sx_istore dX4_layDigits_9 (by decide) ?_
  refine sx_loop2 (fun (h : sw_H) (q : Int) (i : Int) => (cK prS h0 h) ∧ (i ≤ 2)) (fun (h : sw_H) (q : Int) (i : Int) => (i + 1).toNat) (fun (h : sw_H) (q : Int) (i : Int) => sw_E G NH SH (d + 1) mX4_layDigits 11 [some (sw_r (o)), some (sw_i g), some (sw_i n), some (sw_i q), some (sw_i i), none] [] h (sw_Qi (fun z h' => cK prS h0 h'))) ?_ _ _ _ ?_
  · rintro h4 q_5 i_6 ⟨Ih4, j7⟩ ihh4
    try dsimp only at ihh4
    refine sx_iload dX4_layDigits_11 rfl ?_
    refine sx_if_lt (tgt := 46) dX4_layDigits_13 (by decide) (fun c8 => ?_) (fun c8 => ?_)
    ·
      refine sx_iload_n dX4_layDigits_46 rfl ?_
      refine sx_ireturn dX4_layDigits_47 ?_
      exact ⟨_, rfl, Ih4⟩
    ·
      refine sx_iload_n dX4_layDigits_16 rfl ?_
      refine sx_iconst dX4_layDigits_17 ⟨by decide, by decide⟩ ?_
      refine sx_iload dX4_layDigits_18 rfl ?_
      refine sx_imul dX4_layDigits_20 ?_
      refine sy_topw (by omega) ?_
      refine sx_ishr dX4_layDigits_21 ?_
      refine sx_iconst dX4_layDigits_22 ⟨by decide, by decide⟩ ?_
      refine sx_iand dX4_layDigits_23 ?_
      refine sy_top (fun v9 ev9 => ?_)
      refine sx_istore dX4_layDigits_24 (by decide) ?_
      refine sx_aload_n dX4_layDigits_26 rfl ?_
      refine sx_iload dX4_layDigits_27 rfl ?_
      refine sx_callVv lk_X4_64 cl_8 So0 Bo0 dX4_layDigits_29 (vs := [_]) rfl rfl (Nat.le_of_ble_eq_true rfl) (Nat.le_of_ble_eq_true rfl) rfl (c_X8_add _ Ih4.1 (o) hom _) (fun h10 ph10 => ?_)
      have Kh10 := ph10
      have Ih10 := Ih4.tr Kh10 sb_prS_prS
      refine sx_iload_n dX4_layDigits_32 rfl ?_
      refine sx_bipush dX4_layDigits_33 ⟨by decide, by decide, by decide⟩ ?_
      refine sx_imul dX4_layDigits_35 ?_
      refine sx_iload dX4_layDigits_36 rfl ?_
      refine sx_iadd dX4_layDigits_38 ?_
      refine sy_top (fun v12 ev12 => ?_)
      refine sx_istore_n dX4_layDigits_39 (by decide) ?_
      refine sx_iinc dX4_layDigits_40 (by decide) rfl ?_
      rw [sw_w_id (by omega) (by omega)]
      refine sx_goto (tgt := 11) dX4_layDigits_43 (by decide) ?_
      refine sx_kill 5 ?_
      exact ihh4 _ _ _ ⟨Ih10, by omega⟩ (by exact sy_dec (by omega) (by omega))
  · exact ⟨Ih1, by omega⟩
set_option maxRecDepth 20000 in
set_option maxHeartbeats 4000000 in
theorem c_X4_firstDifference_25_1 {G : sw_G} (d : Nat) {h0 : sw_H} (hJ : cJ h0) (w v : Int) (hw : 0 ≤ w ∧ w < 6) (hv : 0 ≤ v ∧ v < 6) : sw_E G NH SH (d + 18) mX4_firstDifference 0 [some (sw_r 25), some (sw_r 1), some (sw_i w), some (sw_i v), none, none, none, none] [] h0 (sw_Qi (fun z h' => cK prD h0 h')) := by
  have hI : cK prD h0 h0 := cK.refl hJ
  refine sx_aload_n dX4_firstDifference_0 rfl ?_
  refine sx_getS (k := 10) (t := 7) cl_0 fl_X4_78 dX4_firstDifference_1 s_1 (by decide) rfl (by decide) ?_
  refine sx_iload_n dX4_firstDifference_4 rfl ?_
  refine sy_iaF (F := fun z => (0 : Int) ≤ z ∧ z ≤ 2147483647) dX4_firstDifference_5 s_7 (by decide) (by decide) ⟨by omega, by omega⟩ (hI.1.1 7 _) (fun r1 => ?_)
  refine sy_top (fun v2 ev2 => ?_)
  refine sx_istore dX4_firstDifference_6 (by decide) ?_
  refine sx_iload dX4_firstDifference_8 rfl ?_
  refine sx_iconst dX4_firstDifference_10 ⟨by decide, by decide⟩ ?_
  refine sx_icmp_gt (tgt := 40) dX4_firstDifference_11 (by decide) (fun c3 => ?_) (fun c3 => ?_)
  ·
    refine sx_bipush dX4_firstDifference_40 ⟨by decide, by decide, by decide⟩ ?_
    refine sx_ireturn dX4_firstDifference_42 ?_
    exact ⟨_, rfl, hI⟩
  ·
    refine sx_iload dX4_firstDifference_14 rfl ?_
    refine sx_aload_n dX4_firstDifference_16 rfl ?_
    refine sx_getS (k := 10) (t := 7) cl_0 fl_X4_78 dX4_firstDifference_17 s_1 (by decide) rfl (by decide) ?_
    refine sx_iload_n dX4_firstDifference_20 rfl ?_
    refine sy_iaF (F := fun z => (0 : Int) ≤ z ∧ z ≤ 2147483647) dX4_firstDifference_21 s_7 (by decide) (by decide) ⟨by omega, by omega⟩ (hI.1.1 7 _) (fun r4 => ?_)
    refine sx_icmp_ne (tgt := 40) dX4_firstDifference_22 (by decide) (fun c5 => ?_) (fun c5 => ?_)
    ·
      refine sx_bipush dX4_firstDifference_40 ⟨by decide, by decide, by decide⟩ ?_
      refine sx_ireturn dX4_firstDifference_42 ?_
      exact ⟨_, rfl, hI⟩
    ·
      refine sx_aload_n dX4_firstDifference_25 rfl ?_
      refine sx_getS (k := 11) (t := 8) cl_0 fl_X4_81 dX4_firstDifference_26 s_1 (by decide) rfl (by decide) ?_
      refine sx_iload_n dX4_firstDifference_29 rfl ?_
      refine sx_iaload dX4_firstDifference_30 s_8 (by decide) (by decide) ⟨by omega, by omega⟩ ?_
      refine sx_aload_n dX4_firstDifference_31 rfl ?_
      refine sx_getS (k := 11) (t := 8) cl_0 fl_X4_81 dX4_firstDifference_32 s_1 (by decide) rfl (by decide) ?_
      refine sx_iload_n dX4_firstDifference_35 rfl ?_
      refine sx_iaload dX4_firstDifference_36 s_8 (by decide) (by decide) ⟨by omega, by omega⟩ ?_
      refine sx_icmp_eq (tgt := 43) dX4_firstDifference_37 (by decide) (fun c6 => ?_) (fun c6 => ?_)
      ·
        refine sx_iconst dX4_firstDifference_43 ⟨by decide, by decide⟩ ?_
        refine sx_iconst dX4_firstDifference_44 ⟨by decide, by decide⟩ ?_
        refine sx_iload dX4_firstDifference_45 rfl ?_
        refine sx_imul dX4_firstDifference_47 ?_
        refine sy_topw (by omega) ?_
        refine sx_ishl dX4_firstDifference_48 ?_
        refine sy_top (fun v7 ev7 => ?_)
        refine sx_istore dX4_firstDifference_49 (by decide) ?_
        have ok5 : v7 ≤ 2147483647 := by rw [ev7]; exact (sw_i32_ok _).2
        refine sx_iconst dX4_firstDifference_51 ⟨by decide, by decide⟩ ?_
        refine sx_istore dX4_firstDifference_52 (by decide) ?_
        refine sx_loop1 (fun (h : sw_H) (g : Int) => (cK prD h0 h) ∧ (0 ≤ g)) (fun (h : sw_H) (g : Int) => (v7 - g).toNat) (fun (h : sw_H) (g : Int) => sw_E G NH SH (d + 18) mX4_firstDifference 54 [some (sw_r 25), some (sw_r 1), some (sw_i w), some (sw_i v), some (sw_i v2), some (sw_i v7), some (sw_i g), none] [] h (sw_Qi (fun z h' => cK prD h0 h'))) ?_ _ _ ?_
        · rintro h8 g_9 ⟨Ih8, j10⟩ ihh8
          try dsimp only at ihh8
          refine sx_iload dX4_firstDifference_54 rfl ?_
          refine sx_iload dX4_firstDifference_56 rfl ?_
          refine sx_icmp_ge (tgt := 129) dX4_firstDifference_58 (by decide) (fun c11 => ?_) (fun c11 => ?_)
          ·
            refine sx_iconst dX4_firstDifference_129 ⟨by decide, by decide⟩ ?_
            refine sx_ireturn dX4_firstDifference_130 ?_
            exact ⟨_, rfl, Ih8⟩
          ·
            refine sx_aload_n dX4_firstDifference_61 rfl ?_
            refine sx_getS (k := 4) (t := 27) cl_4 fl_X4_18 dX4_firstDifference_62 s_25 (by decide) rfl (by decide) ?_
            refine sx_iload dX4_firstDifference_65 rfl ?_
            refine sx_iload dX4_firstDifference_67 rfl ?_
            refine sx_callSi lk_X4_84 dX4_firstDifference_69 (vs := [_, _, _]) rfl rfl (Nat.le_of_ble_eq_true rfl) (Nat.le_of_ble_eq_true rfl) rfl (c_X4_layDigits _ Ih8.1 (27) (by decide) _ _ (by omega)) (fun x13 h12 ph12 => ?_)
            have Kh12 := ph12
            have Ih12 := Ih8.tr Kh12 sb_prD_prS
            refine sx_istore dX4_firstDifference_72 (by decide) ?_
            refine sx_aload_n dX4_firstDifference_74 rfl ?_
            refine sx_getS (k := 5) (t := 30) cl_4 fl_X4_22 dX4_firstDifference_75 s_25 (by decide) rfl (by decide) ?_
            refine sx_iload dX4_firstDifference_78 rfl ?_
            refine sx_iload dX4_firstDifference_80 rfl ?_
            refine sx_callSi lk_X4_84 dX4_firstDifference_82 (vs := [_, _, _]) rfl rfl (Nat.le_of_ble_eq_true rfl) (Nat.le_of_ble_eq_true rfl) rfl (c_X4_layDigits _ Ih12.1 (30) (by decide) _ _ (by omega)) (fun x15 h14 ph14 => ?_)
            have Kh14 := ph14
            have Ih14 := Ih12.tr Kh14 sb_prD_prS
            refine sx_pop dX4_firstDifference_85 ?_
            refine sx_aload_n dX4_firstDifference_86 rfl ?_
            refine sx_aload_n dX4_firstDifference_87 rfl ?_
            refine sx_aload_n dX4_firstDifference_88 rfl ?_
            refine sx_getS (k := 4) (t := 27) cl_4 fl_X4_18 dX4_firstDifference_89 s_25 (by decide) rfl (by decide) ?_
            refine sx_iload_n dX4_firstDifference_92 rfl ?_
            refine sx_callVv lk_X4_88 cl_4 s_25 (by decide) dX4_firstDifference_93 (vs := [_, _, _]) rfl rfl (Nat.le_of_ble_eq_true rfl) (Nat.le_of_ble_eq_true rfl) rfl (c_X4_doWord_25_1 _ Ih14.1 (27) (by decide) _ (by omega)) (fun h16 ph16 => ?_)
            have Kh16 := ph16
            have Ih16 := Ih14.tr Kh16 sb_prD_prD
            refine sx_aload_n dX4_firstDifference_96 rfl ?_
            refine sx_aload_n dX4_firstDifference_97 rfl ?_
            refine sx_aload_n dX4_firstDifference_98 rfl ?_
            refine sx_getS (k := 5) (t := 30) cl_4 fl_X4_22 dX4_firstDifference_99 s_25 (by decide) rfl (by decide) ?_
            refine sx_iload_n dX4_firstDifference_102 rfl ?_
            refine sx_callVv lk_X4_88 cl_4 s_25 (by decide) dX4_firstDifference_103 (vs := [_, _, _]) rfl rfl (Nat.le_of_ble_eq_true rfl) (Nat.le_of_ble_eq_true rfl) rfl (c_X4_doWord_25_1 _ Ih16.1 (30) (by decide) _ (by omega)) (fun h18 ph18 => ?_)
            have Kh18 := ph18
            have Ih18 := Ih16.tr Kh18 sb_prD_prD
            refine sx_aload_n dX4_firstDifference_106 rfl ?_
            refine sx_getS (k := 4) (t := 27) cl_4 fl_X4_18 dX4_firstDifference_107 s_25 (by decide) rfl (by decide) ?_
            refine sx_aload_n dX4_firstDifference_110 rfl ?_
            refine sx_getS (k := 5) (t := 30) cl_4 fl_X4_22 dX4_firstDifference_111 s_25 (by decide) rfl (by decide) ?_
            refine sx_callVz lk_X4_92 cl_8 s_27 (by decide) dX4_firstDifference_114 (vs := [_]) rfl rfl (Nat.le_of_ble_eq_true rfl) (Nat.le_of_ble_eq_true rfl) rfl (c_X8_hasSameCells _ Ih18.1 (27) (by decide) (30) (by decide)) (fun x21 h20 zx21 ph20 => ?_)
            have Kh20 := ph20
            have Ih20 := Ih18.tr Kh20 sb_prD_prS
            refine sx_if_ne (tgt := 123) dX4_firstDifference_117 (by decide) (fun c22 => ?_) (fun c22 => ?_)
            ·
              refine sx_iinc dX4_firstDifference_123 (by decide) rfl ?_
              rw [sw_w_id (by omega) (by omega)]
              refine sx_goto (tgt := 54) dX4_firstDifference_126 (by decide) ?_
              refine sx_kill 7 ?_
              exact ihh8 _ _ ⟨Ih20, by omega⟩ (by exact sy_dec (by omega) (by omega))
            ·
              refine sx_iload dX4_firstDifference_120 rfl ?_
              refine sx_ireturn dX4_firstDifference_122 ?_
              exact ⟨_, rfl, Ih20⟩
        · exact ⟨hI, by omega⟩
      ·
        refine sx_bipush dX4_firstDifference_40 ⟨by decide, by decide, by decide⟩ ?_
        refine sx_ireturn dX4_firstDifference_42 ?_
        exact ⟨_, rfl, hI⟩
set_option maxRecDepth 20000 in
set_option maxHeartbeats 4000000 in
theorem c_X4_firstDifference_25_13 {G : sw_G} (d : Nat) {h0 : sw_H} (hJ : cJ h0) (w v : Int) (hw : 0 ≤ w ∧ w < 6) (hv : 0 ≤ v ∧ v < 6) : sw_E G NH SH (d + 18) mX4_firstDifference 0 [some (sw_r 25), some (sw_r 13), some (sw_i w), some (sw_i v), none, none, none, none] [] h0 (sw_Qi (fun z h' => cK prD h0 h')) := by
  have hI : cK prD h0 h0 := cK.refl hJ
  refine sx_aload_n dX4_firstDifference_0 rfl ?_
  refine sx_getS (k := 10) (t := 19) cl_0 fl_X4_78 dX4_firstDifference_1 s_13 (by decide) rfl (by decide) ?_
  refine sx_iload_n dX4_firstDifference_4 rfl ?_
  refine sy_iaF (F := fun z => (0 : Int) ≤ z ∧ z ≤ 2147483647) dX4_firstDifference_5 s_19 (by decide) (by decide) ⟨by omega, by omega⟩ (hI.1.1 19 _) (fun r1 => ?_)
  refine sy_top (fun v2 ev2 => ?_)
  refine sx_istore dX4_firstDifference_6 (by decide) ?_
  refine sx_iload dX4_firstDifference_8 rfl ?_
  refine sx_iconst dX4_firstDifference_10 ⟨by decide, by decide⟩ ?_
  refine sx_icmp_gt (tgt := 40) dX4_firstDifference_11 (by decide) (fun c3 => ?_) (fun c3 => ?_)
  ·
    refine sx_bipush dX4_firstDifference_40 ⟨by decide, by decide, by decide⟩ ?_
    refine sx_ireturn dX4_firstDifference_42 ?_
    exact ⟨_, rfl, hI⟩
  ·
    refine sx_iload dX4_firstDifference_14 rfl ?_
    refine sx_aload_n dX4_firstDifference_16 rfl ?_
    refine sx_getS (k := 10) (t := 19) cl_0 fl_X4_78 dX4_firstDifference_17 s_13 (by decide) rfl (by decide) ?_
    refine sx_iload_n dX4_firstDifference_20 rfl ?_
    refine sy_iaF (F := fun z => (0 : Int) ≤ z ∧ z ≤ 2147483647) dX4_firstDifference_21 s_19 (by decide) (by decide) ⟨by omega, by omega⟩ (hI.1.1 19 _) (fun r4 => ?_)
    refine sx_icmp_ne (tgt := 40) dX4_firstDifference_22 (by decide) (fun c5 => ?_) (fun c5 => ?_)
    ·
      refine sx_bipush dX4_firstDifference_40 ⟨by decide, by decide, by decide⟩ ?_
      refine sx_ireturn dX4_firstDifference_42 ?_
      exact ⟨_, rfl, hI⟩
    ·
      refine sx_aload_n dX4_firstDifference_25 rfl ?_
      refine sx_getS (k := 11) (t := 20) cl_0 fl_X4_81 dX4_firstDifference_26 s_13 (by decide) rfl (by decide) ?_
      refine sx_iload_n dX4_firstDifference_29 rfl ?_
      refine sx_iaload dX4_firstDifference_30 s_20 (by decide) (by decide) ⟨by omega, by omega⟩ ?_
      refine sx_aload_n dX4_firstDifference_31 rfl ?_
      refine sx_getS (k := 11) (t := 20) cl_0 fl_X4_81 dX4_firstDifference_32 s_13 (by decide) rfl (by decide) ?_
      refine sx_iload_n dX4_firstDifference_35 rfl ?_
      refine sx_iaload dX4_firstDifference_36 s_20 (by decide) (by decide) ⟨by omega, by omega⟩ ?_
      refine sx_icmp_eq (tgt := 43) dX4_firstDifference_37 (by decide) (fun c6 => ?_) (fun c6 => ?_)
      ·
        refine sx_iconst dX4_firstDifference_43 ⟨by decide, by decide⟩ ?_
        refine sx_iconst dX4_firstDifference_44 ⟨by decide, by decide⟩ ?_
        refine sx_iload dX4_firstDifference_45 rfl ?_
        refine sx_imul dX4_firstDifference_47 ?_
        refine sy_topw (by omega) ?_
        refine sx_ishl dX4_firstDifference_48 ?_
        refine sy_top (fun v7 ev7 => ?_)
        refine sx_istore dX4_firstDifference_49 (by decide) ?_
        have ok5 : v7 ≤ 2147483647 := by rw [ev7]; exact (sw_i32_ok _).2
        refine sx_iconst dX4_firstDifference_51 ⟨by decide, by decide⟩ ?_
        refine sx_istore dX4_firstDifference_52 (by decide) ?_
        refine sx_loop1 (fun (h : sw_H) (g : Int) => (cK prD h0 h) ∧ (0 ≤ g)) (fun (h : sw_H) (g : Int) => (v7 - g).toNat) (fun (h : sw_H) (g : Int) => sw_E G NH SH (d + 18) mX4_firstDifference 54 [some (sw_r 25), some (sw_r 13), some (sw_i w), some (sw_i v), some (sw_i v2), some (sw_i v7), some (sw_i g), none] [] h (sw_Qi (fun z h' => cK prD h0 h'))) ?_ _ _ ?_
        · rintro h8 g_9 ⟨Ih8, j10⟩ ihh8
          try dsimp only at ihh8
          refine sx_iload dX4_firstDifference_54 rfl ?_
          refine sx_iload dX4_firstDifference_56 rfl ?_
          refine sx_icmp_ge (tgt := 129) dX4_firstDifference_58 (by decide) (fun c11 => ?_) (fun c11 => ?_)
          ·
            refine sx_iconst dX4_firstDifference_129 ⟨by decide, by decide⟩ ?_
            refine sx_ireturn dX4_firstDifference_130 ?_
            exact ⟨_, rfl, Ih8⟩
          ·
            refine sx_aload_n dX4_firstDifference_61 rfl ?_
            refine sx_getS (k := 4) (t := 27) cl_4 fl_X4_18 dX4_firstDifference_62 s_25 (by decide) rfl (by decide) ?_
            refine sx_iload dX4_firstDifference_65 rfl ?_
            refine sx_iload dX4_firstDifference_67 rfl ?_
            refine sx_callSi lk_X4_84 dX4_firstDifference_69 (vs := [_, _, _]) rfl rfl (Nat.le_of_ble_eq_true rfl) (Nat.le_of_ble_eq_true rfl) rfl (c_X4_layDigits _ Ih8.1 (27) (by decide) _ _ (by omega)) (fun x13 h12 ph12 => ?_)
            have Kh12 := ph12
            have Ih12 := Ih8.tr Kh12 sb_prD_prS
            refine sx_istore dX4_firstDifference_72 (by decide) ?_
            refine sx_aload_n dX4_firstDifference_74 rfl ?_
            refine sx_getS (k := 5) (t := 30) cl_4 fl_X4_22 dX4_firstDifference_75 s_25 (by decide) rfl (by decide) ?_
            refine sx_iload dX4_firstDifference_78 rfl ?_
            refine sx_iload dX4_firstDifference_80 rfl ?_
            refine sx_callSi lk_X4_84 dX4_firstDifference_82 (vs := [_, _, _]) rfl rfl (Nat.le_of_ble_eq_true rfl) (Nat.le_of_ble_eq_true rfl) rfl (c_X4_layDigits _ Ih12.1 (30) (by decide) _ _ (by omega)) (fun x15 h14 ph14 => ?_)
            have Kh14 := ph14
            have Ih14 := Ih12.tr Kh14 sb_prD_prS
            refine sx_pop dX4_firstDifference_85 ?_
            refine sx_aload_n dX4_firstDifference_86 rfl ?_
            refine sx_aload_n dX4_firstDifference_87 rfl ?_
            refine sx_aload_n dX4_firstDifference_88 rfl ?_
            refine sx_getS (k := 4) (t := 27) cl_4 fl_X4_18 dX4_firstDifference_89 s_25 (by decide) rfl (by decide) ?_
            refine sx_iload_n dX4_firstDifference_92 rfl ?_
            refine sx_callVv lk_X4_88 cl_4 s_25 (by decide) dX4_firstDifference_93 (vs := [_, _, _]) rfl rfl (Nat.le_of_ble_eq_true rfl) (Nat.le_of_ble_eq_true rfl) rfl (c_X4_doWord_25_13 _ Ih14.1 (27) (by decide) _ (by omega)) (fun h16 ph16 => ?_)
            have Kh16 := ph16
            have Ih16 := Ih14.tr Kh16 sb_prD_prD
            refine sx_aload_n dX4_firstDifference_96 rfl ?_
            refine sx_aload_n dX4_firstDifference_97 rfl ?_
            refine sx_aload_n dX4_firstDifference_98 rfl ?_
            refine sx_getS (k := 5) (t := 30) cl_4 fl_X4_22 dX4_firstDifference_99 s_25 (by decide) rfl (by decide) ?_
            refine sx_iload_n dX4_firstDifference_102 rfl ?_
            refine sx_callVv lk_X4_88 cl_4 s_25 (by decide) dX4_firstDifference_103 (vs := [_, _, _]) rfl rfl (Nat.le_of_ble_eq_true rfl) (Nat.le_of_ble_eq_true rfl) rfl (c_X4_doWord_25_13 _ Ih16.1 (30) (by decide) _ (by omega)) (fun h18 ph18 => ?_)
            have Kh18 := ph18
            have Ih18 := Ih16.tr Kh18 sb_prD_prD
            refine sx_aload_n dX4_firstDifference_106 rfl ?_
            refine sx_getS (k := 4) (t := 27) cl_4 fl_X4_18 dX4_firstDifference_107 s_25 (by decide) rfl (by decide) ?_
            refine sx_aload_n dX4_firstDifference_110 rfl ?_
            refine sx_getS (k := 5) (t := 30) cl_4 fl_X4_22 dX4_firstDifference_111 s_25 (by decide) rfl (by decide) ?_
            refine sx_callVz lk_X4_92 cl_8 s_27 (by decide) dX4_firstDifference_114 (vs := [_]) rfl rfl (Nat.le_of_ble_eq_true rfl) (Nat.le_of_ble_eq_true rfl) rfl (c_X8_hasSameCells _ Ih18.1 (27) (by decide) (30) (by decide)) (fun x21 h20 zx21 ph20 => ?_)
            have Kh20 := ph20
            have Ih20 := Ih18.tr Kh20 sb_prD_prS
            refine sx_if_ne (tgt := 123) dX4_firstDifference_117 (by decide) (fun c22 => ?_) (fun c22 => ?_)
            ·
              refine sx_iinc dX4_firstDifference_123 (by decide) rfl ?_
              rw [sw_w_id (by omega) (by omega)]
              refine sx_goto (tgt := 54) dX4_firstDifference_126 (by decide) ?_
              refine sx_kill 7 ?_
              exact ihh8 _ _ ⟨Ih20, by omega⟩ (by exact sy_dec (by omega) (by omega))
            ·
              refine sx_iload dX4_firstDifference_120 rfl ?_
              refine sx_ireturn dX4_firstDifference_122 ?_
              exact ⟨_, rfl, Ih20⟩
        · exact ⟨hI, by omega⟩
      ·
        refine sx_bipush dX4_firstDifference_40 ⟨by decide, by decide, by decide⟩ ?_
        refine sx_ireturn dX4_firstDifference_42 ?_
        exact ⟨_, rfl, hI⟩
set_option maxRecDepth 20000 in
set_option maxHeartbeats 4000000 in
theorem c_X4_firstDifference_197_1 {G : sw_G} (d : Nat) {h0 : sw_H} (hJ : cJ h0) (w v : Int) (hw : 0 ≤ w ∧ w < 6) (hv : 0 ≤ v ∧ v < 6) : sw_E G NH SH (d + 18) mX4_firstDifference 0 [some (sw_r 197), some (sw_r 1), some (sw_i w), some (sw_i v), none, none, none, none] [] h0 (sw_Qi (fun z h' => cK prD h0 h')) := by
  have hI : cK prD h0 h0 := cK.refl hJ
  refine sx_aload_n dX4_firstDifference_0 rfl ?_
  refine sx_getS (k := 10) (t := 7) cl_0 fl_X4_78 dX4_firstDifference_1 s_1 (by decide) rfl (by decide) ?_
  refine sx_iload_n dX4_firstDifference_4 rfl ?_
  refine sy_iaF (F := fun z => (0 : Int) ≤ z ∧ z ≤ 2147483647) dX4_firstDifference_5 s_7 (by decide) (by decide) ⟨by omega, by omega⟩ (hI.1.1 7 _) (fun r1 => ?_)
  refine sy_top (fun v2 ev2 => ?_)
  refine sx_istore dX4_firstDifference_6 (by decide) ?_
  refine sx_iload dX4_firstDifference_8 rfl ?_
  refine sx_iconst dX4_firstDifference_10 ⟨by decide, by decide⟩ ?_
  refine sx_icmp_gt (tgt := 40) dX4_firstDifference_11 (by decide) (fun c3 => ?_) (fun c3 => ?_)
  ·
    refine sx_bipush dX4_firstDifference_40 ⟨by decide, by decide, by decide⟩ ?_
    refine sx_ireturn dX4_firstDifference_42 ?_
    exact ⟨_, rfl, hI⟩
  ·
    refine sx_iload dX4_firstDifference_14 rfl ?_
    refine sx_aload_n dX4_firstDifference_16 rfl ?_
    refine sx_getS (k := 10) (t := 7) cl_0 fl_X4_78 dX4_firstDifference_17 s_1 (by decide) rfl (by decide) ?_
    refine sx_iload_n dX4_firstDifference_20 rfl ?_
    refine sy_iaF (F := fun z => (0 : Int) ≤ z ∧ z ≤ 2147483647) dX4_firstDifference_21 s_7 (by decide) (by decide) ⟨by omega, by omega⟩ (hI.1.1 7 _) (fun r4 => ?_)
    refine sx_icmp_ne (tgt := 40) dX4_firstDifference_22 (by decide) (fun c5 => ?_) (fun c5 => ?_)
    ·
      refine sx_bipush dX4_firstDifference_40 ⟨by decide, by decide, by decide⟩ ?_
      refine sx_ireturn dX4_firstDifference_42 ?_
      exact ⟨_, rfl, hI⟩
    ·
      refine sx_aload_n dX4_firstDifference_25 rfl ?_
      refine sx_getS (k := 11) (t := 8) cl_0 fl_X4_81 dX4_firstDifference_26 s_1 (by decide) rfl (by decide) ?_
      refine sx_iload_n dX4_firstDifference_29 rfl ?_
      refine sx_iaload dX4_firstDifference_30 s_8 (by decide) (by decide) ⟨by omega, by omega⟩ ?_
      refine sx_aload_n dX4_firstDifference_31 rfl ?_
      refine sx_getS (k := 11) (t := 8) cl_0 fl_X4_81 dX4_firstDifference_32 s_1 (by decide) rfl (by decide) ?_
      refine sx_iload_n dX4_firstDifference_35 rfl ?_
      refine sx_iaload dX4_firstDifference_36 s_8 (by decide) (by decide) ⟨by omega, by omega⟩ ?_
      refine sx_icmp_eq (tgt := 43) dX4_firstDifference_37 (by decide) (fun c6 => ?_) (fun c6 => ?_)
      ·
        refine sx_iconst dX4_firstDifference_43 ⟨by decide, by decide⟩ ?_
        refine sx_iconst dX4_firstDifference_44 ⟨by decide, by decide⟩ ?_
        refine sx_iload dX4_firstDifference_45 rfl ?_
        refine sx_imul dX4_firstDifference_47 ?_
        refine sy_topw (by omega) ?_
        refine sx_ishl dX4_firstDifference_48 ?_
        refine sy_top (fun v7 ev7 => ?_)
        refine sx_istore dX4_firstDifference_49 (by decide) ?_
        have ok5 : v7 ≤ 2147483647 := by rw [ev7]; exact (sw_i32_ok _).2
        refine sx_iconst dX4_firstDifference_51 ⟨by decide, by decide⟩ ?_
        refine sx_istore dX4_firstDifference_52 (by decide) ?_
        refine sx_loop1 (fun (h : sw_H) (g : Int) => (cK prD h0 h) ∧ (0 ≤ g)) (fun (h : sw_H) (g : Int) => (v7 - g).toNat) (fun (h : sw_H) (g : Int) => sw_E G NH SH (d + 18) mX4_firstDifference 54 [some (sw_r 197), some (sw_r 1), some (sw_i w), some (sw_i v), some (sw_i v2), some (sw_i v7), some (sw_i g), none] [] h (sw_Qi (fun z h' => cK prD h0 h'))) ?_ _ _ ?_
        · rintro h8 g_9 ⟨Ih8, j10⟩ ihh8
          try dsimp only at ihh8
          refine sx_iload dX4_firstDifference_54 rfl ?_
          refine sx_iload dX4_firstDifference_56 rfl ?_
          refine sx_icmp_ge (tgt := 129) dX4_firstDifference_58 (by decide) (fun c11 => ?_) (fun c11 => ?_)
          ·
            refine sx_iconst dX4_firstDifference_129 ⟨by decide, by decide⟩ ?_
            refine sx_ireturn dX4_firstDifference_130 ?_
            exact ⟨_, rfl, Ih8⟩
          ·
            refine sx_aload_n dX4_firstDifference_61 rfl ?_
            refine sx_getS (k := 4) (t := 199) cl_4 fl_X4_18 dX4_firstDifference_62 s_197 (by decide) rfl (by decide) ?_
            refine sx_iload dX4_firstDifference_65 rfl ?_
            refine sx_iload dX4_firstDifference_67 rfl ?_
            refine sx_callSi lk_X4_84 dX4_firstDifference_69 (vs := [_, _, _]) rfl rfl (Nat.le_of_ble_eq_true rfl) (Nat.le_of_ble_eq_true rfl) rfl (c_X4_layDigits _ Ih8.1 (199) (by decide) _ _ (by omega)) (fun x13 h12 ph12 => ?_)
            have Kh12 := ph12
            have Ih12 := Ih8.tr Kh12 sb_prD_prS
            refine sx_istore dX4_firstDifference_72 (by decide) ?_
            refine sx_aload_n dX4_firstDifference_74 rfl ?_
            refine sx_getS (k := 5) (t := 202) cl_4 fl_X4_22 dX4_firstDifference_75 s_197 (by decide) rfl (by decide) ?_
            refine sx_iload dX4_firstDifference_78 rfl ?_
            refine sx_iload dX4_firstDifference_80 rfl ?_
            refine sx_callSi lk_X4_84 dX4_firstDifference_82 (vs := [_, _, _]) rfl rfl (Nat.le_of_ble_eq_true rfl) (Nat.le_of_ble_eq_true rfl) rfl (c_X4_layDigits _ Ih12.1 (202) (by decide) _ _ (by omega)) (fun x15 h14 ph14 => ?_)
            have Kh14 := ph14
            have Ih14 := Ih12.tr Kh14 sb_prD_prS
            refine sx_pop dX4_firstDifference_85 ?_
            refine sx_aload_n dX4_firstDifference_86 rfl ?_
            refine sx_aload_n dX4_firstDifference_87 rfl ?_
            refine sx_aload_n dX4_firstDifference_88 rfl ?_
            refine sx_getS (k := 4) (t := 199) cl_4 fl_X4_18 dX4_firstDifference_89 s_197 (by decide) rfl (by decide) ?_
            refine sx_iload_n dX4_firstDifference_92 rfl ?_
            refine sx_callVv lk_X4_88 cl_4 s_197 (by decide) dX4_firstDifference_93 (vs := [_, _, _]) rfl rfl (Nat.le_of_ble_eq_true rfl) (Nat.le_of_ble_eq_true rfl) rfl (c_X4_doWord_197_1 _ Ih14.1 (199) (by decide) _ (by omega)) (fun h16 ph16 => ?_)
            have Kh16 := ph16
            have Ih16 := Ih14.tr Kh16 sb_prD_prD
            refine sx_aload_n dX4_firstDifference_96 rfl ?_
            refine sx_aload_n dX4_firstDifference_97 rfl ?_
            refine sx_aload_n dX4_firstDifference_98 rfl ?_
            refine sx_getS (k := 5) (t := 202) cl_4 fl_X4_22 dX4_firstDifference_99 s_197 (by decide) rfl (by decide) ?_
            refine sx_iload_n dX4_firstDifference_102 rfl ?_
            refine sx_callVv lk_X4_88 cl_4 s_197 (by decide) dX4_firstDifference_103 (vs := [_, _, _]) rfl rfl (Nat.le_of_ble_eq_true rfl) (Nat.le_of_ble_eq_true rfl) rfl (c_X4_doWord_197_1 _ Ih16.1 (202) (by decide) _ (by omega)) (fun h18 ph18 => ?_)
            have Kh18 := ph18
            have Ih18 := Ih16.tr Kh18 sb_prD_prD
            refine sx_aload_n dX4_firstDifference_106 rfl ?_
            refine sx_getS (k := 4) (t := 199) cl_4 fl_X4_18 dX4_firstDifference_107 s_197 (by decide) rfl (by decide) ?_
            refine sx_aload_n dX4_firstDifference_110 rfl ?_
            refine sx_getS (k := 5) (t := 202) cl_4 fl_X4_22 dX4_firstDifference_111 s_197 (by decide) rfl (by decide) ?_
            refine sx_callVz lk_X4_92 cl_8 s_199 (by decide) dX4_firstDifference_114 (vs := [_]) rfl rfl (Nat.le_of_ble_eq_true rfl) (Nat.le_of_ble_eq_true rfl) rfl (c_X8_hasSameCells _ Ih18.1 (199) (by decide) (202) (by decide)) (fun x21 h20 zx21 ph20 => ?_)
            have Kh20 := ph20
            have Ih20 := Ih18.tr Kh20 sb_prD_prS
            refine sx_if_ne (tgt := 123) dX4_firstDifference_117 (by decide) (fun c22 => ?_) (fun c22 => ?_)
            ·
              refine sx_iinc dX4_firstDifference_123 (by decide) rfl ?_
              rw [sw_w_id (by omega) (by omega)]
              refine sx_goto (tgt := 54) dX4_firstDifference_126 (by decide) ?_
              refine sx_kill 7 ?_
              exact ihh8 _ _ ⟨Ih20, by omega⟩ (by exact sy_dec (by omega) (by omega))
            ·
              refine sx_iload dX4_firstDifference_120 rfl ?_
              refine sx_ireturn dX4_firstDifference_122 ?_
              exact ⟨_, rfl, Ih20⟩
        · exact ⟨hI, by omega⟩
      ·
        refine sx_bipush dX4_firstDifference_40 ⟨by decide, by decide, by decide⟩ ?_
        refine sx_ireturn dX4_firstDifference_42 ?_
        exact ⟨_, rfl, hI⟩
set_option maxRecDepth 20000 in
set_option maxHeartbeats 4000000 in
theorem c_X4_firstDifference_197_13 {G : sw_G} (d : Nat) {h0 : sw_H} (hJ : cJ h0) (w v : Int) (hw : 0 ≤ w ∧ w < 6) (hv : 0 ≤ v ∧ v < 6) : sw_E G NH SH (d + 18) mX4_firstDifference 0 [some (sw_r 197), some (sw_r 13), some (sw_i w), some (sw_i v), none, none, none, none] [] h0 (sw_Qi (fun z h' => cK prD h0 h')) := by
  have hI : cK prD h0 h0 := cK.refl hJ
  refine sx_aload_n dX4_firstDifference_0 rfl ?_
  refine sx_getS (k := 10) (t := 19) cl_0 fl_X4_78 dX4_firstDifference_1 s_13 (by decide) rfl (by decide) ?_
  refine sx_iload_n dX4_firstDifference_4 rfl ?_
  refine sy_iaF (F := fun z => (0 : Int) ≤ z ∧ z ≤ 2147483647) dX4_firstDifference_5 s_19 (by decide) (by decide) ⟨by omega, by omega⟩ (hI.1.1 19 _) (fun r1 => ?_)
  refine sy_top (fun v2 ev2 => ?_)
  refine sx_istore dX4_firstDifference_6 (by decide) ?_
  refine sx_iload dX4_firstDifference_8 rfl ?_
  refine sx_iconst dX4_firstDifference_10 ⟨by decide, by decide⟩ ?_
  refine sx_icmp_gt (tgt := 40) dX4_firstDifference_11 (by decide) (fun c3 => ?_) (fun c3 => ?_)
  ·
    refine sx_bipush dX4_firstDifference_40 ⟨by decide, by decide, by decide⟩ ?_
    refine sx_ireturn dX4_firstDifference_42 ?_
    exact ⟨_, rfl, hI⟩
  ·
    refine sx_iload dX4_firstDifference_14 rfl ?_
    refine sx_aload_n dX4_firstDifference_16 rfl ?_
    refine sx_getS (k := 10) (t := 19) cl_0 fl_X4_78 dX4_firstDifference_17 s_13 (by decide) rfl (by decide) ?_
    refine sx_iload_n dX4_firstDifference_20 rfl ?_
    refine sy_iaF (F := fun z => (0 : Int) ≤ z ∧ z ≤ 2147483647) dX4_firstDifference_21 s_19 (by decide) (by decide) ⟨by omega, by omega⟩ (hI.1.1 19 _) (fun r4 => ?_)
    refine sx_icmp_ne (tgt := 40) dX4_firstDifference_22 (by decide) (fun c5 => ?_) (fun c5 => ?_)
    ·
      refine sx_bipush dX4_firstDifference_40 ⟨by decide, by decide, by decide⟩ ?_
      refine sx_ireturn dX4_firstDifference_42 ?_
      exact ⟨_, rfl, hI⟩
    ·
      refine sx_aload_n dX4_firstDifference_25 rfl ?_
      refine sx_getS (k := 11) (t := 20) cl_0 fl_X4_81 dX4_firstDifference_26 s_13 (by decide) rfl (by decide) ?_
      refine sx_iload_n dX4_firstDifference_29 rfl ?_
      refine sx_iaload dX4_firstDifference_30 s_20 (by decide) (by decide) ⟨by omega, by omega⟩ ?_
      refine sx_aload_n dX4_firstDifference_31 rfl ?_
      refine sx_getS (k := 11) (t := 20) cl_0 fl_X4_81 dX4_firstDifference_32 s_13 (by decide) rfl (by decide) ?_
      refine sx_iload_n dX4_firstDifference_35 rfl ?_
      refine sx_iaload dX4_firstDifference_36 s_20 (by decide) (by decide) ⟨by omega, by omega⟩ ?_
      refine sx_icmp_eq (tgt := 43) dX4_firstDifference_37 (by decide) (fun c6 => ?_) (fun c6 => ?_)
      ·
        refine sx_iconst dX4_firstDifference_43 ⟨by decide, by decide⟩ ?_
        refine sx_iconst dX4_firstDifference_44 ⟨by decide, by decide⟩ ?_
        refine sx_iload dX4_firstDifference_45 rfl ?_
        refine sx_imul dX4_firstDifference_47 ?_
        refine sy_topw (by omega) ?_
        refine sx_ishl dX4_firstDifference_48 ?_
        refine sy_top (fun v7 ev7 => ?_)
        refine sx_istore dX4_firstDifference_49 (by decide) ?_
        have ok5 : v7 ≤ 2147483647 := by rw [ev7]; exact (sw_i32_ok _).2
        refine sx_iconst dX4_firstDifference_51 ⟨by decide, by decide⟩ ?_
        refine sx_istore dX4_firstDifference_52 (by decide) ?_
        refine sx_loop1 (fun (h : sw_H) (g : Int) => (cK prD h0 h) ∧ (0 ≤ g)) (fun (h : sw_H) (g : Int) => (v7 - g).toNat) (fun (h : sw_H) (g : Int) => sw_E G NH SH (d + 18) mX4_firstDifference 54 [some (sw_r 197), some (sw_r 13), some (sw_i w), some (sw_i v), some (sw_i v2), some (sw_i v7), some (sw_i g), none] [] h (sw_Qi (fun z h' => cK prD h0 h'))) ?_ _ _ ?_
        · rintro h8 g_9 ⟨Ih8, j10⟩ ihh8
          try dsimp only at ihh8
          refine sx_iload dX4_firstDifference_54 rfl ?_
          refine sx_iload dX4_firstDifference_56 rfl ?_
          refine sx_icmp_ge (tgt := 129) dX4_firstDifference_58 (by decide) (fun c11 => ?_) (fun c11 => ?_)
          ·
            refine sx_iconst dX4_firstDifference_129 ⟨by decide, by decide⟩ ?_
            refine sx_ireturn dX4_firstDifference_130 ?_
            exact ⟨_, rfl, Ih8⟩
          ·
            refine sx_aload_n dX4_firstDifference_61 rfl ?_
            refine sx_getS (k := 4) (t := 199) cl_4 fl_X4_18 dX4_firstDifference_62 s_197 (by decide) rfl (by decide) ?_
            refine sx_iload dX4_firstDifference_65 rfl ?_
            refine sx_iload dX4_firstDifference_67 rfl ?_
            refine sx_callSi lk_X4_84 dX4_firstDifference_69 (vs := [_, _, _]) rfl rfl (Nat.le_of_ble_eq_true rfl) (Nat.le_of_ble_eq_true rfl) rfl (c_X4_layDigits _ Ih8.1 (199) (by decide) _ _ (by omega)) (fun x13 h12 ph12 => ?_)
            have Kh12 := ph12
            have Ih12 := Ih8.tr Kh12 sb_prD_prS
            refine sx_istore dX4_firstDifference_72 (by decide) ?_
            refine sx_aload_n dX4_firstDifference_74 rfl ?_
            refine sx_getS (k := 5) (t := 202) cl_4 fl_X4_22 dX4_firstDifference_75 s_197 (by decide) rfl (by decide) ?_
            refine sx_iload dX4_firstDifference_78 rfl ?_
            refine sx_iload dX4_firstDifference_80 rfl ?_
            refine sx_callSi lk_X4_84 dX4_firstDifference_82 (vs := [_, _, _]) rfl rfl (Nat.le_of_ble_eq_true rfl) (Nat.le_of_ble_eq_true rfl) rfl (c_X4_layDigits _ Ih12.1 (202) (by decide) _ _ (by omega)) (fun x15 h14 ph14 => ?_)
            have Kh14 := ph14
            have Ih14 := Ih12.tr Kh14 sb_prD_prS
            refine sx_pop dX4_firstDifference_85 ?_
            refine sx_aload_n dX4_firstDifference_86 rfl ?_
            refine sx_aload_n dX4_firstDifference_87 rfl ?_
            refine sx_aload_n dX4_firstDifference_88 rfl ?_
            refine sx_getS (k := 4) (t := 199) cl_4 fl_X4_18 dX4_firstDifference_89 s_197 (by decide) rfl (by decide) ?_
            refine sx_iload_n dX4_firstDifference_92 rfl ?_
            refine sx_callVv lk_X4_88 cl_4 s_197 (by decide) dX4_firstDifference_93 (vs := [_, _, _]) rfl rfl (Nat.le_of_ble_eq_true rfl) (Nat.le_of_ble_eq_true rfl) rfl (c_X4_doWord_197_13 _ Ih14.1 (199) (by decide) _ (by omega)) (fun h16 ph16 => ?_)
            have Kh16 := ph16
            have Ih16 := Ih14.tr Kh16 sb_prD_prD
            refine sx_aload_n dX4_firstDifference_96 rfl ?_
            refine sx_aload_n dX4_firstDifference_97 rfl ?_
            refine sx_aload_n dX4_firstDifference_98 rfl ?_
            refine sx_getS (k := 5) (t := 202) cl_4 fl_X4_22 dX4_firstDifference_99 s_197 (by decide) rfl (by decide) ?_
            refine sx_iload_n dX4_firstDifference_102 rfl ?_
            refine sx_callVv lk_X4_88 cl_4 s_197 (by decide) dX4_firstDifference_103 (vs := [_, _, _]) rfl rfl (Nat.le_of_ble_eq_true rfl) (Nat.le_of_ble_eq_true rfl) rfl (c_X4_doWord_197_13 _ Ih16.1 (202) (by decide) _ (by omega)) (fun h18 ph18 => ?_)
            have Kh18 := ph18
            have Ih18 := Ih16.tr Kh18 sb_prD_prD
            refine sx_aload_n dX4_firstDifference_106 rfl ?_
            refine sx_getS (k := 4) (t := 199) cl_4 fl_X4_18 dX4_firstDifference_107 s_197 (by decide) rfl (by decide) ?_
            refine sx_aload_n dX4_firstDifference_110 rfl ?_
            refine sx_getS (k := 5) (t := 202) cl_4 fl_X4_22 dX4_firstDifference_111 s_197 (by decide) rfl (by decide) ?_
            refine sx_callVz lk_X4_92 cl_8 s_199 (by decide) dX4_firstDifference_114 (vs := [_]) rfl rfl (Nat.le_of_ble_eq_true rfl) (Nat.le_of_ble_eq_true rfl) rfl (c_X8_hasSameCells _ Ih18.1 (199) (by decide) (202) (by decide)) (fun x21 h20 zx21 ph20 => ?_)
            have Kh20 := ph20
            have Ih20 := Ih18.tr Kh20 sb_prD_prS
            refine sx_if_ne (tgt := 123) dX4_firstDifference_117 (by decide) (fun c22 => ?_) (fun c22 => ?_)
            ·
              refine sx_iinc dX4_firstDifference_123 (by decide) rfl ?_
              rw [sw_w_id (by omega) (by omega)]
              refine sx_goto (tgt := 54) dX4_firstDifference_126 (by decide) ?_
              refine sx_kill 7 ?_
              exact ihh8 _ _ ⟨Ih20, by omega⟩ (by exact sy_dec (by omega) (by omega))
            ·
              refine sx_iload dX4_firstDifference_120 rfl ?_
              refine sx_ireturn dX4_firstDifference_122 ?_
              exact ⟨_, rfl, Ih20⟩
        · exact ⟨hI, by omega⟩
      ·
        refine sx_bipush dX4_firstDifference_40 ⟨by decide, by decide, by decide⟩ ?_
        refine sx_ireturn dX4_firstDifference_42 ?_
        exact ⟨_, rfl, hI⟩

-- ===== new objects: what they hold =====
def FC (h : sw_H) : Prop := (h 0 1 = 1 ∧ h 0 2 = 13) ∧ h 0 0 = 0 ∧ h 0 7 = 0 ∧ h 0 12 = 0 ∧ h 0 13 = 0 ∧ h 0 14 = -1 ∧ h 1 0 = 0 ∧ h 1 1 = 0 ∧ h 1 2 = 0 ∧ h 1 3 = 0 ∧ h 48 1 = 0 ∧ h 48 2 = 0 ∧ h 48 3 = 0 ∧ h 182 7 = 0 ∧ h 189 8 = 0 ∧ (∀ o, o ∈ stL → h o 1 = 0 ∧ h o 3 = 0 ∧ h o 4 = 0 ∧ h o 5 = 0) ∧ (∀ k : Nat, k < 57 → h 12 k = 1 + (k : Int) / 19)
def FM (h : sw_H) : Prop := h 224 36 = 0 ∧ h 224 37 = 0 ∧ h 224 2 = 0 ∧ h 224 4 = 0 ∧ h 224 5 = -1 ∧ h 224 73 = 0 ∧ h 224 74 = 0 ∧ h 224 83 = 0 ∧ h 224 99 = 0 ∧ h 224 100 = 0 ∧ (∀ k, h 227 k = 0) ∧ (∀ k, h 228 k = 0) ∧ (∀ k, h 229 k = 0) ∧ (∀ k, h 230 k = 0) ∧ (∀ k, h 232 k = 0) ∧ (∀ k, h 261 k = 0) ∧ (∀ k, h 289 k = 0)
set_option maxRecDepth 20000 in
set_option maxHeartbeats 4000000 in
theorem f_X11_word {G : sw_G} (d : Nat) {h0 : sw_H} (hJ : cJ h0) (y1 y2 : Int)  (hF : FC h0) : sw_E G NH SH (d + 1) mX11_word 0 [some (sw_r 0), some (sw_i y1), some (sw_i y2)] [] h0 (sw_Qi (fun z h' => cK pr1 h0 h' ∧ (z = -1))) := by
  obtain ⟨hc, f0, f7, f12, f13, f14, w0, i0, u0, l0, d1, d2, d3, b7, s8, zs, tk⟩ := hF
  have hI : cK pr1 h0 h0 := cK.refl hJ
  have rw : (0 : Int) ≤ h0 1 0 ∧ h0 1 0 ≤ 6 := hI.1.1 1 0
  refine sx_aload_n dX11_word_0 rfl ?_
  refine sx_getR (k := 1) (t := 1) cl_11 fl_X11_10 dX11_word_1 s_0 (by decide) rfl (by decide) (by omega) ?_
  refine sx_iload_n dX11_word_4 rfl ?_
  refine sx_callVz lk_X11_124 cl_0 s_1 (by decide) dX11_word_5 (vs := [_]) rfl rfl (Nat.le_of_ble_eq_true rfl) (Nat.le_of_ble_eq_true rfl) rfl (c_X0_hasWord_1 _ hI.1 _) (fun x2 h1 zx2 ph1 => ?_)
  obtain ⟨rfl, w_x2⟩ := ph1
  refine sx_if_ne (tgt := 13) dX11_word_8 (by decide) (fun c3 => ?_) (fun c3 => ?_)
  ·
    refine sx_iload_n dX11_word_13 rfl ?_
    refine sx_tsw (dt := 143) (ts := [56, 78, 88, 98, 108, 118, 128]) dX11_word_14 (by decide) (by decide) (by decide) (fun c4 => ?_) (And.intro (fun c4 => ?_) (And.intro (fun c4 => ?_) (And.intro (fun c4 => ?_) (And.intro (fun c4 => ?_) (And.intro (fun c4 => ?_) (And.intro (fun c4 => ?_) (And.intro (fun c4 => ?_) trivial)))))))
    ·
      refine sx_iconst dX11_word_143 ⟨by decide, by decide⟩ ?_
      refine sx_ireturn dX11_word_144 ?_
      exact ⟨_, rfl, ⟨hI, by first | omega | (exfalso; omega)⟩⟩
    ·
      refine sx_aload_n dX11_word_56 rfl ?_
      refine sx_getR (k := 1) (t := 1) cl_11 fl_X11_10 dX11_word_57 s_0 (by decide) rfl (by decide) (by omega) ?_
      refine sx_getS (k := 9) (t := 6) cl_0 fl_X11_128 dX11_word_60 s_1 (by decide) rfl (by decide) ?_
      refine sx_iload_n dX11_word_63 rfl ?_
      refine sx_iconst dX11_word_64 ⟨by decide, by decide⟩ ?_
      refine sx_iadd dX11_word_65 ?_
      refine sy_topw (by omega) ?_
      refine sy_iaF (F := fun z => (0 : Int) ≤ z ∧ z ≤ 60) dX11_word_66 s_6 (by decide) (by decide) ⟨by omega, by omega⟩ (hI.1.1 6 _) (fun r5 => ?_)
      refine sx_aload_n dX11_word_67 rfl ?_
      refine sx_getR (k := 1) (t := 1) cl_11 fl_X11_10 dX11_word_68 s_0 (by decide) rfl (by decide) (by omega) ?_
      refine sx_getS (k := 9) (t := 6) cl_0 fl_X11_128 dX11_word_71 s_1 (by decide) rfl (by decide) ?_
      refine sx_iload_n dX11_word_74 rfl ?_
      refine sy_iaF (F := fun z => (0 : Int) ≤ z ∧ z ≤ 60) dX11_word_75 s_6 (by decide) (by decide) ⟨by omega, by omega⟩ (hI.1.1 6 _) (fun r6 => ?_)
      refine sx_isub dX11_word_76 ?_
      refine sx_ireturn dX11_word_77 ?_
      exact ⟨_, rfl, ⟨hI, by first | omega | (exfalso; omega)⟩⟩
    ·
      refine sx_aload_n dX11_word_78 rfl ?_
      refine sx_getR (k := 1) (t := 1) cl_11 fl_X11_10 dX11_word_79 s_0 (by decide) rfl (by decide) (by omega) ?_
      refine sx_getS (k := 10) (t := 7) cl_0 fl_X11_132 dX11_word_82 s_1 (by decide) rfl (by decide) ?_
      refine sx_iload_n dX11_word_85 rfl ?_
      refine sy_iaF (F := fun z => (0 : Int) ≤ z ∧ z ≤ 2147483647) dX11_word_86 s_7 (by decide) (by decide) ⟨by omega, by omega⟩ (hI.1.1 7 _) (fun r7 => ?_)
      refine sx_ireturn dX11_word_87 ?_
      exact ⟨_, rfl, ⟨hI, by first | omega | (exfalso; omega)⟩⟩
    ·
      refine sx_aload_n dX11_word_88 rfl ?_
      refine sx_getR (k := 1) (t := 1) cl_11 fl_X11_10 dX11_word_89 s_0 (by decide) rfl (by decide) (by omega) ?_
      refine sx_getS (k := 11) (t := 8) cl_0 fl_X11_135 dX11_word_92 s_1 (by decide) rfl (by decide) ?_
      refine sx_iload_n dX11_word_95 rfl ?_
      refine sx_iaload dX11_word_96 s_8 (by decide) (by decide) ⟨by omega, by omega⟩ ?_
      refine sx_ireturn dX11_word_97 ?_
      exact ⟨_, rfl, ⟨hI, by first | omega | (exfalso; omega)⟩⟩
    ·
      refine sx_aload_n dX11_word_98 rfl ?_
      refine sx_getR (k := 1) (t := 1) cl_11 fl_X11_10 dX11_word_99 s_0 (by decide) rfl (by decide) (by omega) ?_
      refine sx_getS (k := 12) (t := 9) cl_0 fl_X11_138 dX11_word_102 s_1 (by decide) rfl (by decide) ?_
      refine sx_iload_n dX11_word_105 rfl ?_
      refine sx_iaload dX11_word_106 s_9 (by decide) (by decide) ⟨by omega, by omega⟩ ?_
      refine sx_ireturn dX11_word_107 ?_
      exact ⟨_, rfl, ⟨hI, by first | omega | (exfalso; omega)⟩⟩
    ·
      refine sx_aload_n dX11_word_108 rfl ?_
      refine sx_getR (k := 1) (t := 1) cl_11 fl_X11_10 dX11_word_109 s_0 (by decide) rfl (by decide) (by omega) ?_
      refine sx_getS (k := 13) (t := 10) cl_0 fl_X11_141 dX11_word_112 s_1 (by decide) rfl (by decide) ?_
      refine sx_iload_n dX11_word_115 rfl ?_
      refine sx_iaload dX11_word_116 s_10 (by decide) (by decide) ⟨by omega, by omega⟩ ?_
      refine sx_ireturn dX11_word_117 ?_
      exact ⟨_, rfl, ⟨hI, by first | omega | (exfalso; omega)⟩⟩
    ·
      refine sx_aload_n dX11_word_118 rfl ?_
      refine sx_getR (k := 1) (t := 1) cl_11 fl_X11_10 dX11_word_119 s_0 (by decide) rfl (by decide) (by omega) ?_
      refine sx_getS (k := 14) (t := 11) cl_0 fl_X11_144 dX11_word_122 s_1 (by decide) rfl (by decide) ?_
      refine sx_iload_n dX11_word_125 rfl ?_
      refine sx_iaload dX11_word_126 s_11 (by decide) (by decide) ⟨by omega, by omega⟩ ?_
      refine sx_ireturn dX11_word_127 ?_
      exact ⟨_, rfl, ⟨hI, by first | omega | (exfalso; omega)⟩⟩
    ·
      refine sx_aload_n dX11_word_128 rfl ?_
      refine sx_getS (k := 5) (t := 48) cl_11 fl_X11_36 dX11_word_129 s_0 (by decide) rfl (by decide) ?_
      refine sx_callVr lk_X11_147 cl_9 s_48 (by decide) dX11_word_132 (vs := []) rfl rfl (Nat.le_of_ble_eq_true rfl) (Nat.le_of_ble_eq_true rfl) ⟨_, rfl⟩ (c_X9_state _ hI.1) (fun x9 h8 ph8 => ?_)
      obtain ⟨Kh8, m_h8⟩ := ph8
      have Ih8 := hI.tr Kh8 sb_pr1_prL
      have th8_0_1 := Kh8.2 (0) 1 rfl
      have th8_0_2 := Kh8.2 (0) 2 rfl
      have th8_1_0 := Kh8.2 (1) 0 rfl
      have hx9m := m_h8
      obtain ⟨Sx90, Sx91, Sx92, bx9⟩ := s_St x9 hx9m
      have Bx90 : x9 < NH := show x9 < 290 by omega
      have Bx91 : x9 + 1 < NH := show x9 + 1 < 290 by omega
      have Bx92 : x9 + 2 < NH := show x9 + 2 < 290 by omega
      refine sx_getI (k := 4) cl_8 fl_X11_150 dX11_word_135 Sx90 Bx90 rfl (by decide) ?_
      refine sx_iload_n dX11_word_138 rfl ?_
      refine sx_ishr dX11_word_139 ?_
      refine sx_iconst dX11_word_140 ⟨by decide, by decide⟩ ?_
      refine sx_iand dX11_word_141 ?_
      refine sx_ireturn dX11_word_142 ?_
      exact ⟨_, rfl, ⟨Ih8, by first | omega | (exfalso; omega)⟩⟩
  ·
    refine sx_iconst dX11_word_11 ⟨by decide, by decide⟩ ?_
    refine sx_ireturn dX11_word_12 ?_
    exact ⟨_, rfl, ⟨hI, by first | omega | (exfalso; omega)⟩⟩
set_option maxRecDepth 20000 in
set_option maxHeartbeats 4000000 in
theorem f_X11_item {G : sw_G} (d : Nat) {h0 : sw_H} (hJ : cJ h0) (y1 y2 y3 : Int)  (hF : FC h0) : sw_E G NH SH (d + 2) mX11_item 0 [some (sw_r 0), some (sw_i y1), some (sw_i y2), some (sw_i y3), none] [] h0 (sw_Qi (fun z h' => cK pr1 h0 h' ∧ (z = -1))) := by
  obtain ⟨hc, f0, f7, f12, f13, f14, w0, i0, u0, l0, d1, d2, d3, b7, s8, zs, tk⟩ := hF
  have hI : cK pr1 h0 h0 := cK.refl hJ
  have rw : (0 : Int) ≤ h0 1 0 ∧ h0 1 0 ≤ 6 := hI.1.1 1 0
  have ri : ∀ k, (0 : Int) ≤ h0 6 k ∧ h0 6 k ≤ 60 := fun k => hI.1.1 6 k
  have ri1 := ri (y1 + 1).toNat
  have ri0 := ri y1.toNat
  refine sx_aload_n dX11_item_0 rfl ?_
  refine sx_getR (k := 1) (t := 1) cl_11 fl_X11_10 dX11_item_1 s_0 (by decide) rfl (by decide) (by omega) ?_
  refine sx_iload_n dX11_item_4 rfl ?_
  refine sx_iload_n dX11_item_5 rfl ?_
  refine sx_callVz lk_X11_153 cl_0 s_1 (by decide) dX11_item_6 (vs := [_, _]) rfl rfl (Nat.le_of_ble_eq_true rfl) (Nat.le_of_ble_eq_true rfl) rfl (c_X0_hasItem_1 _ hI.1 _ _) (fun x2 h1 zx2 ph1 => ?_)
  obtain ⟨rfl, w_x2⟩ := ph1
  refine sx_if_ne (tgt := 14) dX11_item_9 (by decide) (fun c3 => ?_) (fun c3 => ?_)
  ·
    refine sx_aload_n dX11_item_14 rfl ?_
    refine sx_getR (k := 1) (t := 1) cl_11 fl_X11_10 dX11_item_15 s_0 (by decide) rfl (by decide) (by omega) ?_
    refine sx_getS (k := 9) (t := 6) cl_0 fl_X11_128 dX11_item_18 s_1 (by decide) rfl (by decide) ?_
    refine sx_iload_n dX11_item_21 rfl ?_
    refine sy_iaF (F := fun z => (0 : Int) ≤ z ∧ z ≤ 60) dX11_item_22 s_6 (by decide) (by decide) ⟨by omega, by omega⟩ (hI.1.1 6 _) (fun r4 => ?_)
    refine sx_iload_n dX11_item_23 rfl ?_
    refine sx_iadd dX11_item_24 ?_
    refine sy_topw (by omega) ?_
    refine sy_top (fun v5 ev5 => ?_)
    refine sx_istore dX11_item_25 (by decide) ?_
    refine sx_iload_n dX11_item_27 rfl ?_
    refine sx_lsw (dt := 78) (ps := [(0, 56), (1, 67)]) dX11_item_28 (by decide) (by decide) (by decide) (And.intro (fun c6 => ?_) (fun c6_0 => (And.intro (fun c6 => ?_) (fun c6_1 => ?_))))
    ·
      refine sx_aload_n dX11_item_56 rfl ?_
      refine sx_getR (k := 1) (t := 1) cl_11 fl_X11_10 dX11_item_57 s_0 (by decide) rfl (by decide) (by omega) ?_
      refine sx_getS (k := 5) (t := 2) cl_0 fl_X11_157 dX11_item_60 s_1 (by decide) rfl (by decide) ?_
      refine sx_iload dX11_item_63 rfl ?_
      refine sx_iaload dX11_item_65 s_2 (by decide) (by decide) ⟨by omega, by omega⟩ ?_
      refine sx_ireturn dX11_item_66 ?_
      exact ⟨_, rfl, ⟨hI, by first | omega | (exfalso; omega)⟩⟩
    ·
      refine sx_aload_n dX11_item_67 rfl ?_
      refine sx_getR (k := 1) (t := 1) cl_11 fl_X11_10 dX11_item_68 s_0 (by decide) rfl (by decide) (by omega) ?_
      refine sx_getS (k := 6) (t := 3) cl_0 fl_X11_160 dX11_item_71 s_1 (by decide) rfl (by decide) ?_
      refine sx_iload dX11_item_74 rfl ?_
      refine sx_iaload dX11_item_76 s_3 (by decide) (by decide) ⟨by omega, by omega⟩ ?_
      refine sx_ireturn dX11_item_77 ?_
      exact ⟨_, rfl, ⟨hI, by first | omega | (exfalso; omega)⟩⟩
    ·
      refine sx_iconst dX11_item_78 ⟨by decide, by decide⟩ ?_
      refine sx_ireturn dX11_item_79 ?_
      exact ⟨_, rfl, ⟨hI, by first | omega | (exfalso; omega)⟩⟩
  ·
    refine sx_iconst dX11_item_12 ⟨by decide, by decide⟩ ?_
    refine sx_ireturn dX11_item_13 ?_
    exact ⟨_, rfl, ⟨hI, by first | omega | (exfalso; omega)⟩⟩
set_option maxRecDepth 20000 in
set_option maxHeartbeats 4000000 in
theorem f_X11_call {G : sw_G} (d : Nat) {h0 : sw_H} (hJ : cJ h0) (y1 : Int)  (hF : FC h0) : sw_E G NH SH (d + 18) mX11_call 0 [some (sw_r 0), some (sw_i y1), none, none] [] h0 (sw_Qi (fun z h' => cK pr1 h0 h' ∧ (z = -1))) := by
  obtain ⟨hc, f0, f7, f12, f13, f14, w0, i0, u0, l0, d1, d2, d3, b7, s8, zs, tk⟩ := hF
  have hI : cK pr1 h0 h0 := cK.refl hJ
  have rw : (0 : Int) ≤ h0 1 0 ∧ h0 1 0 ≤ 6 := hI.1.1 1 0
  refine sx_aload_n dX11_call_0 rfl ?_
  refine sx_getR (k := 1) (t := 1) cl_11 fl_X11_10 dX11_call_1 s_0 (by decide) rfl (by decide) (by omega) ?_
  refine sx_iload_n dX11_call_4 rfl ?_
  refine sx_callVz lk_X11_124 cl_0 s_1 (by decide) dX11_call_5 (vs := [_]) rfl rfl (Nat.le_of_ble_eq_true rfl) (Nat.le_of_ble_eq_true rfl) rfl (c_X0_hasWord_1 _ hI.1 _) (fun x2 h1 zx2 ph1 => ?_)
  obtain ⟨rfl, w_x2⟩ := ph1
  refine sx_if_ne (tgt := 13) dX11_call_8 (by decide) (fun c3 => ?_) (fun c3 => ?_)
  ·
    refine sx_aload_n dX11_call_13 rfl ?_
    refine sx_getS (k := 5) (t := 48) cl_11 fl_X11_36 dX11_call_14 s_0 (by decide) rfl (by decide) ?_
    refine sx_callVr lk_X11_147 cl_9 s_48 (by decide) dX11_call_17 (vs := []) rfl rfl (Nat.le_of_ble_eq_true rfl) (Nat.le_of_ble_eq_true rfl) ⟨_, rfl⟩ (c_X9_state _ hI.1) (fun x5 h4 ph4 => ?_)
    obtain ⟨Kh4, m_h4⟩ := ph4
    have Ih4 := hI.tr Kh4 sb_pr1_prL
    have th4_0_1 := Kh4.2 (0) 1 rfl
    have th4_0_2 := Kh4.2 (0) 2 rfl
    have th4_1_0 := Kh4.2 (1) 0 rfl
    have hx5m := m_h4
    obtain ⟨Sx50, Sx51, Sx52, bx5⟩ := s_St x5 hx5m
    have Bx50 : x5 < NH := show x5 < 290 by omega
    have Bx51 : x5 + 1 < NH := show x5 + 1 < 290 by omega
    have Bx52 : x5 + 2 < NH := show x5 + 2 < 290 by omega
    refine sx_getI (k := 1) cl_8 fl_X11_163 dX11_call_20 Sx50 Bx50 rfl (by decide) ?_
    have r6 : (0 : Int) ≤ h4 (x5) 1 ∧ h4 (x5) 1 ≤ 24 := (okc_of (St_ok1 x5 hx5m).1) ▸ Ih4.1.1 (x5) 1
    refine sy_top (fun v7 ev7 => ?_)
    refine sx_istore_n dX11_call_23 (by decide) ?_
    refine sx_iload_n dX11_call_24 rfl ?_
    refine sx_aload_n dX11_call_25 rfl ?_
    refine sx_getR (k := 1) (t := 1) cl_11 fl_X11_10 dX11_call_26 s_0 (by decide) rfl (by decide) (by omega) ?_
    refine sx_getS (k := 10) (t := 7) cl_0 fl_X11_132 dX11_call_29 s_1 (by decide) rfl (by decide) ?_
    refine sx_iload_n dX11_call_32 rfl ?_
    refine sy_iaF (F := fun z => (0 : Int) ≤ z ∧ z ≤ 2147483647) dX11_call_33 s_7 (by decide) (by decide) ⟨by omega, by omega⟩ (Ih4.1.1 7 _) (fun r8 => ?_)
    refine sx_icmp_lt (tgt := 53) dX11_call_34 (by decide) (fun c9 => ?_) (fun c9 => ?_)
    ·
      refine sx_iconst dX11_call_53 ⟨by decide, by decide⟩ ?_
      refine sx_ireturn dX11_call_54 ?_
      exact ⟨_, rfl, ⟨Ih4, by first | omega | (exfalso; omega)⟩⟩
    ·
      refine sx_iload_n dX11_call_37 rfl ?_
      refine sx_aload_n dX11_call_38 rfl ?_
      refine sx_getR (k := 1) (t := 1) cl_11 fl_X11_10 dX11_call_39 s_0 (by decide) rfl (by decide) (by omega) ?_
      refine sx_getS (k := 12) (t := 9) cl_0 fl_X11_138 dX11_call_42 s_1 (by decide) rfl (by decide) ?_
      refine sx_iload_n dX11_call_45 rfl ?_
      refine sx_iaload dX11_call_46 s_9 (by decide) (by decide) ⟨by omega, by omega⟩ ?_
      refine sx_iadd dX11_call_47 ?_
      refine sx_bipush dX11_call_48 ⟨by decide, by decide, by decide⟩ ?_
      refine sx_icmp_le (tgt := 55) dX11_call_50 (by decide) (fun c10 => ?_) (fun c10 => ?_)
      ·
        refine sx_aload_n dX11_call_55 rfl ?_
        refine sx_getS (k := 5) (t := 48) cl_11 fl_X11_36 dX11_call_56 s_0 (by decide) rfl (by decide) ?_
        refine sx_callVr lk_X11_166 cl_9 s_48 (by decide) dX11_call_59 (vs := []) rfl rfl (Nat.le_of_ble_eq_true rfl) (Nat.le_of_ble_eq_true rfl) ⟨_, rfl⟩ (c_X9_begin _ Ih4.1) (fun x12 h11 ph11 => ?_)
        obtain ⟨Kh11, m_h11⟩ := ph11
        have Ih11 := Ih4.tr Kh11 sb_pr1_prL
        have th11_0_1 := Kh11.2 (0) 1 rfl
        have th11_0_2 := Kh11.2 (0) 2 rfl
        have th11_1_0 := Kh11.2 (1) 0 rfl
        have hx12m := m_h11
        obtain ⟨Sx120, Sx121, Sx122, bx12⟩ := s_St x12 hx12m
        have Bx120 : x12 < NH := show x12 < 290 by omega
        have Bx121 : x12 + 1 < NH := show x12 + 1 < 290 by omega
        have Bx122 : x12 + 2 < NH := show x12 + 2 < 290 by omega
        refine sx_astore_n dX11_call_62 (by decide) ?_
        refine sx_aload_n dX11_call_63 rfl ?_
        refine sx_getS (k := 3) (t := 25) cl_11 fl_X11_22 dX11_call_64 s_0 (by decide) rfl (by decide) ?_
        refine sx_aload_n dX11_call_67 rfl ?_
        refine sx_getR (k := 1) (t := 1) cl_11 fl_X11_10 dX11_call_68 s_0 (by decide) rfl (by decide) (by omega) ?_
        refine sx_aload_n dX11_call_71 rfl ?_
        refine sx_iload_n dX11_call_72 rfl ?_
        refine sx_callVv lk_X11_177 cl_4 s_25 (by decide) dX11_call_73 (vs := [_, _, _]) rfl rfl (Nat.le_of_ble_eq_true rfl) (Nat.le_of_ble_eq_true rfl) rfl (c_X4_doWord_25_1 _ Ih11.1 (x12) hx12m _ (by omega)) (fun h13 ph13 => ?_)
        have Kh13 := ph13
        have Ih13 := Ih11.tr Kh13 sb_pr1_prD
        have th13_0_1 := Kh13.2 (0) 1 rfl
        have th13_0_2 := Kh13.2 (0) 2 rfl
        have th13_1_0 := Kh13.2 (1) 0 rfl
        refine sx_aload_n dX11_call_76 rfl ?_
        refine sx_getI (k := 1) cl_8 fl_X11_163 dX11_call_77 Sx120 Bx120 rfl (by decide) ?_
        have r15 : (0 : Int) ≤ h13 (x12) 1 ∧ h13 (x12) 1 ≤ 24 := (okc_of (St_ok1 x12 hx12m).1) ▸ Ih13.1.1 (x12) 1
        refine sx_ireturn dX11_call_80 ?_
        exact ⟨_, rfl, ⟨Ih13, by first | omega | (exfalso; omega)⟩⟩
      ·
        refine sx_iconst dX11_call_53 ⟨by decide, by decide⟩ ?_
        refine sx_ireturn dX11_call_54 ?_
        exact ⟨_, rfl, ⟨Ih4, by first | omega | (exfalso; omega)⟩⟩
  ·
    refine sx_iconst dX11_call_11 ⟨by decide, by decide⟩ ?_
    refine sx_ireturn dX11_call_12 ?_
    exact ⟨_, rfl, ⟨hI, by first | omega | (exfalso; omega)⟩⟩
set_option maxRecDepth 20000 in
set_option maxHeartbeats 4000000 in
theorem f_X11_inline {G : sw_G} (d : Nat) {h0 : sw_H} (hJ : cJ h0) (y1 : Int)  (hF : FC h0) : sw_E G NH SH (d + 3) mX11_inline 0 [some (sw_r 0), some (sw_i y1), none] [] h0 (sw_Qi (fun z h' => cK pr1 h0 h' ∧ (z = -1))) := by
  obtain ⟨hc, f0, f7, f12, f13, f14, w0, i0, u0, l0, d1, d2, d3, b7, s8, zs, tk⟩ := hF
  have hI : cK pr1 h0 h0 := cK.refl hJ
  have rw : (0 : Int) ≤ h0 1 0 ∧ h0 1 0 ≤ 6 := hI.1.1 1 0
  refine sx_aload_n dX11_inline_0 rfl ?_
  refine sx_getR (k := 1) (t := 1) cl_11 fl_X11_10 dX11_inline_1 s_0 (by decide) rfl (by decide) (by omega) ?_
  refine sx_iload_n dX11_inline_4 rfl ?_
  refine sx_callVz lk_X11_124 cl_0 s_1 (by decide) dX11_inline_5 (vs := [_]) rfl rfl (Nat.le_of_ble_eq_true rfl) (Nat.le_of_ble_eq_true rfl) rfl (c_X0_hasWord_1 _ hI.1 _) (fun x2 h1 zx2 ph1 => ?_)
  obtain ⟨rfl, w_x2⟩ := ph1
  refine sx_if_ne (tgt := 13) dX11_inline_8 (by decide) (fun c3 => ?_) (fun c3 => ?_)
  ·
    refine sx_aload_n dX11_inline_13 rfl ?_
    refine sx_getS (k := 5) (t := 48) cl_11 fl_X11_36 dX11_inline_14 s_0 (by decide) rfl (by decide) ?_
    refine sx_callVr lk_X11_166 cl_9 s_48 (by decide) dX11_inline_17 (vs := []) rfl rfl (Nat.le_of_ble_eq_true rfl) (Nat.le_of_ble_eq_true rfl) ⟨_, rfl⟩ (c_X9_begin _ hI.1) (fun x5 h4 ph4 => ?_)
    obtain ⟨Kh4, m_h4⟩ := ph4
    have Ih4 := hI.tr Kh4 sb_pr1_prL
    have th4_0_1 := Kh4.2 (0) 1 rfl
    have th4_0_2 := Kh4.2 (0) 2 rfl
    have th4_1_0 := Kh4.2 (1) 0 rfl
    have hx5m := m_h4
    obtain ⟨Sx50, Sx51, Sx52, bx5⟩ := s_St x5 hx5m
    have Bx50 : x5 < NH := show x5 < 290 by omega
    have Bx51 : x5 + 1 < NH := show x5 + 1 < 290 by omega
    have Bx52 : x5 + 2 < NH := show x5 + 2 < 290 by omega
    refine sx_astore_n dX11_inline_20 (by decide) ?_
    refine sx_aload_n dX11_inline_21 rfl ?_
    refine sx_dupr dX11_inline_22 ?_
    refine sx_getI (k := 4) cl_8 fl_X11_150 dX11_inline_23 Sx50 Bx50 rfl (by decide) ?_
    refine sx_iconst dX11_inline_26 ⟨by decide, by decide⟩ ?_
    refine sx_iload_n dX11_inline_27 rfl ?_
    refine sx_ishl dX11_inline_28 ?_
    refine sx_ixor dX11_inline_29 ?_
    refine sy_putI (k := 4) cl_8 fl_X11_150 dX11_inline_30 Sx50 Bx50 rfl (by decide) rfl rfl (fun h6 eh6 => ?_)
    have Ih6 := Ih4.up eh6 (okc_no (St_ok1 x5 hx5m).2.2.1) (St_sp x5 hx5m _).1.1 (prf_of sb_pr1_prS (St_sp x5 hx5m _).2.1)
    have th6_0_1 := eh6.2 (0) 1 (by omega)
    have th6_0_2 := eh6.2 (0) 2 (by omega)
    have th6_1_0 := eh6.2 (1) 0 (by omega)
    refine sx_aload_n dX11_inline_33 rfl ?_
    refine sx_getI (k := 4) cl_8 fl_X11_150 dX11_inline_34 Sx50 Bx50 rfl (by decide) ?_
    refine sx_ireturn dX11_inline_37 ?_
    exact ⟨_, rfl, ⟨Ih6, by first | omega | (exfalso; omega)⟩⟩
  ·
    refine sx_iconst dX11_inline_11 ⟨by decide, by decide⟩ ?_
    refine sx_ireturn dX11_inline_12 ?_
    exact ⟨_, rfl, ⟨hI, by first | omega | (exfalso; omega)⟩⟩
set_option maxRecDepth 20000 in
set_option maxHeartbeats 4000000 in
theorem f_X11_alike {G : sw_G} (d : Nat) {h0 : sw_H} (hJ : cJ h0) (y1 y2 : Int)  (hF : FC h0) : sw_E G NH SH (d + 19) mX11_alike 0 [some (sw_r 0), some (sw_i y1), some (sw_i y2)] [] h0 (sw_Qi (fun z h' => cK pr1 h0 h' ∧ (z = -1))) := by
  obtain ⟨hc, f0, f7, f12, f13, f14, w0, i0, u0, l0, d1, d2, d3, b7, s8, zs, tk⟩ := hF
  have hI : cK pr1 h0 h0 := cK.refl hJ
  have rw : (0 : Int) ≤ h0 1 0 ∧ h0 1 0 ≤ 6 := hI.1.1 1 0
  refine sx_aload_n dX11_alike_0 rfl ?_
  refine sx_getR (k := 1) (t := 1) cl_11 fl_X11_10 dX11_alike_1 s_0 (by decide) rfl (by decide) (by omega) ?_
  refine sx_iload_n dX11_alike_4 rfl ?_
  refine sx_callVz lk_X11_124 cl_0 s_1 (by decide) dX11_alike_5 (vs := [_]) rfl rfl (Nat.le_of_ble_eq_true rfl) (Nat.le_of_ble_eq_true rfl) rfl (c_X0_hasWord_1 _ hI.1 _) (fun x2 h1 zx2 ph1 => ?_)
  obtain ⟨rfl, w_x2⟩ := ph1
  refine sx_if_eq (tgt := 22) dX11_alike_8 (by decide) (fun c3 => ?_) (fun c3 => ?_)
  ·
    refine sx_iconst dX11_alike_22 ⟨by decide, by decide⟩ ?_
    refine sx_ireturn dX11_alike_23 ?_
    exact ⟨_, rfl, ⟨hI, by first | omega | (exfalso; omega)⟩⟩
  ·
    refine sx_aload_n dX11_alike_11 rfl ?_
    refine sx_getR (k := 1) (t := 1) cl_11 fl_X11_10 dX11_alike_12 s_0 (by decide) rfl (by decide) (by omega) ?_
    refine sx_iload_n dX11_alike_15 rfl ?_
    refine sx_callVz lk_X11_124 cl_0 s_1 (by decide) dX11_alike_16 (vs := [_]) rfl rfl (Nat.le_of_ble_eq_true rfl) (Nat.le_of_ble_eq_true rfl) rfl (c_X0_hasWord_1 _ hI.1 _) (fun x5 h4 zx5 ph4 => ?_)
    obtain ⟨rfl, w_x5⟩ := ph4
    refine sx_if_ne (tgt := 24) dX11_alike_19 (by decide) (fun c6 => ?_) (fun c6 => ?_)
    ·
      refine sx_aload_n dX11_alike_24 rfl ?_
      refine sx_getS (k := 3) (t := 25) cl_11 fl_X11_22 dX11_alike_25 s_0 (by decide) rfl (by decide) ?_
      refine sx_aload_n dX11_alike_28 rfl ?_
      refine sx_getR (k := 1) (t := 1) cl_11 fl_X11_10 dX11_alike_29 s_0 (by decide) rfl (by decide) (by omega) ?_
      refine sx_iload_n dX11_alike_32 rfl ?_
      refine sx_iload_n dX11_alike_33 rfl ?_
      refine sx_callVi lk_X11_211 cl_4 s_25 (by decide) dX11_alike_34 (vs := [_, _, _]) rfl rfl (Nat.le_of_ble_eq_true rfl) (Nat.le_of_ble_eq_true rfl) rfl (c_X4_firstDifference_25_1 _ hI.1 _ _ (by omega) (by omega)) (fun x8 h7 ph7 => ?_)
      have Kh7 := ph7
      have Ih7 := hI.tr Kh7 sb_pr1_prD
      have th7_0_1 := Kh7.2 (0) 1 rfl
      have th7_0_2 := Kh7.2 (0) 2 rfl
      have th7_1_0 := Kh7.2 (1) 0 rfl
      refine sx_iconst dX11_alike_37 ⟨by decide, by decide⟩ ?_
      refine sx_icmp_ne (tgt := 45) dX11_alike_38 (by decide) (fun c9 => ?_) (fun c9 => ?_)
      ·
        refine sx_iconst dX11_alike_45 ⟨by decide, by decide⟩ ?_
        refine sx_ireturn dX11_alike_46 ?_
        exact ⟨_, rfl, ⟨Ih7, by first | omega | (exfalso; omega)⟩⟩
      ·
        refine sx_iconst dX11_alike_41 ⟨by decide, by decide⟩ ?_
        refine sx_goto (tgt := 46) dX11_alike_42 (by decide) ?_
        refine sx_ireturn dX11_alike_46 ?_
        exact ⟨_, rfl, ⟨Ih7, by first | omega | (exfalso; omega)⟩⟩
    ·
      refine sx_iconst dX11_alike_22 ⟨by decide, by decide⟩ ?_
      refine sx_ireturn dX11_alike_23 ?_
      exact ⟨_, rfl, ⟨hI, by first | omega | (exfalso; omega)⟩⟩
set_option maxRecDepth 20000 in
set_option maxHeartbeats 4000000 in
theorem f_X11_differs {G : sw_G} (d : Nat) {h0 : sw_H} (hJ : cJ h0) (y1 y2 : Int)  (hF : FC h0) : sw_E G NH SH (d + 19) mX11_differs 0 [some (sw_r 0), some (sw_i y1), some (sw_i y2)] [] h0 (sw_Qi (fun z h' => cK pr1 h0 h' ∧ (z = -1))) := by
  obtain ⟨hc, f0, f7, f12, f13, f14, w0, i0, u0, l0, d1, d2, d3, b7, s8, zs, tk⟩ := hF
  have hI : cK pr1 h0 h0 := cK.refl hJ
  have rw : (0 : Int) ≤ h0 1 0 ∧ h0 1 0 ≤ 6 := hI.1.1 1 0
  refine sx_aload_n dX11_differs_0 rfl ?_
  refine sx_getR (k := 1) (t := 1) cl_11 fl_X11_10 dX11_differs_1 s_0 (by decide) rfl (by decide) (by omega) ?_
  refine sx_iload_n dX11_differs_4 rfl ?_
  refine sx_callVz lk_X11_124 cl_0 s_1 (by decide) dX11_differs_5 (vs := [_]) rfl rfl (Nat.le_of_ble_eq_true rfl) (Nat.le_of_ble_eq_true rfl) rfl (c_X0_hasWord_1 _ hI.1 _) (fun x2 h1 zx2 ph1 => ?_)
  obtain ⟨rfl, w_x2⟩ := ph1
  refine sx_if_eq (tgt := 22) dX11_differs_8 (by decide) (fun c3 => ?_) (fun c3 => ?_)
  ·
    refine sx_iconst dX11_differs_22 ⟨by decide, by decide⟩ ?_
    refine sx_ireturn dX11_differs_23 ?_
    exact ⟨_, rfl, ⟨hI, by first | omega | (exfalso; omega)⟩⟩
  ·
    refine sx_aload_n dX11_differs_11 rfl ?_
    refine sx_getR (k := 1) (t := 1) cl_11 fl_X11_10 dX11_differs_12 s_0 (by decide) rfl (by decide) (by omega) ?_
    refine sx_iload_n dX11_differs_15 rfl ?_
    refine sx_callVz lk_X11_124 cl_0 s_1 (by decide) dX11_differs_16 (vs := [_]) rfl rfl (Nat.le_of_ble_eq_true rfl) (Nat.le_of_ble_eq_true rfl) rfl (c_X0_hasWord_1 _ hI.1 _) (fun x5 h4 zx5 ph4 => ?_)
    obtain ⟨rfl, w_x5⟩ := ph4
    refine sx_if_ne (tgt := 24) dX11_differs_19 (by decide) (fun c6 => ?_) (fun c6 => ?_)
    ·
      refine sx_iconst dX11_differs_24 ⟨by decide, by decide⟩ ?_
      refine sx_aload_n dX11_differs_25 rfl ?_
      refine sx_getS (k := 3) (t := 25) cl_11 fl_X11_22 dX11_differs_26 s_0 (by decide) rfl (by decide) ?_
      refine sx_aload_n dX11_differs_29 rfl ?_
      refine sx_getR (k := 1) (t := 1) cl_11 fl_X11_10 dX11_differs_30 s_0 (by decide) rfl (by decide) (by omega) ?_
      refine sx_iload_n dX11_differs_33 rfl ?_
      refine sx_iload_n dX11_differs_34 rfl ?_
      refine sx_callVi lk_X11_211 cl_4 s_25 (by decide) dX11_differs_35 (vs := [_, _, _]) rfl rfl (Nat.le_of_ble_eq_true rfl) (Nat.le_of_ble_eq_true rfl) rfl (c_X4_firstDifference_25_1 _ hI.1 _ _ (by omega) (by omega)) (fun x8 h7 ph7 => ?_)
      have Kh7 := ph7
      have Ih7 := hI.tr Kh7 sb_pr1_prD
      have th7_0_1 := Kh7.2 (0) 1 rfl
      have th7_0_2 := Kh7.2 (0) 2 rfl
      have th7_1_0 := Kh7.2 (1) 0 rfl
      refine sx_max lm_X11_215 lw_max dX11_differs_38 (Nat.le_of_ble_eq_true rfl) ?_
      refine sy_max (fun m9 em9 fm9 gm9 => ?_)
      refine sx_ireturn dX11_differs_41 ?_
      exact ⟨_, rfl, ⟨Ih7, by first | omega | (exfalso; omega)⟩⟩
    ·
      refine sx_iconst dX11_differs_22 ⟨by decide, by decide⟩ ?_
      refine sx_ireturn dX11_differs_23 ?_
      exact ⟨_, rfl, ⟨hI, by first | omega | (exfalso; omega)⟩⟩
set_option maxRecDepth 20000 in
set_option maxHeartbeats 4000000 in
theorem f_X11_tidy {G : sw_G} (d : Nat) {h0 : sw_H} (hJ : cJ h0) (y1 : Int)  (hF : FC h0) : sw_E G NH SH (d + 5) mX11_tidy 0 [some (sw_r 0), some (sw_i y1)] [] h0 (sw_Qi (fun z h' => cK pr1 h0 h' ∧ (z = -1))) := by
  obtain ⟨hc, f0, f7, f12, f13, f14, w0, i0, u0, l0, d1, d2, d3, b7, s8, zs, tk⟩ := hF
  have hI : cK pr1 h0 h0 := cK.refl hJ
  have rw : (0 : Int) ≤ h0 1 0 ∧ h0 1 0 ≤ 6 := hI.1.1 1 0
  refine sx_aload_n dX11_tidy_0 rfl ?_
  refine sx_getR (k := 1) (t := 1) cl_11 fl_X11_10 dX11_tidy_1 s_0 (by decide) rfl (by decide) (by omega) ?_
  refine sx_iload_n dX11_tidy_4 rfl ?_
  refine sx_callVz lk_X11_124 cl_0 s_1 (by decide) dX11_tidy_5 (vs := [_]) rfl rfl (Nat.le_of_ble_eq_true rfl) (Nat.le_of_ble_eq_true rfl) rfl (c_X0_hasWord_1 _ hI.1 _) (fun x2 h1 zx2 ph1 => ?_)
  obtain ⟨rfl, w_x2⟩ := ph1
  refine sx_if_eq (tgt := 26) dX11_tidy_8 (by decide) (fun c3 => ?_) (fun c3 => ?_)
  ·
    refine sx_iconst dX11_tidy_26 ⟨by decide, by decide⟩ ?_
    refine sx_ireturn dX11_tidy_27 ?_
    exact ⟨_, rfl, ⟨hI, by first | omega | (exfalso; omega)⟩⟩
  ·
    refine sx_aload_n dX11_tidy_11 rfl ?_
    refine sx_getS (k := 10) (t := 182) cl_11 fl_X11_61 dX11_tidy_12 s_0 (by decide) rfl (by decide) ?_
    refine sx_aload_n dX11_tidy_15 rfl ?_
    refine sx_getR (k := 1) (t := 1) cl_11 fl_X11_10 dX11_tidy_16 s_0 (by decide) rfl (by decide) (by omega) ?_
    refine sx_iload_n dX11_tidy_19 rfl ?_
    refine sx_callVi lk_X11_237 cl_6 s_182 (by decide) dX11_tidy_20 (vs := [_, _]) rfl rfl (Nat.le_of_ble_eq_true rfl) (Nat.le_of_ble_eq_true rfl) rfl (c_X6_saved_1 _ hI.1 _ (by omega)) (fun x5 h4 ph4 => ?_)
    have Kh4 := ph4
    have Ih4 := hI.tr Kh4 sb_pr1_prH
    have th4_0_1 := Kh4.2 (0) 1 rfl
    have th4_0_2 := Kh4.2 (0) 2 rfl
    have th4_1_0 := Kh4.2 (1) 0 rfl
    refine sx_goto (tgt := 27) dX11_tidy_23 (by decide) ?_
    refine sx_ireturn dX11_tidy_27 ?_
    exact ⟨_, rfl, ⟨Ih4, by first | omega | (exfalso; omega)⟩⟩
set_option maxRecDepth 20000 in
set_option maxHeartbeats 4000000 in
theorem f_X11_time {G : sw_G} (d : Nat) {h0 : sw_H} (hJ : cJ h0) (y1 y2 : Int)  (hF : FC h0) : sw_E G NH SH (d + 3) mX11_time 0 [some (sw_r 0), some (sw_i y1), some (sw_i y2)] [] h0 (sw_Qi (fun z h' => cK pr1 h0 h' ∧ (z = -1))) := by
  obtain ⟨hc, f0, f7, f12, f13, f14, w0, i0, u0, l0, d1, d2, d3, b7, s8, zs, tk⟩ := hF
  have hI : cK pr1 h0 h0 := cK.refl hJ
  have rw : (0 : Int) ≤ h0 1 0 ∧ h0 1 0 ≤ 6 := hI.1.1 1 0
  refine sx_aload_n dX11_time_0 rfl ?_
  refine sx_getR (k := 1) (t := 1) cl_11 fl_X11_10 dX11_time_1 s_0 (by decide) rfl (by decide) (by omega) ?_
  refine sx_iload_n dX11_time_4 rfl ?_
  refine sx_callVz lk_X11_124 cl_0 s_1 (by decide) dX11_time_5 (vs := [_]) rfl rfl (Nat.le_of_ble_eq_true rfl) (Nat.le_of_ble_eq_true rfl) rfl (c_X0_hasWord_1 _ hI.1 _) (fun x2 h1 zx2 ph1 => ?_)
  obtain ⟨rfl, w_x2⟩ := ph1
  refine sx_if_eq (tgt := 18) dX11_time_8 (by decide) (fun c3 => ?_) (fun c3 => ?_)
  ·
    refine sx_iconst dX11_time_18 ⟨by decide, by decide⟩ ?_
    refine sx_ireturn dX11_time_19 ?_
    exact ⟨_, rfl, ⟨hI, by first | omega | (exfalso; omega)⟩⟩
  ·
    refine sx_iload_n dX11_time_11 rfl ?_
    refine sx_callSz lk_X11_241 dX11_time_12 (vs := [_]) rfl rfl (Nat.le_of_ble_eq_true rfl) (Nat.le_of_ble_eq_true rfl) rfl (c_X11_isForm _ hI.1 _) (fun x5 h4 zx5 ph4 => ?_)
    obtain ⟨rfl, w_x5⟩ := ph4
    refine sx_if_ne (tgt := 20) dX11_time_15 (by decide) (fun c6 => ?_) (fun c6 => ?_)
    ·
      refine sx_aload_n dX11_time_20 rfl ?_
      refine sx_getS (k := 9) (t := 177) cl_11 fl_X11_54 dX11_time_21 s_0 (by decide) rfl (by decide) ?_
      refine sx_aload_n dX11_time_24 rfl ?_
      refine sx_getR (k := 1) (t := 1) cl_11 fl_X11_10 dX11_time_25 s_0 (by decide) rfl (by decide) (by omega) ?_
      refine sx_iload_n dX11_time_28 rfl ?_
      refine sx_callVv lk_X11_244 cl_1 s_177 (by decide) dX11_time_29 (vs := [_, _]) rfl rfl (Nat.le_of_ble_eq_true rfl) (Nat.le_of_ble_eq_true rfl) rfl (c_X1_priceByForm_1 _ hI.1 _ (by omega)) (fun h7 ph7 => ?_)
      have Kh7 := ph7
      have Ih7 := hI.tr Kh7 sb_pr1_prK
      have th7_0_1 := Kh7.2 (0) 1 rfl
      have th7_0_2 := Kh7.2 (0) 2 rfl
      have th7_1_0 := Kh7.2 (1) 0 rfl
      refine sx_aload_n dX11_time_32 rfl ?_
      refine sx_getS (k := 9) (t := 177) cl_11 fl_X11_54 dX11_time_33 s_0 (by decide) rfl (by decide) ?_
      refine sx_aload_n dX11_time_36 rfl ?_
      refine sx_getR (k := 1) (t := 1) cl_11 fl_X11_10 dX11_time_37 s_0 (by decide) rfl (by decide) (by omega) ?_
      refine sx_aload_n dX11_time_40 rfl ?_
      refine sx_getS (k := 5) (t := 48) cl_11 fl_X11_36 dX11_time_41 s_0 (by decide) rfl (by decide) ?_
      refine sx_callVr lk_X11_147 cl_9 s_48 (by decide) dX11_time_44 (vs := []) rfl rfl (Nat.le_of_ble_eq_true rfl) (Nat.le_of_ble_eq_true rfl) ⟨_, rfl⟩ (c_X9_state _ Ih7.1) (fun x10 h9 ph9 => ?_)
      obtain ⟨Kh9, m_h9⟩ := ph9
      have Ih9 := Ih7.tr Kh9 sb_pr1_prL
      have th9_0_1 := Kh9.2 (0) 1 rfl
      have th9_0_2 := Kh9.2 (0) 2 rfl
      have th9_1_0 := Kh9.2 (1) 0 rfl
      have hx10m := m_h9
      obtain ⟨Sx100, Sx101, Sx102, bx10⟩ := s_St x10 hx10m
      have Bx100 : x10 < NH := show x10 < 290 by omega
      have Bx101 : x10 + 1 < NH := show x10 + 1 < 290 by omega
      have Bx102 : x10 + 2 < NH := show x10 + 2 < 290 by omega
      refine sx_getI (k := 4) cl_8 fl_X11_150 dX11_time_47 Sx100 Bx100 rfl (by decide) ?_
      refine sx_iload_n dX11_time_50 rfl ?_
      refine sx_callVi lk_X11_248 cl_1 s_177 (by decide) dX11_time_51 (vs := [_, _, _]) rfl rfl (Nat.le_of_ble_eq_true rfl) (Nat.le_of_ble_eq_true rfl) rfl (c_X1_timeOf_1 _ Ih9.1 _ _ (by omega)) (fun x12 h11 ph11 => ?_)
      have Kh11 := ph11
      have Ih11 := Ih9.tr Kh11 sb_pr1_prK
      have th11_0_1 := Kh11.2 (0) 1 rfl
      have th11_0_2 := Kh11.2 (0) 2 rfl
      have th11_1_0 := Kh11.2 (1) 0 rfl
      refine sx_ireturn dX11_time_54 ?_
      exact ⟨_, rfl, ⟨Ih11, by first | omega | (exfalso; omega)⟩⟩
    ·
      refine sx_iconst dX11_time_18 ⟨by decide, by decide⟩ ?_
      refine sx_ireturn dX11_time_19 ?_
      exact ⟨_, rfl, ⟨hI, by first | omega | (exfalso; omega)⟩⟩
set_option maxRecDepth 20000 in
set_option maxHeartbeats 4000000 in
theorem f_X11_room {G : sw_G} (d : Nat) {h0 : sw_H} (hJ : cJ h0) (y1 y2 : Int)  (hF : FC h0) : sw_E G NH SH (d + 2) mX11_room 0 [some (sw_r 0), some (sw_i y1), some (sw_i y2)] [] h0 (sw_Qi (fun z h' => cK pr1 h0 h' ∧ (z = -1))) := by
  obtain ⟨hc, f0, f7, f12, f13, f14, w0, i0, u0, l0, d1, d2, d3, b7, s8, zs, tk⟩ := hF
  have hI : cK pr1 h0 h0 := cK.refl hJ
  have rw : (0 : Int) ≤ h0 1 0 ∧ h0 1 0 ≤ 6 := hI.1.1 1 0
  refine sx_aload_n dX11_room_0 rfl ?_
  refine sx_getR (k := 1) (t := 1) cl_11 fl_X11_10 dX11_room_1 s_0 (by decide) rfl (by decide) (by omega) ?_
  refine sx_iload_n dX11_room_4 rfl ?_
  refine sx_callVz lk_X11_124 cl_0 s_1 (by decide) dX11_room_5 (vs := [_]) rfl rfl (Nat.le_of_ble_eq_true rfl) (Nat.le_of_ble_eq_true rfl) rfl (c_X0_hasWord_1 _ hI.1 _) (fun x2 h1 zx2 ph1 => ?_)
  obtain ⟨rfl, w_x2⟩ := ph1
  refine sx_if_eq (tgt := 18) dX11_room_8 (by decide) (fun c3 => ?_) (fun c3 => ?_)
  ·
    refine sx_iconst dX11_room_18 ⟨by decide, by decide⟩ ?_
    refine sx_ireturn dX11_room_19 ?_
    exact ⟨_, rfl, ⟨hI, by first | omega | (exfalso; omega)⟩⟩
  ·
    refine sx_iload_n dX11_room_11 rfl ?_
    refine sx_callSz lk_X11_241 dX11_room_12 (vs := [_]) rfl rfl (Nat.le_of_ble_eq_true rfl) (Nat.le_of_ble_eq_true rfl) rfl (c_X11_isForm _ hI.1 _) (fun x5 h4 zx5 ph4 => ?_)
    obtain ⟨rfl, w_x5⟩ := ph4
    refine sx_if_ne (tgt := 20) dX11_room_15 (by decide) (fun c6 => ?_) (fun c6 => ?_)
    ·
      refine sx_aload_n dX11_room_20 rfl ?_
      refine sx_getS (k := 9) (t := 177) cl_11 fl_X11_54 dX11_room_21 s_0 (by decide) rfl (by decide) ?_
      refine sx_aload_n dX11_room_24 rfl ?_
      refine sx_getR (k := 1) (t := 1) cl_11 fl_X11_10 dX11_room_25 s_0 (by decide) rfl (by decide) (by omega) ?_
      refine sx_aload_n dX11_room_28 rfl ?_
      refine sx_getS (k := 5) (t := 48) cl_11 fl_X11_36 dX11_room_29 s_0 (by decide) rfl (by decide) ?_
      refine sx_callVr lk_X11_147 cl_9 s_48 (by decide) dX11_room_32 (vs := []) rfl rfl (Nat.le_of_ble_eq_true rfl) (Nat.le_of_ble_eq_true rfl) ⟨_, rfl⟩ (c_X9_state _ hI.1) (fun x8 h7 ph7 => ?_)
      obtain ⟨Kh7, m_h7⟩ := ph7
      have Ih7 := hI.tr Kh7 sb_pr1_prL
      have th7_0_1 := Kh7.2 (0) 1 rfl
      have th7_0_2 := Kh7.2 (0) 2 rfl
      have th7_1_0 := Kh7.2 (1) 0 rfl
      have hx8m := m_h7
      obtain ⟨Sx80, Sx81, Sx82, bx8⟩ := s_St x8 hx8m
      have Bx80 : x8 < NH := show x8 < 290 by omega
      have Bx81 : x8 + 1 < NH := show x8 + 1 < 290 by omega
      have Bx82 : x8 + 2 < NH := show x8 + 2 < 290 by omega
      refine sx_getI (k := 4) cl_8 fl_X11_150 dX11_room_35 Sx80 Bx80 rfl (by decide) ?_
      refine sx_iload_n dX11_room_38 rfl ?_
      refine sx_iload_n dX11_room_39 rfl ?_
      refine sx_callVi lk_X11_251 cl_1 s_177 (by decide) dX11_room_40 (vs := [_, _, _, _]) rfl rfl (Nat.le_of_ble_eq_true rfl) (Nat.le_of_ble_eq_true rfl) rfl (c_X1_roomOf_1 _ Ih7.1 _ _ _ (by omega)) (fun x10 h9 ph9 => ?_)
      have Kh9 := ph9
      have Ih9 := Ih7.tr Kh9 sb_pr1_prK
      have th9_0_1 := Kh9.2 (0) 1 rfl
      have th9_0_2 := Kh9.2 (0) 2 rfl
      have th9_1_0 := Kh9.2 (1) 0 rfl
      refine sx_ireturn dX11_room_43 ?_
      exact ⟨_, rfl, ⟨Ih9, by first | omega | (exfalso; omega)⟩⟩
    ·
      refine sx_iconst dX11_room_18 ⟨by decide, by decide⟩ ?_
      refine sx_ireturn dX11_room_19 ?_
      exact ⟨_, rfl, ⟨hI, by first | omega | (exfalso; omega)⟩⟩
set_option maxRecDepth 20000 in
set_option maxHeartbeats 4000000 in
theorem f_X11_best {G : sw_G} (d : Nat) {h0 : sw_H} (hJ : cJ h0) (y1 : Int)  (hF : FC h0) : sw_E G NH SH (d + 4) mX11_best 0 [some (sw_r 0), some (sw_i y1)] [] h0 (sw_Qi (fun z h' => cK pr1 h0 h' ∧ (z = -1))) := by
  obtain ⟨hc, f0, f7, f12, f13, f14, w0, i0, u0, l0, d1, d2, d3, b7, s8, zs, tk⟩ := hF
  have hI : cK pr1 h0 h0 := cK.refl hJ
  have rw : (0 : Int) ≤ h0 1 0 ∧ h0 1 0 ≤ 6 := hI.1.1 1 0
  refine sx_aload_n dX11_best_0 rfl ?_
  refine sx_getR (k := 1) (t := 1) cl_11 fl_X11_10 dX11_best_1 s_0 (by decide) rfl (by decide) (by omega) ?_
  refine sx_iload_n dX11_best_4 rfl ?_
  refine sx_callVz lk_X11_124 cl_0 s_1 (by decide) dX11_best_5 (vs := [_]) rfl rfl (Nat.le_of_ble_eq_true rfl) (Nat.le_of_ble_eq_true rfl) rfl (c_X0_hasWord_1 _ hI.1 _) (fun x2 h1 zx2 ph1 => ?_)
  obtain ⟨rfl, w_x2⟩ := ph1
  refine sx_if_eq (tgt := 36) dX11_best_8 (by decide) (fun c3 => ?_) (fun c3 => ?_)
  ·
    refine sx_iconst dX11_best_36 ⟨by decide, by decide⟩ ?_
    refine sx_ireturn dX11_best_37 ?_
    exact ⟨_, rfl, ⟨hI, by first | omega | (exfalso; omega)⟩⟩
  ·
    refine sx_aload_n dX11_best_11 rfl ?_
    refine sx_getS (k := 9) (t := 177) cl_11 fl_X11_54 dX11_best_12 s_0 (by decide) rfl (by decide) ?_
    refine sx_aload_n dX11_best_15 rfl ?_
    refine sx_getR (k := 1) (t := 1) cl_11 fl_X11_10 dX11_best_16 s_0 (by decide) rfl (by decide) (by omega) ?_
    refine sx_aload_n dX11_best_19 rfl ?_
    refine sx_getS (k := 5) (t := 48) cl_11 fl_X11_36 dX11_best_20 s_0 (by decide) rfl (by decide) ?_
    refine sx_callVr lk_X11_147 cl_9 s_48 (by decide) dX11_best_23 (vs := []) rfl rfl (Nat.le_of_ble_eq_true rfl) (Nat.le_of_ble_eq_true rfl) ⟨_, rfl⟩ (c_X9_state _ hI.1) (fun x5 h4 ph4 => ?_)
    obtain ⟨Kh4, m_h4⟩ := ph4
    have Ih4 := hI.tr Kh4 sb_pr1_prL
    have th4_0_1 := Kh4.2 (0) 1 rfl
    have th4_0_2 := Kh4.2 (0) 2 rfl
    have th4_1_0 := Kh4.2 (1) 0 rfl
    have hx5m := m_h4
    obtain ⟨Sx50, Sx51, Sx52, bx5⟩ := s_St x5 hx5m
    have Bx50 : x5 < NH := show x5 < 290 by omega
    have Bx51 : x5 + 1 < NH := show x5 + 1 < 290 by omega
    have Bx52 : x5 + 2 < NH := show x5 + 2 < 290 by omega
    refine sx_getI (k := 4) cl_8 fl_X11_150 dX11_best_26 Sx50 Bx50 rfl (by decide) ?_
    refine sx_iload_n dX11_best_29 rfl ?_
    refine sx_callVi lk_X11_255 cl_1 s_177 (by decide) dX11_best_30 (vs := [_, _, _]) rfl rfl (Nat.le_of_ble_eq_true rfl) (Nat.le_of_ble_eq_true rfl) rfl (c_X1_bestForm_1 _ Ih4.1 _ _ (by omega)) (fun x7 h6 ph6 => ?_)
    have Kh6 := ph6
    have Ih6 := Ih4.tr Kh6 sb_pr1_prK
    have th6_0_1 := Kh6.2 (0) 1 rfl
    have th6_0_2 := Kh6.2 (0) 2 rfl
    have th6_1_0 := Kh6.2 (1) 0 rfl
    refine sx_goto (tgt := 37) dX11_best_33 (by decide) ?_
    refine sx_ireturn dX11_best_37 ?_
    exact ⟨_, rfl, ⟨Ih6, by first | omega | (exfalso; omega)⟩⟩
set_option maxRecDepth 20000 in
set_option maxHeartbeats 4000000 in
theorem f_X11_calls {G : sw_G} (d : Nat) {h0 : sw_H} (hJ : cJ h0) (y1 : Int)  (hF : FC h0) : sw_E G NH SH (d + 1) mX11_calls 0 [some (sw_r 0), some (sw_i y1)] [] h0 (sw_Qi (fun z h' => cK pr1 h0 h' ∧ (z = -1))) := by
  obtain ⟨hc, f0, f7, f12, f13, f14, w0, i0, u0, l0, d1, d2, d3, b7, s8, zs, tk⟩ := hF
  have hI : cK pr1 h0 h0 := cK.refl hJ
  have rw : (0 : Int) ≤ h0 1 0 ∧ h0 1 0 ≤ 6 := hI.1.1 1 0
  refine sx_aload_n dX11_calls_0 rfl ?_
  refine sx_getR (k := 1) (t := 1) cl_11 fl_X11_10 dX11_calls_1 s_0 (by decide) rfl (by decide) (by omega) ?_
  refine sx_iload_n dX11_calls_4 rfl ?_
  refine sx_callVz lk_X11_124 cl_0 s_1 (by decide) dX11_calls_5 (vs := [_]) rfl rfl (Nat.le_of_ble_eq_true rfl) (Nat.le_of_ble_eq_true rfl) rfl (c_X0_hasWord_1 _ hI.1 _) (fun x2 h1 zx2 ph1 => ?_)
  obtain ⟨rfl, w_x2⟩ := ph1
  refine sx_if_eq (tgt := 22) dX11_calls_8 (by decide) (fun c3 => ?_) (fun c3 => ?_)
  ·
    refine sx_iconst dX11_calls_22 ⟨by decide, by decide⟩ ?_
    refine sx_ireturn dX11_calls_23 ?_
    exact ⟨_, rfl, ⟨hI, by first | omega | (exfalso; omega)⟩⟩
  ·
    refine sx_aload_n dX11_calls_11 rfl ?_
    refine sx_getR (k := 1) (t := 1) cl_11 fl_X11_10 dX11_calls_12 s_0 (by decide) rfl (by decide) (by omega) ?_
    refine sx_iload_n dX11_calls_15 rfl ?_
    refine sx_callVi lk_X11_258 cl_0 s_1 (by decide) dX11_calls_16 (vs := [_]) rfl rfl (Nat.le_of_ble_eq_true rfl) (Nat.le_of_ble_eq_true rfl) rfl (c_X0_calledIn_1 _ hI.1 _ (by first | omega | (rw [Int.tmod_eq_emod_of_nonneg (by omega)]; omega) | (rw [Int.tdiv_eq_ediv_of_nonneg (by omega)]; omega))) (fun x5 h4 ph4 => ?_)
    subst ph4
    refine sx_goto (tgt := 23) dX11_calls_19 (by decide) ?_
    refine sx_ireturn dX11_calls_23 ?_
    exact ⟨_, rfl, ⟨hI, by first | omega | (exfalso; omega)⟩⟩
set_option maxRecDepth 20000 in
set_option maxHeartbeats 4000000 in
theorem f_X11_callers {G : sw_G} (d : Nat) {h0 : sw_H} (hJ : cJ h0) (y1 : Int)  (hF : FC h0) : sw_E G NH SH (d + 2) mX11_callers 0 [some (sw_r 0), some (sw_i y1)] [] h0 (sw_Qi (fun z h' => cK pr1 h0 h' ∧ (z = -1))) := by
  obtain ⟨hc, f0, f7, f12, f13, f14, w0, i0, u0, l0, d1, d2, d3, b7, s8, zs, tk⟩ := hF
  have hI : cK pr1 h0 h0 := cK.refl hJ
  have rw : (0 : Int) ≤ h0 1 0 ∧ h0 1 0 ≤ 6 := hI.1.1 1 0
  refine sx_aload_n dX11_callers_0 rfl ?_
  refine sx_getR (k := 1) (t := 1) cl_11 fl_X11_10 dX11_callers_1 s_0 (by decide) rfl (by decide) (by omega) ?_
  refine sx_iload_n dX11_callers_4 rfl ?_
  refine sx_callVz lk_X11_124 cl_0 s_1 (by decide) dX11_callers_5 (vs := [_]) rfl rfl (Nat.le_of_ble_eq_true rfl) (Nat.le_of_ble_eq_true rfl) rfl (c_X0_hasWord_1 _ hI.1 _) (fun x2 h1 zx2 ph1 => ?_)
  obtain ⟨rfl, w_x2⟩ := ph1
  refine sx_if_eq (tgt := 22) dX11_callers_8 (by decide) (fun c3 => ?_) (fun c3 => ?_)
  ·
    refine sx_iconst dX11_callers_22 ⟨by decide, by decide⟩ ?_
    refine sx_ireturn dX11_callers_23 ?_
    exact ⟨_, rfl, ⟨hI, by first | omega | (exfalso; omega)⟩⟩
  ·
    refine sx_aload_n dX11_callers_11 rfl ?_
    refine sx_getR (k := 1) (t := 1) cl_11 fl_X11_10 dX11_callers_12 s_0 (by decide) rfl (by decide) (by omega) ?_
    refine sx_iload_n dX11_callers_15 rfl ?_
    refine sx_callVi lk_X11_261 cl_0 s_1 (by decide) dX11_callers_16 (vs := [_]) rfl rfl (Nat.le_of_ble_eq_true rfl) (Nat.le_of_ble_eq_true rfl) rfl (c_X0_reaching_1 _ hI.1 _ (by first | omega | (rw [Int.tmod_eq_emod_of_nonneg (by omega)]; omega) | (rw [Int.tdiv_eq_ediv_of_nonneg (by omega)]; omega))) (fun x5 h4 ph4 => ?_)
    subst ph4
    refine sx_goto (tgt := 23) dX11_callers_19 (by decide) ?_
    refine sx_ireturn dX11_callers_23 ?_
    exact ⟨_, rfl, ⟨hI, by first | omega | (exfalso; omega)⟩⟩
set_option maxRecDepth 20000 in
set_option maxHeartbeats 4000000 in
theorem f_X11_nested {G : sw_G} (d : Nat) {h0 : sw_H} (hJ : cJ h0) (y1 : Int)  (hF : FC h0) : sw_E G NH SH (d + 2) mX11_nested 0 [some (sw_r 0), some (sw_i y1)] [] h0 (sw_Qi (fun z h' => cK pr1 h0 h' ∧ (z = -1))) := by
  obtain ⟨hc, f0, f7, f12, f13, f14, w0, i0, u0, l0, d1, d2, d3, b7, s8, zs, tk⟩ := hF
  have hI : cK pr1 h0 h0 := cK.refl hJ
  have rw : (0 : Int) ≤ h0 1 0 ∧ h0 1 0 ≤ 6 := hI.1.1 1 0
  refine sx_aload_n dX11_nested_0 rfl ?_
  refine sx_getR (k := 1) (t := 1) cl_11 fl_X11_10 dX11_nested_1 s_0 (by decide) rfl (by decide) (by omega) ?_
  refine sx_iload_n dX11_nested_4 rfl ?_
  refine sx_callVz lk_X11_124 cl_0 s_1 (by decide) dX11_nested_5 (vs := [_]) rfl rfl (Nat.le_of_ble_eq_true rfl) (Nat.le_of_ble_eq_true rfl) rfl (c_X0_hasWord_1 _ hI.1 _) (fun x2 h1 zx2 ph1 => ?_)
  obtain ⟨rfl, w_x2⟩ := ph1
  refine sx_if_eq (tgt := 26) dX11_nested_8 (by decide) (fun c3 => ?_) (fun c3 => ?_)
  ·
    refine sx_iconst dX11_nested_26 ⟨by decide, by decide⟩ ?_
    refine sx_ireturn dX11_nested_27 ?_
    exact ⟨_, rfl, ⟨hI, by first | omega | (exfalso; omega)⟩⟩
  ·
    refine sx_aload_n dX11_nested_11 rfl ?_
    refine sx_getS (k := 9) (t := 177) cl_11 fl_X11_54 dX11_nested_12 s_0 (by decide) rfl (by decide) ?_
    refine sx_aload_n dX11_nested_15 rfl ?_
    refine sx_getR (k := 1) (t := 1) cl_11 fl_X11_10 dX11_nested_16 s_0 (by decide) rfl (by decide) (by omega) ?_
    refine sx_iload_n dX11_nested_19 rfl ?_
    refine sx_callVi lk_X11_264 cl_1 s_177 (by decide) dX11_nested_20 (vs := [_, _]) rfl rfl (Nat.le_of_ble_eq_true rfl) (Nat.le_of_ble_eq_true rfl) rfl (c_X1_openCalls_1 _ hI.1 _ (by omega)) (fun x5 h4 ph4 => ?_)
    have Kh4 := ph4
    have Ih4 := hI.tr Kh4 sb_pr1_prK
    have th4_0_1 := Kh4.2 (0) 1 rfl
    have th4_0_2 := Kh4.2 (0) 2 rfl
    have th4_1_0 := Kh4.2 (1) 0 rfl
    refine sx_goto (tgt := 27) dX11_nested_23 (by decide) ?_
    refine sx_ireturn dX11_nested_27 ?_
    exact ⟨_, rfl, ⟨Ih4, by first | omega | (exfalso; omega)⟩⟩
set_option maxRecDepth 20000 in
set_option maxHeartbeats 4000000 in
theorem f_X11_pick {G : sw_G} (d : Nat) {h0 : sw_H} (hJ : cJ h0) (y1 : Int)  (hF : FC h0) : sw_E G NH SH (d + 4) mX11_pick 0 [some (sw_r 0), some (sw_i y1)] [] h0 (sw_Qi (fun z h' => cK pr1 h0 h' ∧ (z = -1))) := by
  obtain ⟨hc, f0, f7, f12, f13, f14, w0, i0, u0, l0, d1, d2, d3, b7, s8, zs, tk⟩ := hF
  have hI : cK pr1 h0 h0 := cK.refl hJ
  have rw : (0 : Int) ≤ h0 1 0 ∧ h0 1 0 ≤ 6 := hI.1.1 1 0
  refine sx_iload_n dX11_pick_0 rfl ?_
  refine sx_callSz lk_X11_241 dX11_pick_1 (vs := [_]) rfl rfl (Nat.le_of_ble_eq_true rfl) (Nat.le_of_ble_eq_true rfl) rfl (c_X11_isForm _ hI.1 _) (fun x2 h1 zx2 ph1 => ?_)
  obtain ⟨rfl, w_x2⟩ := ph1
  refine sx_if_eq (tgt := 17) dX11_pick_4 (by decide) (fun c3 => ?_) (fun c3 => ?_)
  ·
    refine sx_iconst dX11_pick_17 ⟨by decide, by decide⟩ ?_
    refine sx_ireturn dX11_pick_18 ?_
    exact ⟨_, rfl, ⟨hI, by first | omega | (exfalso; omega)⟩⟩
  ·
    refine sx_aload_n dX11_pick_7 rfl ?_
    refine sx_getR (k := 1) (t := 1) cl_11 fl_X11_10 dX11_pick_8 s_0 (by decide) rfl (by decide) (by omega) ?_
    refine sx_getI (k := 0) cl_0 fl_X11_121 dX11_pick_11 s_1 (by decide) rfl (by decide) ?_
    have r4 : (0 : Int) ≤ h0 1 0 ∧ h0 1 0 ≤ 6 := hI.1.1 1 0
    refine sx_if_ne (tgt := 19) dX11_pick_14 (by decide) (fun c5 => ?_) (fun c5 => ?_)
    ·
      refine sx_aload_n dX11_pick_19 rfl ?_
      refine sx_getS (k := 9) (t := 177) cl_11 fl_X11_54 dX11_pick_20 s_0 (by decide) rfl (by decide) ?_
      refine sx_aload_n dX11_pick_23 rfl ?_
      refine sx_getR (k := 1) (t := 1) cl_11 fl_X11_10 dX11_pick_24 s_0 (by decide) rfl (by decide) (by omega) ?_
      refine sx_iload_n dX11_pick_27 rfl ?_
      refine sx_callVv lk_X11_244 cl_1 s_177 (by decide) dX11_pick_28 (vs := [_, _]) rfl rfl (Nat.le_of_ble_eq_true rfl) (Nat.le_of_ble_eq_true rfl) rfl (c_X1_priceByForm_1 _ hI.1 _ (by omega)) (fun h6 ph6 => ?_)
      have Kh6 := ph6
      have Ih6 := hI.tr Kh6 sb_pr1_prK
      have th6_0_1 := Kh6.2 (0) 1 rfl
      have th6_0_2 := Kh6.2 (0) 2 rfl
      have th6_1_0 := Kh6.2 (1) 0 rfl
      refine sx_aload_n dX11_pick_31 rfl ?_
      refine sx_getS (k := 9) (t := 177) cl_11 fl_X11_54 dX11_pick_32 s_0 (by decide) rfl (by decide) ?_
      refine sx_aload_n dX11_pick_35 rfl ?_
      refine sx_getR (k := 1) (t := 1) cl_11 fl_X11_10 dX11_pick_36 s_0 (by decide) rfl (by decide) (by omega) ?_
      refine sx_aload_n dX11_pick_39 rfl ?_
      refine sx_getS (k := 5) (t := 48) cl_11 fl_X11_36 dX11_pick_40 s_0 (by decide) rfl (by decide) ?_
      refine sx_callVr lk_X11_147 cl_9 s_48 (by decide) dX11_pick_43 (vs := []) rfl rfl (Nat.le_of_ble_eq_true rfl) (Nat.le_of_ble_eq_true rfl) ⟨_, rfl⟩ (c_X9_state _ Ih6.1) (fun x9 h8 ph8 => ?_)
      obtain ⟨Kh8, m_h8⟩ := ph8
      have Ih8 := Ih6.tr Kh8 sb_pr1_prL
      have th8_0_1 := Kh8.2 (0) 1 rfl
      have th8_0_2 := Kh8.2 (0) 2 rfl
      have th8_1_0 := Kh8.2 (1) 0 rfl
      have hx9m := m_h8
      obtain ⟨Sx90, Sx91, Sx92, bx9⟩ := s_St x9 hx9m
      have Bx90 : x9 < NH := show x9 < 290 by omega
      have Bx91 : x9 + 1 < NH := show x9 + 1 < 290 by omega
      have Bx92 : x9 + 2 < NH := show x9 + 2 < 290 by omega
      refine sx_getI (k := 4) cl_8 fl_X11_150 dX11_pick_46 Sx90 Bx90 rfl (by decide) ?_
      refine sx_callVi lk_X11_267 cl_1 s_177 (by decide) dX11_pick_49 (vs := [_, _]) rfl rfl (Nat.le_of_ble_eq_true rfl) (Nat.le_of_ble_eq_true rfl) rfl (c_X1_bestToInline_1 _ Ih8.1 _ (by omega)) (fun x11 h10 ph10 => ?_)
      have Kh10 := ph10
      have Ih10 := Ih8.tr Kh10 sb_pr1_prK
      have th10_0_1 := Kh10.2 (0) 1 rfl
      have th10_0_2 := Kh10.2 (0) 2 rfl
      have th10_1_0 := Kh10.2 (1) 0 rfl
      refine sx_ireturn dX11_pick_52 ?_
      exact ⟨_, rfl, ⟨Ih10, by first | omega | (exfalso; omega)⟩⟩
    ·
      refine sx_iconst dX11_pick_17 ⟨by decide, by decide⟩ ?_
      refine sx_ireturn dX11_pick_18 ?_
      exact ⟨_, rfl, ⟨hI, by first | omega | (exfalso; omega)⟩⟩
set_option maxRecDepth 20000 in
set_option maxHeartbeats 4000000 in
theorem f_X11_law {G : sw_G} (d : Nat) {h0 : sw_H} (hJ : cJ h0) (y1 : Int)  (hF : FC h0) : sw_E G NH SH (d + 3) mX11_law 0 [some (sw_r 0), some (sw_i y1)] [] h0 (sw_Qi (fun z h' => cK pr1 h0 h' ∧ (z = -1))) := by
  obtain ⟨hc, f0, f7, f12, f13, f14, w0, i0, u0, l0, d1, d2, d3, b7, s8, zs, tk⟩ := hF
  have hI : cK pr1 h0 h0 := cK.refl hJ
  have rw : (0 : Int) ≤ h0 1 0 ∧ h0 1 0 ≤ 6 := hI.1.1 1 0
  refine sx_aload_n dX11_law_0 rfl ?_
  refine sx_getR (k := 1) (t := 1) cl_11 fl_X11_10 dX11_law_1 s_0 (by decide) rfl (by decide) (by omega) ?_
  refine sx_getI (k := 0) cl_0 fl_X11_121 dX11_law_4 s_1 (by decide) rfl (by decide) ?_
  have r1 : (0 : Int) ≤ h0 1 0 ∧ h0 1 0 ≤ 6 := hI.1.1 1 0
  refine sx_if_eq (tgt := 20) dX11_law_7 (by decide) (fun c2 => ?_) (fun c2 => ?_)
  ·
    refine sx_iconst dX11_law_20 ⟨by decide, by decide⟩ ?_
    refine sx_ireturn dX11_law_21 ?_
    exact ⟨_, rfl, ⟨hI, by first | omega | (exfalso; omega)⟩⟩
  ·
    refine sx_iload_n dX11_law_10 rfl ?_
    refine sx_if_lt (tgt := 20) dX11_law_11 (by decide) (fun c3 => ?_) (fun c3 => ?_)
    ·
      refine sx_iconst dX11_law_20 ⟨by decide, by decide⟩ ?_
      refine sx_ireturn dX11_law_21 ?_
      exact ⟨_, rfl, ⟨hI, by first | omega | (exfalso; omega)⟩⟩
    ·
      refine sx_iload_n dX11_law_14 rfl ?_
      refine sx_bipush dX11_law_15 ⟨by decide, by decide, by decide⟩ ?_
      refine sx_icmp_le (tgt := 22) dX11_law_17 (by decide) (fun c4 => ?_) (fun c4 => ?_)
      ·
        refine sx_aload_n dX11_law_22 rfl ?_
        refine sx_getS (k := 9) (t := 177) cl_11 fl_X11_54 dX11_law_23 s_0 (by decide) rfl (by decide) ?_
        refine sx_iload_n dX11_law_26 rfl ?_
        refine sx_callVv lk_X11_279 cl_1 s_177 (by decide) dX11_law_27 (vs := [_]) rfl rfl (Nat.le_of_ble_eq_true rfl) (Nat.le_of_ble_eq_true rfl) rfl (c_X1_priceAlike _ hI.1 _) (fun h5 ph5 => ?_)
        have Kh5 := ph5
        have Ih5 := hI.tr Kh5 sb_pr1_prK
        have th5_0_1 := Kh5.2 (0) 1 rfl
        have th5_0_2 := Kh5.2 (0) 2 rfl
        have th5_1_0 := Kh5.2 (1) 0 rfl
        refine sx_aload_n dX11_law_30 rfl ?_
        refine sx_getS (k := 9) (t := 177) cl_11 fl_X11_54 dX11_law_31 s_0 (by decide) rfl (by decide) ?_
        refine sx_aload_n dX11_law_34 rfl ?_
        refine sx_getR (k := 1) (t := 1) cl_11 fl_X11_10 dX11_law_35 s_0 (by decide) rfl (by decide) (by omega) ?_
        refine sx_aload_n dX11_law_38 rfl ?_
        refine sx_getS (k := 5) (t := 48) cl_11 fl_X11_36 dX11_law_39 s_0 (by decide) rfl (by decide) ?_
        refine sx_callVr lk_X11_147 cl_9 s_48 (by decide) dX11_law_42 (vs := []) rfl rfl (Nat.le_of_ble_eq_true rfl) (Nat.le_of_ble_eq_true rfl) ⟨_, rfl⟩ (c_X9_state _ Ih5.1) (fun x8 h7 ph7 => ?_)
        obtain ⟨Kh7, m_h7⟩ := ph7
        have Ih7 := Ih5.tr Kh7 sb_pr1_prL
        have th7_0_1 := Kh7.2 (0) 1 rfl
        have th7_0_2 := Kh7.2 (0) 2 rfl
        have th7_1_0 := Kh7.2 (1) 0 rfl
        have hx8m := m_h7
        obtain ⟨Sx80, Sx81, Sx82, bx8⟩ := s_St x8 hx8m
        have Bx80 : x8 < NH := show x8 < 290 by omega
        have Bx81 : x8 + 1 < NH := show x8 + 1 < 290 by omega
        have Bx82 : x8 + 2 < NH := show x8 + 2 < 290 by omega
        refine sx_getI (k := 4) cl_8 fl_X11_150 dX11_law_45 Sx80 Bx80 rfl (by decide) ?_
        refine sx_aload_n dX11_law_48 rfl ?_
        refine sx_getR (k := 1) (t := 1) cl_11 fl_X11_10 dX11_law_49 s_0 (by decide) rfl (by decide) (by omega) ?_
        refine sx_getI (k := 0) cl_0 fl_X11_121 dX11_law_52 s_1 (by decide) rfl (by decide) ?_
        have r9 : (0 : Int) ≤ h7 1 0 ∧ h7 1 0 ≤ 6 := Ih7.1.1 1 0
        refine sx_iconst dX11_law_55 ⟨by decide, by decide⟩ ?_
        refine sx_isub dX11_law_56 ?_
        refine sy_topw (by omega) ?_
        refine sx_callVi lk_X11_248 cl_1 s_177 (by decide) dX11_law_57 (vs := [_, _, _]) rfl rfl (Nat.le_of_ble_eq_true rfl) (Nat.le_of_ble_eq_true rfl) rfl (c_X1_timeOf_1 _ Ih7.1 _ _ (by omega)) (fun x11 h10 ph10 => ?_)
        have Kh10 := ph10
        have Ih10 := Ih7.tr Kh10 sb_pr1_prK
        have th10_0_1 := Kh10.2 (0) 1 rfl
        have th10_0_2 := Kh10.2 (0) 2 rfl
        have th10_1_0 := Kh10.2 (1) 0 rfl
        refine sx_ireturn dX11_law_60 ?_
        exact ⟨_, rfl, ⟨Ih10, by first | omega | (exfalso; omega)⟩⟩
      ·
        refine sx_iconst dX11_law_20 ⟨by decide, by decide⟩ ?_
        refine sx_ireturn dX11_law_21 ?_
        exact ⟨_, rfl, ⟨hI, by first | omega | (exfalso; omega)⟩⟩
set_option maxRecDepth 20000 in
set_option maxHeartbeats 4000000 in
theorem f_X11_seen {G : sw_G} (d : Nat) {h0 : sw_H} (hJ : cJ h0) (y1 y2 y3 y4 y5 : Int) (hb : y5 = 0 ∨ y5 = 1) (hF : FC h0) : sw_E G NH SH (d + 1) mX11_seen 0 [some (sw_r 0), some (sw_i y1), some (sw_i y2), some (sw_i y3), some (sw_i y4), some (sw_i y5)] [] h0 (sw_Qi (fun z h' => cK pr1 h0 h' ∧ (z = -1))) := by
  obtain ⟨hc, f0, f7, f12, f13, f14, w0, i0, u0, l0, d1, d2, d3, b7, s8, zs, tk⟩ := hF
  have hI : cK pr1 h0 h0 := cK.refl hJ
  have rw : (0 : Int) ≤ h0 1 0 ∧ h0 1 0 ≤ 6 := hI.1.1 1 0
  refine sx_aload_n dX11_seen_0 rfl ?_
  refine sx_getR (k := 1) (t := 1) cl_11 fl_X11_10 dX11_seen_1 s_0 (by decide) rfl (by decide) (by omega) ?_
  refine sx_getI (k := 0) cl_0 fl_X11_121 dX11_seen_4 s_1 (by decide) rfl (by decide) ?_
  have r1 : (0 : Int) ≤ h0 1 0 ∧ h0 1 0 ≤ 6 := hI.1.1 1 0
  refine sx_if_eq (tgt := 31) dX11_seen_7 (by decide) (fun c2 => ?_) (fun c2 => ?_)
  ·
    refine sx_iconst dX11_seen_31 ⟨by decide, by decide⟩ ?_
    refine sx_ireturn dX11_seen_32 ?_
    exact ⟨_, rfl, ⟨hI, by first | omega | (exfalso; omega)⟩⟩
  ·
    refine sx_iload_n dX11_seen_10 rfl ?_
    refine sx_callSz lk_X11_288 dX11_seen_11 (vs := [_]) rfl rfl (Nat.le_of_ble_eq_true rfl) (Nat.le_of_ble_eq_true rfl) rfl (c_X11_isDigit _ hI.1 _) (fun x4 h3 zx4 ph3 => ?_)
    obtain ⟨rfl, w_x4⟩ := ph3
    refine sx_if_eq (tgt := 31) dX11_seen_14 (by decide) (fun c5 => ?_) (fun c5 => ?_)
    ·
      refine sx_iconst dX11_seen_31 ⟨by decide, by decide⟩ ?_
      refine sx_ireturn dX11_seen_32 ?_
      exact ⟨_, rfl, ⟨hI, by first | omega | (exfalso; omega)⟩⟩
    ·
      refine sx_iload_n dX11_seen_17 rfl ?_
      refine sx_callSz lk_X11_288 dX11_seen_18 (vs := [_]) rfl rfl (Nat.le_of_ble_eq_true rfl) (Nat.le_of_ble_eq_true rfl) rfl (c_X11_isDigit _ hI.1 _) (fun x7 h6 zx7 ph6 => ?_)
      obtain ⟨rfl, w_x7⟩ := ph6
      refine sx_if_eq (tgt := 31) dX11_seen_21 (by decide) (fun c8 => ?_) (fun c8 => ?_)
      ·
        refine sx_iconst dX11_seen_31 ⟨by decide, by decide⟩ ?_
        refine sx_ireturn dX11_seen_32 ?_
        exact ⟨_, rfl, ⟨hI, by first | omega | (exfalso; omega)⟩⟩
      ·
        refine sx_iload_n dX11_seen_24 rfl ?_
        refine sx_callSz lk_X11_288 dX11_seen_25 (vs := [_]) rfl rfl (Nat.le_of_ble_eq_true rfl) (Nat.le_of_ble_eq_true rfl) rfl (c_X11_isDigit _ hI.1 _) (fun x10 h9 zx10 ph9 => ?_)
        obtain ⟨rfl, w_x10⟩ := ph9
        refine sx_if_ne (tgt := 33) dX11_seen_28 (by decide) (fun c11 => ?_) (fun c11 => ?_)
        ·
          refine sx_aload_n dX11_seen_33 rfl ?_
          refine sx_getS (k := 11) (t := 189) cl_11 fl_X11_68 dX11_seen_34 s_0 (by decide) rfl (by decide) ?_
          refine sx_iload_n dX11_seen_37 rfl ?_
          refine sx_bipush dX11_seen_38 ⟨by decide, by decide, by decide⟩ ?_
          refine sx_imul dX11_seen_40 ?_
          refine sy_topw (by omega) ?_
          refine sx_iload_n dX11_seen_41 rfl ?_
          refine sx_bipush dX11_seen_42 ⟨by decide, by decide, by decide⟩ ?_
          refine sx_imul dX11_seen_44 ?_
          refine sy_topw (by omega) ?_
          refine sx_iadd dX11_seen_45 ?_
          refine sy_topw (by omega) ?_
          refine sx_iload_n dX11_seen_46 rfl ?_
          refine sx_iadd dX11_seen_47 ?_
          refine sy_topw (by omega) ?_
          refine sx_iload dX11_seen_48 rfl ?_
          refine sx_iload dX11_seen_50 rfl ?_
          refine sx_aload_n dX11_seen_52 rfl ?_
          refine sx_getI (k := 12) cl_11 fl_X11_291 dX11_seen_53 s_0 (by decide) rfl (by decide) ?_
          have r12 : (0 : Int) ≤ h0 0 12 ∧ h0 0 12 ≤ 100000 := hI.1.1 0 12
          refine sx_callVi lk_X11_294 cl_7 s_189 (by decide) dX11_seen_56 (vs := [_, _, _, _]) rfl rfl (Nat.le_of_ble_eq_true rfl) (Nat.le_of_ble_eq_true rfl) rfl (c_X7_tell _ hI.1 _ _ _ _ (by omega)) (fun x14 h13 ph13 => ?_)
          have Kh13 := ph13
          have Ih13 := hI.tr Kh13 sb_pr1_prG
          have th13_0_1 := Kh13.2 (0) 1 rfl
          have th13_0_2 := Kh13.2 (0) 2 rfl
          have th13_1_0 := Kh13.2 (1) 0 rfl
          refine sx_ireturn dX11_seen_59 ?_
          exact ⟨_, rfl, ⟨Ih13, by first | omega | (exfalso; omega)⟩⟩
        ·
          refine sx_iconst dX11_seen_31 ⟨by decide, by decide⟩ ?_
          refine sx_ireturn dX11_seen_32 ?_
          exact ⟨_, rfl, ⟨hI, by first | omega | (exfalso; omega)⟩⟩
set_option maxRecDepth 20000 in
set_option maxHeartbeats 4000000 in
theorem f_X11_comes {G : sw_G} (d : Nat) {h0 : sw_H} (hJ : cJ h0) (y1 y2 y3 y4 y5 : Int)  (hF : FC h0) : sw_E G NH SH (d + 18) mX11_comes 0 [some (sw_r 0), some (sw_i y1), some (sw_i y2), some (sw_i y3), some (sw_i y4), some (sw_i y5)] [] h0 (sw_Qi (fun z h' => cK pr1 h0 h' ∧ (z = 0))) := by
  obtain ⟨hc, f0, f7, f12, f13, f14, w0, i0, u0, l0, d1, d2, d3, b7, s8, zs, tk⟩ := hF
  have hI : cK pr1 h0 h0 := cK.refl hJ
  have rw : (0 : Int) ≤ h0 1 0 ∧ h0 1 0 ≤ 6 := hI.1.1 1 0
  refine sx_aload_n dX11_comes_0 rfl ?_
  refine sx_getR (k := 1) (t := 1) cl_11 fl_X11_10 dX11_comes_1 s_0 (by decide) rfl (by decide) (by omega) ?_
  refine sx_iload_n dX11_comes_4 rfl ?_
  refine sx_callVz lk_X11_124 cl_0 s_1 (by decide) dX11_comes_5 (vs := [_]) rfl rfl (Nat.le_of_ble_eq_true rfl) (Nat.le_of_ble_eq_true rfl) rfl (c_X0_hasWord_1 _ hI.1 _) (fun x2 h1 zx2 ph1 => ?_)
  obtain ⟨rfl, w_x2⟩ := ph1
  refine sx_if_eq (tgt := 24) dX11_comes_8 (by decide) (fun c3 => ?_) (fun c3 => ?_)
  ·
    refine sx_iconst dX11_comes_24 ⟨by decide, by decide⟩ ?_
    refine sx_ireturn dX11_comes_25 ?_
    exact ⟨_, rfl, ⟨hI, by first | omega | (exfalso; omega)⟩⟩
  ·
    refine sx_aload_n dX11_comes_11 rfl ?_
    refine sx_getR (k := 1) (t := 1) cl_11 fl_X11_10 dX11_comes_12 s_0 (by decide) rfl (by decide) (by omega) ?_
    refine sx_getS (k := 10) (t := 7) cl_0 fl_X11_132 dX11_comes_15 s_1 (by decide) rfl (by decide) ?_
    refine sx_iload_n dX11_comes_18 rfl ?_
    refine sy_iaF (F := fun z => (0 : Int) ≤ z ∧ z ≤ 2147483647) dX11_comes_19 s_7 (by decide) (by decide) ⟨by omega, by omega⟩ (hI.1.1 7 _) (fun r4 => ?_)
    refine sx_iconst dX11_comes_20 ⟨by decide, by decide⟩ ?_
    refine sx_icmp_le (tgt := 26) dX11_comes_21 (by decide) (fun c5 => ?_) (fun c5 => ?_)
    ·
      refine sx_aload_n dX11_comes_26 rfl ?_
      refine sx_getS (k := 8) (t := 174) cl_11 fl_X11_47 dX11_comes_27 s_0 (by decide) rfl (by decide) ?_
      refine sx_iload_n dX11_comes_30 rfl ?_
      refine sx_iload_n dX11_comes_31 rfl ?_
      refine sx_iload dX11_comes_32 rfl ?_
      refine sx_callVv lk_X11_207 cl_8 s_174 (by decide) dX11_comes_34 (vs := [_, _, _]) rfl rfl (Nat.le_of_ble_eq_true rfl) (Nat.le_of_ble_eq_true rfl) rfl (c_X8_beginWith _ hI.1 (174) (by decide) _ _ _) (fun h6 ph6 => ?_)
      have Kh6 := ph6
      have Ih6 := hI.tr Kh6 sb_pr1_prS
      have th6_0_1 := Kh6.2 (0) 1 rfl
      have th6_0_2 := Kh6.2 (0) 2 rfl
      have th6_1_0 := Kh6.2 (1) 0 rfl
      refine sx_aload_n dX11_comes_37 rfl ?_
      refine sx_getS (k := 3) (t := 25) cl_11 fl_X11_22 dX11_comes_38 s_0 (by decide) rfl (by decide) ?_
      refine sx_aload_n dX11_comes_41 rfl ?_
      refine sx_getR (k := 1) (t := 1) cl_11 fl_X11_10 dX11_comes_42 s_0 (by decide) rfl (by decide) (by omega) ?_
      refine sx_aload_n dX11_comes_45 rfl ?_
      refine sx_getS (k := 8) (t := 174) cl_11 fl_X11_47 dX11_comes_46 s_0 (by decide) rfl (by decide) ?_
      refine sx_iload_n dX11_comes_49 rfl ?_
      refine sx_callVv lk_X11_177 cl_4 s_25 (by decide) dX11_comes_50 (vs := [_, _, _]) rfl rfl (Nat.le_of_ble_eq_true rfl) (Nat.le_of_ble_eq_true rfl) rfl (c_X4_doWord_25_1 _ Ih6.1 (174) (by decide) _ (by omega)) (fun h8 ph8 => ?_)
      have Kh8 := ph8
      have Ih8 := Ih6.tr Kh8 sb_pr1_prD
      have th8_0_1 := Kh8.2 (0) 1 rfl
      have th8_0_2 := Kh8.2 (0) 2 rfl
      have th8_1_0 := Kh8.2 (1) 0 rfl
      refine sx_aload_n dX11_comes_53 rfl ?_
      refine sx_getS (k := 8) (t := 174) cl_11 fl_X11_47 dX11_comes_54 s_0 (by decide) rfl (by decide) ?_
      refine sx_iload dX11_comes_57 rfl ?_
      refine sx_callVi lk_X11_201 cl_8 s_174 (by decide) dX11_comes_59 (vs := [_]) rfl rfl (Nat.le_of_ble_eq_true rfl) (Nat.le_of_ble_eq_true rfl) rfl (c_X8_cellAt _ Ih8.1 (174) (by decide) _) (fun x11 h10 ph10 => ?_)
      have Kh10 := ph10
      have Ih10 := Ih8.tr Kh10 sb_pr1_prS
      have th10_0_1 := Kh10.2 (0) 1 rfl
      have th10_0_2 := Kh10.2 (0) 2 rfl
      have th10_1_0 := Kh10.2 (1) 0 rfl
      refine sx_ireturn dX11_comes_62 ?_
      exact ⟨_, rfl, ⟨Ih10, by first | omega | (exfalso; omega)⟩⟩
    ·
      refine sx_iconst dX11_comes_24 ⟨by decide, by decide⟩ ?_
      refine sx_ireturn dX11_comes_25 ?_
      exact ⟨_, rfl, ⟨hI, by first | omega | (exfalso; omega)⟩⟩
set_option maxRecDepth 20000 in
set_option maxHeartbeats 4000000 in
theorem f_X11_height {G : sw_G} (d : Nat) {h0 : sw_H} (hJ : cJ h0) (y1 y2 : Int)  (hF : FC h0) : sw_E G NH SH (d + 2) mX11_height 0 [some (sw_r 0), some (sw_i y1), some (sw_i y2)] [] h0 (sw_Qi (fun z h' => cK pr1 h0 h' ∧ (z = -100))) := by
  obtain ⟨hc, f0, f7, f12, f13, f14, w0, i0, u0, l0, d1, d2, d3, b7, s8, zs, tk⟩ := hF
  have hI : cK pr1 h0 h0 := cK.refl hJ
  have rw : (0 : Int) ≤ h0 1 0 ∧ h0 1 0 ≤ 6 := hI.1.1 1 0
  have ri : ∀ k, (0 : Int) ≤ h0 6 k ∧ h0 6 k ≤ 60 := fun k => hI.1.1 6 k
  have ri1 := ri (y1 + 1).toNat
  have ri0 := ri y1.toNat
  refine sx_aload_n dX11_height_0 rfl ?_
  refine sx_getR (k := 1) (t := 1) cl_11 fl_X11_10 dX11_height_1 s_0 (by decide) rfl (by decide) (by omega) ?_
  refine sx_iload_n dX11_height_4 rfl ?_
  refine sx_iload_n dX11_height_5 rfl ?_
  refine sx_callVz lk_X11_153 cl_0 s_1 (by decide) dX11_height_6 (vs := [_, _]) rfl rfl (Nat.le_of_ble_eq_true rfl) (Nat.le_of_ble_eq_true rfl) rfl (c_X0_hasItem_1 _ hI.1 _ _) (fun x2 h1 zx2 ph1 => ?_)
  obtain ⟨rfl, w_x2⟩ := ph1
  refine sx_if_eq (tgt := 34) dX11_height_9 (by decide) (fun c3 => ?_) (fun c3 => ?_)
  ·
    refine sx_bipush dX11_height_34 ⟨by decide, by decide, by decide⟩ ?_
    refine sx_ireturn dX11_height_36 ?_
    exact ⟨_, rfl, ⟨hI, by first | omega | (exfalso; omega)⟩⟩
  ·
    refine sx_aload_n dX11_height_12 rfl ?_
    refine sx_getR (k := 1) (t := 1) cl_11 fl_X11_10 dX11_height_13 s_0 (by decide) rfl (by decide) (by omega) ?_
    refine sx_getS (k := 8) (t := 5) cl_0 fl_X11_273 dX11_height_16 s_1 (by decide) rfl (by decide) ?_
    refine sx_aload_n dX11_height_19 rfl ?_
    refine sx_getR (k := 1) (t := 1) cl_11 fl_X11_10 dX11_height_20 s_0 (by decide) rfl (by decide) (by omega) ?_
    refine sx_getS (k := 9) (t := 6) cl_0 fl_X11_128 dX11_height_23 s_1 (by decide) rfl (by decide) ?_
    refine sx_iload_n dX11_height_26 rfl ?_
    refine sy_iaF (F := fun z => (0 : Int) ≤ z ∧ z ≤ 60) dX11_height_27 s_6 (by decide) (by decide) ⟨by omega, by omega⟩ (hI.1.1 6 _) (fun r4 => ?_)
    refine sx_iload_n dX11_height_28 rfl ?_
    refine sx_iadd dX11_height_29 ?_
    refine sy_topw (by omega) ?_
    refine sx_iaload dX11_height_30 s_5 (by decide) (by decide) ⟨by omega, by omega⟩ ?_
    refine sx_goto (tgt := 36) dX11_height_31 (by decide) ?_
    refine sx_ireturn dX11_height_36 ?_
    exact ⟨_, rfl, ⟨hI, by first | omega | (exfalso; omega)⟩⟩
set_option maxRecDepth 20000 in
set_option maxHeartbeats 4000000 in
theorem f_X11_end {G : sw_G} (d : Nat) {h0 : sw_H} (hJ : cJ h0) (y1 : Int)  (hF : FC h0) : sw_E G NH SH (d) mX11_end 0 [some (sw_r 0), some (sw_i y1)] [] h0 (sw_Qi (fun z h' => cK pr1 h0 h' ∧ (z = if y1 = 0 then 0 else -1))) := by
  obtain ⟨hc, f0, f7, f12, f13, f14, w0, i0, u0, l0, d1, d2, d3, b7, s8, zs, tk⟩ := hF
  have hI : cK pr1 h0 h0 := cK.refl hJ
  refine sx_iload_n dX11_end_0 rfl ?_
  refine sx_if_lt (tgt := 12) dX11_end_1 (by decide) (fun c1 => ?_) (fun c1 => ?_)
  ·
    refine sx_iconst dX11_end_12 ⟨by decide, by decide⟩ ?_
    refine sx_ireturn dX11_end_13 ?_
    exact ⟨_, rfl, ⟨hI, by split <;> omega⟩⟩
  ·
    refine sx_iload_n dX11_end_4 rfl ?_
    refine sx_aload_n dX11_end_5 rfl ?_
    refine sx_getI (k := 0) cl_11 fl_X11_76 dX11_end_6 s_0 (by decide) rfl (by decide) ?_
    have r2 : (0 : Int) ≤ h0 0 0 ∧ h0 0 0 ≤ 1600 := hI.1.1 0 0
    refine sx_icmp_le (tgt := 14) dX11_end_9 (by decide) (fun c3 => ?_) (fun c3 => ?_)
    ·
      refine sx_aload_n dX11_end_14 rfl ?_
      refine sx_iload_n dX11_end_15 rfl ?_
      refine sy_putI (k := 0) cl_11 fl_X11_76 dX11_end_16 s_0 (by decide) rfl (by decide) rfl rfl (fun h4 eh4 => ?_)
      have Ih4 := hI.up eh4 (show (0 : Int) ≤ _ ∧ _ ≤ (1600 : Int) from ⟨by omega, by omega⟩) rfl rfl
      have th4_0_0 := eh4.1
      refine sx_iload_n dX11_end_19 rfl ?_
      refine sx_ireturn dX11_end_20 ?_
      exact ⟨_, rfl, ⟨Ih4, by split <;> omega⟩⟩
    ·
      refine sx_iconst dX11_end_12 ⟨by decide, by decide⟩ ?_
      refine sx_ireturn dX11_end_13 ?_
      exact ⟨_, rfl, ⟨hI, by split <;> omega⟩⟩
set_option maxRecDepth 20000 in
set_option maxHeartbeats 4000000 in
theorem f_X11_fault {G : sw_G} (d : Nat) {h0 : sw_H} (hJ : cJ h0) (y1 : Int)  (hF : FC h0) : sw_E G NH SH (d) mX11_fault 0 [some (sw_r 0), some (sw_i y1)] [] h0 (sw_Qi (fun z h' => cK pr1 h0 h' ∧ (z = if y1 = 0 then 0 else -1))) := by
  obtain ⟨hc, f0, f7, f12, f13, f14, w0, i0, u0, l0, d1, d2, d3, b7, s8, zs, tk⟩ := hF
  have hI : cK pr1 h0 h0 := cK.refl hJ
  refine sx_iload_n dX11_fault_0 rfl ?_
  refine sx_lsw (dt := 38) (ps := [(0, 28), (1, 33)]) dX11_fault_1 (by decide) (by decide) (by decide) (And.intro (fun c1 => ?_) (fun c1_0 => (And.intro (fun c1 => ?_) (fun c1_1 => ?_))))
  ·
    refine sx_aload_n dX11_fault_28 rfl ?_
    refine sx_getI (k := 13) cl_11 fl_X11_96 dX11_fault_29 s_0 (by decide) rfl (by decide) ?_
    refine sx_ireturn dX11_fault_32 ?_
    exact ⟨_, rfl, ⟨hI, by split <;> omega⟩⟩
  ·
    refine sx_aload_n dX11_fault_33 rfl ?_
    refine sx_getI (k := 14) cl_11 fl_X11_72 dX11_fault_34 s_0 (by decide) rfl (by decide) ?_
    refine sx_ireturn dX11_fault_37 ?_
    exact ⟨_, rfl, ⟨hI, by split <;> omega⟩⟩
  ·
    refine sx_iconst dX11_fault_38 ⟨by decide, by decide⟩ ?_
    refine sx_ireturn dX11_fault_39 ?_
    exact ⟨_, rfl, ⟨hI, by split <;> omega⟩⟩
set_option maxRecDepth 20000 in
set_option maxHeartbeats 4000000 in
theorem f_X11_lies {G : sw_G} (d : Nat) {h0 : sw_H} (hJ : cJ h0) (y1 : Int)  (hF : FC h0) : sw_E G NH SH (d) mX11_lies 0 [some (sw_r 0), some (sw_i y1)] [] h0 (sw_Qi (fun z h' => cK pr1 h0 h' ∧ (z = -2))) := by
  obtain ⟨hc, f0, f7, f12, f13, f14, w0, i0, u0, l0, d1, d2, d3, b7, s8, zs, tk⟩ := hF
  have hI : cK pr1 h0 h0 := cK.refl hJ
  refine sx_iload_n dX11_lies_0 rfl ?_
  refine sx_if_lt (tgt := 27) dX11_lies_1 (by decide) (fun c1 => ?_) (fun c1 => ?_)
  ·
    refine sx_bipush dX11_lies_27 ⟨by decide, by decide, by decide⟩ ?_
    refine sx_ireturn dX11_lies_29 ?_
    exact ⟨_, rfl, ⟨hI, by first | omega | (exfalso; omega)⟩⟩
  ·
    refine sx_iload_n dX11_lies_4 rfl ?_
    refine sx_aload_n dX11_lies_5 rfl ?_
    refine sx_getS (k := 10) (t := 182) cl_11 fl_X11_61 dX11_lies_6 s_0 (by decide) rfl (by decide) ?_
    refine sx_getI (k := 7) cl_6 fl_X11_118 dX11_lies_9 s_182 (by decide) rfl (by decide) ?_
    have r2 : (0 : Int) ≤ h0 182 7 ∧ h0 182 7 ≤ 364 := hI.1.1 182 7
    refine sx_icmp_ge (tgt := 27) dX11_lies_12 (by decide) (fun c3 => ?_) (fun c3 => ?_)
    ·
      refine sx_bipush dX11_lies_27 ⟨by decide, by decide, by decide⟩ ?_
      refine sx_ireturn dX11_lies_29 ?_
      exact ⟨_, rfl, ⟨hI, by first | omega | (exfalso; omega)⟩⟩
    ·
      refine sx_aload_n dX11_lies_15 rfl ?_
      refine sx_getS (k := 10) (t := 182) cl_11 fl_X11_61 dX11_lies_16 s_0 (by decide) rfl (by decide) ?_
      refine sx_getS (k := 6) (t := 188) cl_6 fl_X11_285 dX11_lies_19 s_182 (by decide) rfl (by decide) ?_
      refine sx_iload_n dX11_lies_22 rfl ?_
      refine sx_iaload dX11_lies_23 s_188 (by decide) (by decide) ⟨by omega, by omega⟩ ?_
      refine sx_goto (tgt := 29) dX11_lies_24 (by decide) ?_
      refine sx_ireturn dX11_lies_29 ?_
      exact ⟨_, rfl, ⟨hI, by first | omega | (exfalso; omega)⟩⟩
set_option maxRecDepth 20000 in
set_option maxHeartbeats 4000000 in
theorem f_X12_word {G : sw_G} (d : Nat) {h0 : sw_H} (hJ : mI h0) (y1 y2 : Int) (hB : mB h0)  (hF : FM h0) : sw_E G NH SH (d + 2) mX12_word 0 [some (sw_r 224), some (sw_i y1), some (sw_i y2), none] [] h0 (sw_Qi (fun z h' => h0 = h' ∧ (z = -1))) := by
  obtain ⟨b0, r0, t2, k4, k5, a3, a4, l3, s9, t0, z7, z8, z9, z10, z12, z61, z89⟩ := hF
  have fw : h0 227 (h0 224 36).toNat = 0 := z7 _
  have hI : mK (prW [] []) h0 h0 := mK.refl hJ
  refine sx_aload_n dX12_word_0 rfl ?_
  refine sx_iload_n dX12_word_1 rfl ?_
  refine sx_callVz lk_X12_570 cl_12 s_224 (by decide) dX12_word_2 (vs := [_]) rfl rfl (Nat.le_of_ble_eq_true rfl) (Nat.le_of_ble_eq_true rfl) rfl (c_X12_isOne _ hI.1 _) (fun x2 h1 zx2 ph1 => ?_)
  obtain ⟨rfl, p_x2⟩ := ph1
  refine sx_if_ne (tgt := 10) dX12_word_5 (by decide) (fun c3 => ?_) (fun c3 => ?_)
  ·
    have vx2 : x2 = 1 := by rcases zx2 with q | q; (exact absurd q c3); exact q
    replace p_x2 := p_x2.mp vx2
    clear zx2
    obtain ⟨wr1, wr2, wr3, wr4⟩ := mC_w hB.1 hJ (w := y1) (by omega) (by omega)
    have rb36 : (0 : Int) ≤ h0 224 36 ∧ h0 224 36 ≤ 1 := hJ 224 36
    refine sx_bipush dX12_word_10 ⟨by decide, by decide, by decide⟩ ?_
    refine sx_aload_n dX12_word_12 rfl ?_
    refine sx_getI (k := 36) cl_12 fl_X12_349 dX12_word_13 s_224 (by decide) rfl (by decide) ?_
    have r4 : (0 : Int) ≤ h0 224 36 ∧ h0 224 36 ≤ 1 := hI.1 224 36
    refine sx_imul dX12_word_16 ?_
    refine sy_topw (by omega) ?_
    refine sx_iload_n dX12_word_17 rfl ?_
    refine sx_iadd dX12_word_18 ?_
    refine sy_topw (by omega) ?_
    refine sy_top (fun v5 ev5 => ?_)
    refine sx_istore_n dX12_word_19 (by decide) ?_
    refine sx_iload_n dX12_word_20 rfl ?_
    refine sx_tsw (dt := 119) (ts := [64, 71, 78, 84, 91, 98, 105]) dX12_word_21 (by decide) (by decide) (by decide) (fun c6 => ?_) (And.intro (fun c6 => ?_) (And.intro (fun c6 => ?_) (And.intro (fun c6 => ?_) (And.intro (fun c6 => ?_) (And.intro (fun c6 => ?_) (And.intro (fun c6 => ?_) (And.intro (fun c6 => ?_) trivial)))))))
    ·
      refine sx_iconst dX12_word_119 ⟨by decide, by decide⟩ ?_
      refine sx_ireturn dX12_word_120 ?_
      exact ⟨_, rfl, ⟨rfl, by first | omega | (exfalso; omega)⟩⟩
    ·
      refine sx_aload_n dX12_word_64 rfl ?_
      refine sx_getS (k := 18) (t := 234) cl_12 fl_X12_42 dX12_word_65 s_224 (by decide) rfl (by decide) ?_
      refine sx_iload_n dX12_word_68 rfl ?_
      refine sy_iaF (F := fun z => (0 : Int) ≤ z ∧ z ≤ 20) dX12_word_69 s_234 (by decide) (by decide) ⟨by omega, by omega⟩ (hI.1 234 _) (fun r7 => ?_)
      refine sx_ireturn dX12_word_70 ?_
      exact ⟨_, rfl, ⟨rfl, by first | omega | (exfalso; omega)⟩⟩
    ·
      refine sx_aload_n dX12_word_71 rfl ?_
      refine sx_getS (k := 19) (t := 235) cl_12 fl_X12_45 dX12_word_72 s_224 (by decide) rfl (by decide) ?_
      refine sx_iload_n dX12_word_75 rfl ?_
      refine sx_iaload dX12_word_76 s_235 (by decide) (by decide) ⟨by omega, by omega⟩ ?_
      refine sx_ireturn dX12_word_77 ?_
      exact ⟨_, rfl, ⟨rfl, by first | omega | (exfalso; omega)⟩⟩
    ·
      refine sx_aload_n dX12_word_78 rfl ?_
      refine sx_iload_n dX12_word_79 rfl ?_
      refine sx_callVi lk_X12_579 cl_12 s_224 (by decide) dX12_word_80 (vs := [_]) rfl rfl (Nat.le_of_ble_eq_true rfl) (Nat.le_of_ble_eq_true rfl) rfl (c_X12_leavesOf _ hI.1 _ (by first | omega | (rw [Int.tmod_eq_emod_of_nonneg (by omega)]; omega) | (rw [Int.tdiv_eq_ediv_of_nonneg (by omega)]; omega))) (fun x9 h8 ph8 => ?_)
      obtain ⟨rfl, p_x9⟩ := ph8
      refine sx_ireturn dX12_word_83 ?_
      exact ⟨_, rfl, ⟨rfl, by first | omega | (exfalso; omega)⟩⟩
    ·
      refine sx_aload_n dX12_word_84 rfl ?_
      refine sx_getS (k := 21) (t := 237) cl_12 fl_X12_51 dX12_word_85 s_224 (by decide) rfl (by decide) ?_
      refine sx_iload_n dX12_word_88 rfl ?_
      refine sx_iaload dX12_word_89 s_237 (by decide) (by decide) ⟨by omega, by omega⟩ ?_
      refine sx_ireturn dX12_word_90 ?_
      exact ⟨_, rfl, ⟨rfl, by first | omega | (exfalso; omega)⟩⟩
    ·
      refine sx_aload_n dX12_word_91 rfl ?_
      refine sx_getS (k := 22) (t := 238) cl_12 fl_X12_54 dX12_word_92 s_224 (by decide) rfl (by decide) ?_
      refine sx_iload_n dX12_word_95 rfl ?_
      refine sx_iaload dX12_word_96 s_238 (by decide) (by decide) ⟨by omega, by omega⟩ ?_
      refine sx_ireturn dX12_word_97 ?_
      exact ⟨_, rfl, ⟨rfl, by first | omega | (exfalso; omega)⟩⟩
    ·
      refine sx_aload_n dX12_word_98 rfl ?_
      refine sx_getS (k := 23) (t := 239) cl_12 fl_X12_57 dX12_word_99 s_224 (by decide) rfl (by decide) ?_
      refine sx_iload_n dX12_word_102 rfl ?_
      refine sx_iaload dX12_word_103 s_239 (by decide) (by decide) ⟨by omega, by omega⟩ ?_
      refine sx_ireturn dX12_word_104 ?_
      exact ⟨_, rfl, ⟨rfl, by first | omega | (exfalso; omega)⟩⟩
    ·
      refine sx_aload_n dX12_word_105 rfl ?_
      refine sx_iload_n dX12_word_106 rfl ?_
      refine sx_callVz lk_X12_582 cl_12 s_224 (by decide) dX12_word_107 (vs := [_]) rfl rfl (Nat.le_of_ble_eq_true rfl) (Nat.le_of_ble_eq_true rfl) rfl (c_X12_isInlined _ hI.1 _) (fun x11 h10 zx11 ph10 => ?_)
      subst ph10
      refine sx_if_eq (tgt := 117) dX12_word_110 (by decide) (fun c12 => ?_) (fun c12 => ?_)
      ·
        clear zx11
        refine sx_iconst dX12_word_117 ⟨by decide, by decide⟩ ?_
        refine sx_ireturn dX12_word_118 ?_
        exact ⟨_, rfl, ⟨rfl, by first | omega | (exfalso; omega)⟩⟩
      ·
        have vx11 : x11 = 1 := by rcases zx11 with q | q; (exact absurd q c12); exact q
        clear zx11
        refine sx_iconst dX12_word_113 ⟨by decide, by decide⟩ ?_
        refine sx_goto (tgt := 118) dX12_word_114 (by decide) ?_
        refine sx_ireturn dX12_word_118 ?_
        exact ⟨_, rfl, ⟨rfl, by first | omega | (exfalso; omega)⟩⟩
  ·
    replace p_x2 := mt p_x2.mpr (show ¬ (x2 = 1) by rw [c3]; decide)
    clear zx2
    refine sx_iconst dX12_word_8 ⟨by decide, by decide⟩ ?_
    refine sx_ireturn dX12_word_9 ?_
    exact ⟨_, rfl, ⟨rfl, by first | omega | (exfalso; omega)⟩⟩
set_option maxRecDepth 20000 in
set_option maxHeartbeats 4000000 in
theorem f_X12_item {G : sw_G} (d : Nat) {h0 : sw_H} (hJ : mI h0) (y1 y2 y3 : Int) (hB : mB h0)  (hF : FM h0) : sw_E G NH SH (d + 2) mX12_item 0 [some (sw_r 224), some (sw_i y1), some (sw_i y2), some (sw_i y3)] [] h0 (sw_Qi (fun z h' => h0 = h' ∧ (z = -1))) := by
  obtain ⟨b0, r0, t2, k4, k5, a3, a4, l3, s9, t0, z7, z8, z9, z10, z12, z61, z89⟩ := hF
  have fw : h0 227 (h0 224 36).toNat = 0 := z7 _
  have hI : mK (prW [] []) h0 h0 := mK.refl hJ
  refine sx_aload_n dX12_item_0 rfl ?_
  refine sx_iload_n dX12_item_1 rfl ?_
  refine sx_callVz lk_X12_570 cl_12 s_224 (by decide) dX12_item_2 (vs := [_]) rfl rfl (Nat.le_of_ble_eq_true rfl) (Nat.le_of_ble_eq_true rfl) rfl (c_X12_isOne _ hI.1 _) (fun x2 h1 zx2 ph1 => ?_)
  obtain ⟨rfl, p_x2⟩ := ph1
  refine sx_if_eq (tgt := 23) dX12_item_5 (by decide) (fun c3 => ?_) (fun c3 => ?_)
  ·
    replace p_x2 := mt p_x2.mpr (show ¬ (x2 = 1) by rw [c3]; decide)
    clear zx2
    refine sx_iconst dX12_item_23 ⟨by decide, by decide⟩ ?_
    refine sx_ireturn dX12_item_24 ?_
    exact ⟨_, rfl, ⟨rfl, by first | omega | (exfalso; omega)⟩⟩
  ·
    have vx2 : x2 = 1 := by rcases zx2 with q | q; (exact absurd q c3); exact q
    replace p_x2 := p_x2.mp vx2
    clear zx2
    obtain ⟨wr1, wr2, wr3, wr4⟩ := mC_w hB.1 hJ (w := y1) (by omega) (by omega)
    have rb36 : (0 : Int) ≤ h0 224 36 ∧ h0 224 36 ≤ 1 := hJ 224 36
    refine sx_iload_n dX12_item_8 rfl ?_
    refine sx_iconst dX12_item_9 ⟨by decide, by decide⟩ ?_
    refine sx_aload_n dX12_item_10 rfl ?_
    refine sx_iload_n dX12_item_11 rfl ?_
    refine sx_callVi lk_X12_546 cl_12 s_224 (by decide) dX12_item_12 (vs := [_]) rfl rfl (Nat.le_of_ble_eq_true rfl) (Nat.le_of_ble_eq_true rfl) rfl (c_X12_manyIn _ hI.1 _ (by first | omega | (rw [Int.tmod_eq_emod_of_nonneg (by omega)]; omega) | (rw [Int.tdiv_eq_ediv_of_nonneg (by omega)]; omega))) (fun x5 h4 ph4 => ?_)
    obtain ⟨rfl, p_x5⟩ := ph4
    refine sx_iconst dX12_item_15 ⟨by decide, by decide⟩ ?_
    refine sx_isub dX12_item_16 ?_
    refine sy_topw (by omega) ?_
    refine sx_callSz lk_X12_500 dX12_item_17 (vs := [_, _, _]) rfl rfl (Nat.le_of_ble_eq_true rfl) (Nat.le_of_ble_eq_true rfl) rfl (c_X12_isIn _ hI.1 _ _ _) (fun x7 h6 zx7 ph6 => ?_)
    obtain ⟨rfl, p_x7⟩ := ph6
    refine sx_if_ne (tgt := 25) dX12_item_20 (by decide) (fun c8 => ?_) (fun c8 => ?_)
    ·
      have vx7 : x7 = 1 := by rcases zx7 with q | q; (exact absurd q c8); exact q
      replace p_x7 := p_x7.mp vx7
      clear zx7
      refine sx_iload_n dX12_item_25 rfl ?_
      refine sx_if_ne (tgt := 43) dX12_item_26 (by decide) (fun c9 => ?_) (fun c9 => ?_)
      ·
        refine sx_iload_n dX12_item_43 rfl ?_
        refine sx_iconst dX12_item_44 ⟨by decide, by decide⟩ ?_
        refine sx_icmp_ne (tgt := 62) dX12_item_45 (by decide) (fun c10 => ?_) (fun c10 => ?_)
        ·
          refine sx_iconst dX12_item_62 ⟨by decide, by decide⟩ ?_
          refine sx_ireturn dX12_item_63 ?_
          exact ⟨_, rfl, ⟨rfl, by first | omega | (exfalso; omega)⟩⟩
        ·
          refine sx_aload_n dX12_item_48 rfl ?_
          refine sx_getS (k := 25) (t := 241) cl_12 fl_X12_63 dX12_item_49 s_224 (by decide) rfl (by decide) ?_
          refine sx_aload_n dX12_item_52 rfl ?_
          refine sx_iload_n dX12_item_53 rfl ?_
          refine sx_iload_n dX12_item_54 rfl ?_
          refine sx_callVi lk_X12_519 cl_12 s_224 (by decide) dX12_item_55 (vs := [_, _]) rfl rfl (Nat.le_of_ble_eq_true rfl) (Nat.le_of_ble_eq_true rfl) rfl (c_X12_itemOf _ hI.1 _ _ (by first | omega | (rw [Int.tmod_eq_emod_of_nonneg (by omega)]; omega) | (rw [Int.tdiv_eq_ediv_of_nonneg (by omega)]; omega)) (by first | omega | (rw [Int.tmod_eq_emod_of_nonneg (by omega)]; omega) | (rw [Int.tdiv_eq_ediv_of_nonneg (by omega)]; omega))) (fun x12 h11 ph11 => ?_)
          obtain ⟨rfl, p_x12⟩ := ph11
          refine sy_iaF (F := fun z => (0 : Int) ≤ z ∧ z ≤ 9999) dX12_item_58 s_241 (by decide) (by decide) ⟨by omega, by omega⟩ (hI.1 241 _) (fun r13 => ?_)
          refine sx_goto (tgt := 63) dX12_item_59 (by decide) ?_
          refine sx_ireturn dX12_item_63 ?_
          exact ⟨_, rfl, ⟨rfl, by first | omega | (exfalso; omega)⟩⟩
      ·
        refine sx_aload_n dX12_item_29 rfl ?_
        refine sx_getS (k := 24) (t := 240) cl_12 fl_X12_60 dX12_item_30 s_224 (by decide) rfl (by decide) ?_
        refine sx_aload_n dX12_item_33 rfl ?_
        refine sx_iload_n dX12_item_34 rfl ?_
        refine sx_iload_n dX12_item_35 rfl ?_
        refine sx_callVi lk_X12_519 cl_12 s_224 (by decide) dX12_item_36 (vs := [_, _]) rfl rfl (Nat.le_of_ble_eq_true rfl) (Nat.le_of_ble_eq_true rfl) rfl (c_X12_itemOf _ hI.1 _ _ (by first | omega | (rw [Int.tmod_eq_emod_of_nonneg (by omega)]; omega) | (rw [Int.tdiv_eq_ediv_of_nonneg (by omega)]; omega)) (by first | omega | (rw [Int.tmod_eq_emod_of_nonneg (by omega)]; omega) | (rw [Int.tdiv_eq_ediv_of_nonneg (by omega)]; omega))) (fun x15 h14 ph14 => ?_)
        obtain ⟨rfl, p_x15⟩ := ph14
        refine sy_iaF (F := fun z => (0 : Int) ≤ z ∧ z ≤ 7) dX12_item_39 s_240 (by decide) (by decide) ⟨by omega, by omega⟩ (hI.1 240 _) (fun r16 => ?_)
        refine sx_goto (tgt := 63) dX12_item_40 (by decide) ?_
        refine sx_ireturn dX12_item_63 ?_
        exact ⟨_, rfl, ⟨rfl, by first | omega | (exfalso; omega)⟩⟩
    ·
      replace p_x7 := mt p_x7.mpr (show ¬ (x7 = 1) by rw [c8]; decide)
      clear zx7
      refine sx_iconst dX12_item_23 ⟨by decide, by decide⟩ ?_
      refine sx_ireturn dX12_item_24 ?_
      exact ⟨_, rfl, ⟨rfl, by first | omega | (exfalso; omega)⟩⟩
set_option maxRecDepth 20000 in
set_option maxHeartbeats 4000000 in
theorem f_X12_call {G : sw_G} (d : Nat) {h0 : sw_H} (hJ : mI h0) (y1 : Int) (hB : mB h0)  (hF : FM h0) : sw_E G NH SH (d + 5) mX12_call 0 [some (sw_r 224), some (sw_i y1)] [] h0 (sw_Qi (fun z h' => mK (prW [67, 68, 69, 70, 73, 74] [261, 262, 263, 264, 265, 266, 267]) h0 h' ∧ (mB h') ∧ (h' 224 100 = h0 224 100) ∧ (z = -1))) := by
  obtain ⟨b0, r0, t2, k4, k5, a3, a4, l3, s9, t0, z7, z8, z9, z10, z12, z61, z89⟩ := hF
  have fw : h0 227 (h0 224 36).toNat = 0 := z7 _
  have hI : mK (prW [67, 68, 69, 70, 73, 74] [261, 262, 263, 264, 265, 266, 267]) h0 h0 := mK.refl hJ
  have hB2 := hB.2
  have r30 : (0 : Int) ≤ h0 261 30 ∧ h0 261 30 ≤ 24 := hI.1 261 30
  have r31 : (0 : Int) ≤ h0 261 31 ∧ h0 261 31 ≤ 6 := hI.1 261 31
  refine sx_aload_n dX12_call_0 rfl ?_
  refine sx_iload_n dX12_call_1 rfl ?_
  refine sx_callVz lk_X12_570 cl_12 s_224 (by decide) dX12_call_2 (vs := [_]) rfl rfl (Nat.le_of_ble_eq_true rfl) (Nat.le_of_ble_eq_true rfl) rfl (c_X12_isOne _ hI.1 _) (fun x2 h1 zx2 ph1 => ?_)
  obtain ⟨rfl, p_x2⟩ := ph1
  refine sx_if_eq (tgt := 50) dX12_call_5 (by decide) (fun c3 => ?_) (fun c3 => ?_)
  ·
    replace p_x2 := mt p_x2.mpr (show ¬ (x2 = 1) by rw [c3]; decide)
    clear zx2
    refine sx_iconst dX12_call_50 ⟨by decide, by decide⟩ ?_
    refine sx_ireturn dX12_call_51 ?_
    exact ⟨_, rfl, ⟨hI, ⟨mC_mK hI rfl rfl hJ hB.1, by have := hB.2; omega, by have := hB.2; omega, by have := hB.2; omega⟩, hI.2 224 100 rfl, by first | omega | (exfalso; omega)⟩⟩
  ·
    have vx2 : x2 = 1 := by rcases zx2 with q | q; (exact absurd q c3); exact q
    replace p_x2 := p_x2.mp vx2
    clear zx2
    obtain ⟨wr1, wr2, wr3, wr4⟩ := mC_w hB.1 hJ (w := y1) (by omega) (by omega)
    have wd := Wd_of hB.1 hJ hB.2.1 (w := y1) (by omega) (by omega)
    have wds := Wds_of hB.1 hJ hB.2.1 (w := y1) (by omega)
    obtain ⟨wg1, wg2, wg3, wg4, wg5, wg6⟩ := Wd_rng wd
    have eN : cN h0 y1 = h0 235 (6 * h0 224 36 + y1).toNat := rfl
    have eH : cH h0 y1 = h0 237 (6 * h0 224 36 + y1).toNat := rfl
    refine sx_aload_n dX12_call_8 rfl ?_
    refine sx_getS (k := 61) (t := 261) cl_12 fl_X12_124 dX12_call_9 s_224 (by decide) rfl (by decide) ?_
    refine sx_bipush dX12_call_12 ⟨by decide, by decide, by decide⟩ ?_
    refine sy_iaK (k := 30) (F := fun z => (0 : Int) ≤ z ∧ z ≤ 24) rfl dX12_call_14 s_261 (by decide) (by decide) ⟨by decide, by decide⟩ (hI.1 261 30) (fun r4 => ?_)
    refine sx_aload_n dX12_call_15 rfl ?_
    refine sx_iload_n dX12_call_16 rfl ?_
    refine sx_callVi lk_X12_504 cl_12 s_224 (by decide) dX12_call_17 (vs := [_]) rfl rfl (Nat.le_of_ble_eq_true rfl) (Nat.le_of_ble_eq_true rfl) rfl (c_X12_needsOf _ hI.1 _ (by first | omega | (rw [Int.tmod_eq_emod_of_nonneg (by omega)]; omega) | (rw [Int.tdiv_eq_ediv_of_nonneg (by omega)]; omega))) (fun x6 h5 ph5 => ?_)
    obtain ⟨rfl, p_x6⟩ := ph5
    refine sx_icmp_lt (tgt := 50) dX12_call_20 (by decide) (fun c7 => ?_) (fun c7 => ?_)
    ·
      refine sx_iconst dX12_call_50 ⟨by decide, by decide⟩ ?_
      refine sx_ireturn dX12_call_51 ?_
      exact ⟨_, rfl, ⟨hI, ⟨mC_mK hI rfl rfl hJ hB.1, by have := hB.2; omega, by have := hB.2; omega, by have := hB.2; omega⟩, hI.2 224 100 rfl, by first | omega | (exfalso; omega)⟩⟩
    ·
      refine sx_aload_n dX12_call_23 rfl ?_
      refine sx_getS (k := 61) (t := 261) cl_12 fl_X12_124 dX12_call_24 s_224 (by decide) rfl (by decide) ?_
      refine sx_bipush dX12_call_27 ⟨by decide, by decide, by decide⟩ ?_
      refine sy_iaK (k := 30) (F := fun z => (0 : Int) ≤ z ∧ z ≤ 24) rfl dX12_call_29 s_261 (by decide) (by decide) ⟨by decide, by decide⟩ (hI.1 261 30) (fun r8 => ?_)
      refine sx_aload_n dX12_call_30 rfl ?_
      refine sx_getS (k := 21) (t := 237) cl_12 fl_X12_51 dX12_call_31 s_224 (by decide) rfl (by decide) ?_
      refine sx_bipush dX12_call_34 ⟨by decide, by decide, by decide⟩ ?_
      refine sx_aload_n dX12_call_36 rfl ?_
      refine sx_getI (k := 36) cl_12 fl_X12_349 dX12_call_37 s_224 (by decide) rfl (by decide) ?_
      have r9 : (0 : Int) ≤ h0 224 36 ∧ h0 224 36 ≤ 1 := hI.1 224 36
      refine sx_imul dX12_call_40 ?_
      refine sy_topw (by omega) ?_
      refine sx_iload_n dX12_call_41 rfl ?_
      refine sx_iadd dX12_call_42 ?_
      refine sy_topw (by omega) ?_
      refine sx_iaload dX12_call_43 s_237 (by decide) (by decide) ⟨by omega, by omega⟩ ?_
      refine sx_iadd dX12_call_44 ?_
      refine sy_topw (by omega) ?_
      refine sx_bipush dX12_call_45 ⟨by decide, by decide, by decide⟩ ?_
      refine sx_icmp_le (tgt := 52) dX12_call_47 (by decide) (fun c10 => ?_) (fun c10 => ?_)
      ·
        refine sx_aload_n dX12_call_52 rfl ?_
        refine sx_callVv lk_X12_561 cl_12 s_224 (by decide) dX12_call_53 (vs := []) rfl rfl (Nat.le_of_ble_eq_true rfl) (Nat.le_of_ble_eq_true rfl) rfl (c_X12_keepAct _ hI.1) (fun h11 ph11 => ?_)
        obtain ⟨Kh11, s_h11⟩ := ph11
        have Ih11 := hI.tr Kh11 (prW_sub rfl rfl)
        have th11_224_67 := Kh11.2 224 67 rfl
        have th11_224_68 := Kh11.2 224 68 rfl
        have th11_224_71 := Kh11.2 224 71 rfl
        have th11_224_85 := Kh11.2 224 85 rfl
        have th11_224_100 := Kh11.2 224 100 rfl
        have th11_261_30 := Kh11.2 261 30 rfl
        have th11_261_31 := Kh11.2 261 31 rfl
        refine sx_aload_n dX12_call_56 rfl ?_
        refine sx_callVv lk_X12_564 cl_12 s_224 (by decide) dX12_call_57 (vs := []) rfl rfl (Nat.le_of_ble_eq_true rfl) (Nat.le_of_ble_eq_true rfl) rfl (c_X12_fromEarnest _ Ih11.1) (fun h13 ph13 => ?_)
        obtain ⟨Kh13, c_h13⟩ := ph13
        have Ih13 := Ih11.tr Kh13 (prW_sub rfl rfl)
        have th13_224_71 := Kh13.2 224 71 rfl
        have th13_224_73 := Kh13.2 224 73 rfl
        have th13_224_74 := Kh13.2 224 74 rfl
        have th13_224_85 := Kh13.2 224 85 rfl
        have th13_224_100 := Kh13.2 224 100 rfl
        have th13_261_30 := Kh13.2 261 30 rfl
        have th13_261_31 := Kh13.2 261 31 rfl
        have CD : cdK h0 h13 := Ih13.cd rfl rfl
        refine sx_aload_n dX12_call_60 rfl ?_
        refine sx_iload_n dX12_call_61 rfl ?_
        refine sx_callVv lk_X12_573 cl_12 s_224 (by decide) dX12_call_62 (vs := [_]) rfl rfl (Nat.le_of_ble_eq_true rfl) (Nat.le_of_ble_eq_true rfl) rfl (c_X12_runWord _ Ih13.1 (cN h0 y1) (cL h0 y1) (cH h0 y1) _ (by omega) (Wds_cd CD wds) (Wd_cd CD wd) (by omega)) (fun h15 ph15 => ?_)
        obtain ⟨Kh15, c_h15⟩ := ph15
        have Ih15 := Ih13.tr Kh15 (prW_sub rfl rfl)
        have th15_224_71 := Kh15.2 224 71 rfl
        have th15_224_73 := Kh15.2 224 73 rfl
        have th15_224_74 := Kh15.2 224 74 rfl
        have th15_224_85 := Kh15.2 224 85 rfl
        have th15_224_100 := Kh15.2 224 100 rfl
        have th15_261_30 := Kh15.2 261 30 rfl
        have th15_261_31 := Kh15.2 261 31 rfl
        refine sx_aload_n dX12_call_65 rfl ?_
        refine sx_callVi lk_X12_567 cl_12 s_224 (by decide) dX12_call_66 (vs := []) rfl rfl (Nat.le_of_ble_eq_true rfl) (Nat.le_of_ble_eq_true rfl) rfl (c_X12_toEarnest _ Ih15.1 (by omega)) (fun x18 h17 ph17 => ?_)
        have Kh17 := ph17
        have Ih17 := Ih15.tr Kh17 (prW_sub rfl rfl)
        have th17_224_67 := Kh17.2 224 67 rfl
        have th17_224_68 := Kh17.2 224 68 rfl
        have th17_224_71 := Kh17.2 224 71 rfl
        have th17_224_73 := Kh17.2 224 73 rfl
        have th17_224_74 := Kh17.2 224 74 rfl
        have th17_224_85 := Kh17.2 224 85 rfl
        have th17_224_100 := Kh17.2 224 100 rfl
        refine sx_ireturn dX12_call_69 ?_
        exact ⟨_, rfl, ⟨Ih17, ⟨mC_mK Ih17 rfl rfl hJ hB.1, by have := hB.2; omega, by have := hB.2; omega, by have := hB.2; omega⟩, Ih17.2 224 100 rfl, by first | omega | (exfalso; omega)⟩⟩
      ·
        refine sx_iconst dX12_call_50 ⟨by decide, by decide⟩ ?_
        refine sx_ireturn dX12_call_51 ?_
        exact ⟨_, rfl, ⟨hI, ⟨mC_mK hI rfl rfl hJ hB.1, by have := hB.2; omega, by have := hB.2; omega, by have := hB.2; omega⟩, hI.2 224 100 rfl, by first | omega | (exfalso; omega)⟩⟩
set_option maxRecDepth 20000 in
set_option maxHeartbeats 4000000 in
theorem f_X12_inline {G : sw_G} (d : Nat) {h0 : sw_H} (hJ : mI h0) (y1 : Int) (hB : mB h0)  (hF : FM h0) : sw_E G NH SH (d + 2) mX12_inline 0 [some (sw_r 224), some (sw_i y1)] [] h0 (sw_Qi (fun z h' => mK (prW [67, 68, 73, 74] [261, 262, 263, 267]) h0 h' ∧ (mB h') ∧ (h' 224 100 = h0 224 100) ∧ (z = -1))) := by
  obtain ⟨b0, r0, t2, k4, k5, a3, a4, l3, s9, t0, z7, z8, z9, z10, z12, z61, z89⟩ := hF
  have fw : h0 227 (h0 224 36).toNat = 0 := z7 _
  have hI : mK (prW [67, 68, 73, 74] [261, 262, 263, 267]) h0 h0 := mK.refl hJ
  have hB2 := hB.2
  have r30 : (0 : Int) ≤ h0 261 30 ∧ h0 261 30 ≤ 24 := hI.1 261 30
  have r31 : (0 : Int) ≤ h0 261 31 ∧ h0 261 31 ≤ 6 := hI.1 261 31
  refine sx_aload_n dX12_inline_0 rfl ?_
  refine sx_iload_n dX12_inline_1 rfl ?_
  refine sx_callVz lk_X12_570 cl_12 s_224 (by decide) dX12_inline_2 (vs := [_]) rfl rfl (Nat.le_of_ble_eq_true rfl) (Nat.le_of_ble_eq_true rfl) rfl (c_X12_isOne _ hI.1 _) (fun x2 h1 zx2 ph1 => ?_)
  obtain ⟨rfl, p_x2⟩ := ph1
  refine sx_if_ne (tgt := 10) dX12_inline_5 (by decide) (fun c3 => ?_) (fun c3 => ?_)
  ·
    have vx2 : x2 = 1 := by rcases zx2 with q | q; (exact absurd q c3); exact q
    replace p_x2 := p_x2.mp vx2
    clear zx2
    refine sx_aload_n dX12_inline_10 rfl ?_
    refine sx_callVv lk_X12_561 cl_12 s_224 (by decide) dX12_inline_11 (vs := []) rfl rfl (Nat.le_of_ble_eq_true rfl) (Nat.le_of_ble_eq_true rfl) rfl (c_X12_keepAct _ hI.1) (fun h4 ph4 => ?_)
    obtain ⟨Kh4, s_h4⟩ := ph4
    have Ih4 := hI.tr Kh4 (prW_sub rfl rfl)
    have th4_224_67 := Kh4.2 224 67 rfl
    have th4_224_68 := Kh4.2 224 68 rfl
    have th4_224_71 := Kh4.2 224 71 rfl
    have th4_224_85 := Kh4.2 224 85 rfl
    have th4_224_100 := Kh4.2 224 100 rfl
    have th4_261_30 := Kh4.2 261 30 rfl
    have th4_261_31 := Kh4.2 261 31 rfl
    refine sx_aload_n dX12_inline_14 rfl ?_
    refine sx_getS (k := 61) (t := 261) cl_12 fl_X12_124 dX12_inline_15 s_224 (by decide) rfl (by decide) ?_
    refine sx_bipush dX12_inline_18 ⟨by decide, by decide, by decide⟩ ?_
    refine sx_dup2 dX12_inline_20 ?_
    refine sx_iaload dX12_inline_21 s_261 (by decide) (by decide) ⟨by omega, by omega⟩ ?_
    refine sx_iconst dX12_inline_22 ⟨by decide, by decide⟩ ?_
    refine sx_iload_n dX12_inline_23 rfl ?_
    refine sx_ishl dX12_inline_24 ?_
    refine sx_ixor dX12_inline_25 ?_
    refine sy_iastore dX12_inline_26 s_261 (by decide) (by decide) ⟨by omega, by omega⟩ (fun h6 eh6 => ?_)
    have Ih6 := Ih4.up eh6 (by exact omc_all_lt (Or.inl rfl) (by decide) (by decide)) rfl
    have th6_224_67 := eh6.2 (224) 67 (fun q => absurd q.1 (by decide))
    have th6_224_68 := eh6.2 (224) 68 (fun q => absurd q.1 (by decide))
    have th6_224_71 := eh6.2 (224) 71 (fun q => absurd q.1 (by decide))
    have th6_224_73 := eh6.2 (224) 73 (fun q => absurd q.1 (by decide))
    have th6_224_74 := eh6.2 (224) 74 (fun q => absurd q.1 (by decide))
    have th6_224_85 := eh6.2 (224) 85 (fun q => absurd q.1 (by decide))
    have th6_224_100 := eh6.2 (224) 100 (fun q => absurd q.1 (by decide))
    have th6_261_30 := eh6.2 (261) 30 (by omega)
    have th6_261_31 := eh6.2 (261) 31 (by omega)
    refine sx_aload_n dX12_inline_27 rfl ?_
    refine sx_getS (k := 61) (t := 261) cl_12 fl_X12_124 dX12_inline_28 s_224 (by decide) rfl (by decide) ?_
    refine sx_bipush dX12_inline_31 ⟨by decide, by decide, by decide⟩ ?_
    refine sx_iaload dX12_inline_33 s_261 (by decide) (by decide) ⟨by omega, by omega⟩ ?_
    refine sx_ireturn dX12_inline_34 ?_
    exact ⟨_, rfl, ⟨Ih6, ⟨mC_mK Ih6 rfl rfl hJ hB.1, by have := hB.2; omega, by have := hB.2; omega, by have := hB.2; omega⟩, Ih6.2 224 100 rfl, by first | omega | (exfalso; omega)⟩⟩
  ·
    replace p_x2 := mt p_x2.mpr (show ¬ (x2 = 1) by rw [c3]; decide)
    clear zx2
    refine sx_iconst dX12_inline_8 ⟨by decide, by decide⟩ ?_
    refine sx_ireturn dX12_inline_9 ?_
    exact ⟨_, rfl, ⟨hI, ⟨mC_mK hI rfl rfl hJ hB.1, by have := hB.2; omega, by have := hB.2; omega, by have := hB.2; omega⟩, hI.2 224 100 rfl, by first | omega | (exfalso; omega)⟩⟩
set_option maxRecDepth 20000 in
set_option maxHeartbeats 4000000 in
theorem f_X12_alike {G : sw_G} (d : Nat) {h0 : sw_H} (hJ : mI h0) (y1 y2 : Int) (hB : mB h0)  (hF : FM h0) : sw_E G NH SH (d + 7) mX12_alike 0 [some (sw_r 224), some (sw_i y1), some (sw_i y2)] [] h0 (sw_Qi (fun z h' => mK (prW [67, 68, 69, 70] [262, 263, 264, 265, 266, 269]) h0 h' ∧ (mB h') ∧ (h' 224 100 = h0 224 100) ∧ (z = -1))) := by
  obtain ⟨b0, r0, t2, k4, k5, a3, a4, l3, s9, t0, z7, z8, z9, z10, z12, z61, z89⟩ := hF
  have fw : h0 227 (h0 224 36).toNat = 0 := z7 _
  have hI : mK (prW [67, 68, 69, 70] [262, 263, 264, 265, 266, 269]) h0 h0 := mK.refl hJ
  refine sx_aload_n dX12_alike_0 rfl ?_
  refine sx_iload_n dX12_alike_1 rfl ?_
  refine sx_callVz lk_X12_570 cl_12 s_224 (by decide) dX12_alike_2 (vs := [_]) rfl rfl (Nat.le_of_ble_eq_true rfl) (Nat.le_of_ble_eq_true rfl) rfl (c_X12_isOne _ hI.1 _) (fun x2 h1 zx2 ph1 => ?_)
  obtain ⟨rfl, p_x2⟩ := ph1
  refine sx_if_eq (tgt := 16) dX12_alike_5 (by decide) (fun c3 => ?_) (fun c3 => ?_)
  ·
    replace p_x2 := mt p_x2.mpr (show ¬ (x2 = 1) by rw [c3]; decide)
    clear zx2
    refine sx_iconst dX12_alike_16 ⟨by decide, by decide⟩ ?_
    refine sx_goto (tgt := 43) dX12_alike_17 (by decide) ?_
    refine sx_ireturn dX12_alike_43 ?_
    exact ⟨_, rfl, ⟨hI, mB_mK hI rfl rfl hJ hB, hI.2 224 100 rfl, by first | omega | (exfalso; omega)⟩⟩
  ·
    have vx2 : x2 = 1 := by rcases zx2 with q | q; (exact absurd q c3); exact q
    replace p_x2 := p_x2.mp vx2
    clear zx2
    obtain ⟨wr1, -, -, -⟩ := mC_w hB.1 hJ (w := y1) (by omega) (by omega)
    refine sx_aload_n dX12_alike_8 rfl ?_
    refine sx_iload_n dX12_alike_9 rfl ?_
    refine sx_callVz lk_X12_570 cl_12 s_224 (by decide) dX12_alike_10 (vs := [_]) rfl rfl (Nat.le_of_ble_eq_true rfl) (Nat.le_of_ble_eq_true rfl) rfl (c_X12_isOne _ hI.1 _) (fun x5 h4 zx5 ph4 => ?_)
    obtain ⟨rfl, p_x5⟩ := ph4
    refine sx_if_ne (tgt := 20) dX12_alike_13 (by decide) (fun c6 => ?_) (fun c6 => ?_)
    ·
      have vx5 : x5 = 1 := by rcases zx5 with q | q; (exact absurd q c6); exact q
      replace p_x5 := p_x5.mp vx5
      clear zx5
      obtain ⟨wr2, -, -, -⟩ := mC_w hB.1 hJ (w := y2) (by omega) (by omega)
      refine sx_aload_n dX12_alike_20 rfl ?_
      refine sx_iload_n dX12_alike_21 rfl ?_
      refine sx_iload_n dX12_alike_22 rfl ?_
      refine sx_callVz lk_X12_604 cl_12 s_224 (by decide) dX12_alike_23 (vs := [_, _]) rfl rfl (Nat.le_of_ble_eq_true rfl) (Nat.le_of_ble_eq_true rfl) rfl (c_X12_areLike _ hI.1 _ _ (hB) (by omega) (by omega)) (fun x8 h7 zx8 ph7 => ?_)
      obtain ⟨rfl, p_x8⟩ := ph7
      refine sx_if_eq (tgt := 42) dX12_alike_26 (by decide) (fun c9 => ?_) (fun c9 => ?_)
      ·
        clear zx8
        refine sx_iconst dX12_alike_42 ⟨by decide, by decide⟩ ?_
        refine sx_ireturn dX12_alike_43 ?_
        exact ⟨_, rfl, ⟨hI, mB_mK hI rfl rfl hJ hB, hI.2 224 100 rfl, by first | omega | (exfalso; omega)⟩⟩
      ·
        have vx8 : x8 = 1 := by rcases zx8 with q | q; (exact absurd q c9); exact q
        clear zx8
        refine sx_aload_n dX12_alike_29 rfl ?_
        refine sx_iload_n dX12_alike_30 rfl ?_
        refine sx_iload_n dX12_alike_31 rfl ?_
        refine sx_callVi lk_X12_607 cl_12 s_224 (by decide) dX12_alike_32 (vs := [_, _]) rfl rfl (Nat.le_of_ble_eq_true rfl) (Nat.le_of_ble_eq_true rfl) rfl (c_X12_firstUnlike _ hI.1 _ _ (hB) (by omega) (by omega) (by omega)) (fun x11 h10 ph10 => ?_)
        have Kh10 := ph10
        have Ih10 := hI.tr Kh10 (prW_sub rfl rfl)
        have th10_224_71 := Kh10.2 224 71 rfl
        have th10_224_73 := Kh10.2 224 73 rfl
        have th10_224_74 := Kh10.2 224 74 rfl
        have th10_224_85 := Kh10.2 224 85 rfl
        have th10_224_100 := Kh10.2 224 100 rfl
        refine sx_if_ge (tgt := 42) dX12_alike_35 (by decide) (fun c12 => ?_) (fun c12 => ?_)
        ·
          refine sx_iconst dX12_alike_42 ⟨by decide, by decide⟩ ?_
          refine sx_ireturn dX12_alike_43 ?_
          exact ⟨_, rfl, ⟨Ih10, mB_mK Ih10 rfl rfl hJ hB, Ih10.2 224 100 rfl, by first | omega | (exfalso; omega)⟩⟩
        ·
          refine sx_iconst dX12_alike_38 ⟨by decide, by decide⟩ ?_
          refine sx_goto (tgt := 43) dX12_alike_39 (by decide) ?_
          refine sx_ireturn dX12_alike_43 ?_
          exact ⟨_, rfl, ⟨Ih10, mB_mK Ih10 rfl rfl hJ hB, Ih10.2 224 100 rfl, by first | omega | (exfalso; omega)⟩⟩
    ·
      replace p_x5 := mt p_x5.mpr (show ¬ (x5 = 1) by rw [c6]; decide)
      clear zx5
      refine sx_iconst dX12_alike_16 ⟨by decide, by decide⟩ ?_
      refine sx_goto (tgt := 43) dX12_alike_17 (by decide) ?_
      refine sx_ireturn dX12_alike_43 ?_
      exact ⟨_, rfl, ⟨hI, mB_mK hI rfl rfl hJ hB, hI.2 224 100 rfl, by first | omega | (exfalso; omega)⟩⟩
set_option maxRecDepth 20000 in
set_option maxHeartbeats 4000000 in
theorem f_X12_differs {G : sw_G} (d : Nat) {h0 : sw_H} (hJ : mI h0) (y1 y2 : Int) (hB : mB h0)  (hF : FM h0) : sw_E G NH SH (d + 7) mX12_differs 0 [some (sw_r 224), some (sw_i y1), some (sw_i y2), none] [] h0 (sw_Qi (fun z h' => mK (prW [67, 68, 69, 70] [262, 263, 264, 265, 266, 269]) h0 h' ∧ (mB h') ∧ (h' 224 100 = h0 224 100) ∧ (z = -1))) := by
  obtain ⟨b0, r0, t2, k4, k5, a3, a4, l3, s9, t0, z7, z8, z9, z10, z12, z61, z89⟩ := hF
  have fw : h0 227 (h0 224 36).toNat = 0 := z7 _
  have hI : mK (prW [67, 68, 69, 70] [262, 263, 264, 265, 266, 269]) h0 h0 := mK.refl hJ
  refine sx_aload_n dX12_differs_0 rfl ?_
  refine sx_iload_n dX12_differs_1 rfl ?_
  refine sx_callVz lk_X12_570 cl_12 s_224 (by decide) dX12_differs_2 (vs := [_]) rfl rfl (Nat.le_of_ble_eq_true rfl) (Nat.le_of_ble_eq_true rfl) rfl (c_X12_isOne _ hI.1 _) (fun x2 h1 zx2 ph1 => ?_)
  obtain ⟨rfl, p_x2⟩ := ph1
  refine sx_if_eq (tgt := 25) dX12_differs_5 (by decide) (fun c3 => ?_) (fun c3 => ?_)
  ·
    replace p_x2 := mt p_x2.mpr (show ¬ (x2 = 1) by rw [c3]; decide)
    clear zx2
    refine sx_iconst dX12_differs_25 ⟨by decide, by decide⟩ ?_
    refine sx_ireturn dX12_differs_26 ?_
    exact ⟨_, rfl, ⟨hI, mB_mK hI rfl rfl hJ hB, hI.2 224 100 rfl, by first | omega | (exfalso; omega)⟩⟩
  ·
    have vx2 : x2 = 1 := by rcases zx2 with q | q; (exact absurd q c3); exact q
    replace p_x2 := p_x2.mp vx2
    clear zx2
    obtain ⟨wr1, -, -, -⟩ := mC_w hB.1 hJ (w := y1) (by omega) (by omega)
    refine sx_aload_n dX12_differs_8 rfl ?_
    refine sx_iload_n dX12_differs_9 rfl ?_
    refine sx_callVz lk_X12_570 cl_12 s_224 (by decide) dX12_differs_10 (vs := [_]) rfl rfl (Nat.le_of_ble_eq_true rfl) (Nat.le_of_ble_eq_true rfl) rfl (c_X12_isOne _ hI.1 _) (fun x5 h4 zx5 ph4 => ?_)
    obtain ⟨rfl, p_x5⟩ := ph4
    refine sx_if_eq (tgt := 25) dX12_differs_13 (by decide) (fun c6 => ?_) (fun c6 => ?_)
    ·
      replace p_x5 := mt p_x5.mpr (show ¬ (x5 = 1) by rw [c6]; decide)
      clear zx5
      refine sx_iconst dX12_differs_25 ⟨by decide, by decide⟩ ?_
      refine sx_ireturn dX12_differs_26 ?_
      exact ⟨_, rfl, ⟨hI, mB_mK hI rfl rfl hJ hB, hI.2 224 100 rfl, by first | omega | (exfalso; omega)⟩⟩
    ·
      have vx5 : x5 = 1 := by rcases zx5 with q | q; (exact absurd q c6); exact q
      replace p_x5 := p_x5.mp vx5
      clear zx5
      obtain ⟨wr2, -, -, -⟩ := mC_w hB.1 hJ (w := y2) (by omega) (by omega)
      refine sx_aload_n dX12_differs_16 rfl ?_
      refine sx_iload_n dX12_differs_17 rfl ?_
      refine sx_iload_n dX12_differs_18 rfl ?_
      refine sx_callVz lk_X12_604 cl_12 s_224 (by decide) dX12_differs_19 (vs := [_, _]) rfl rfl (Nat.le_of_ble_eq_true rfl) (Nat.le_of_ble_eq_true rfl) rfl (c_X12_areLike _ hI.1 _ _ (hB) (by omega) (by omega)) (fun x8 h7 zx8 ph7 => ?_)
      obtain ⟨rfl, p_x8⟩ := ph7
      refine sx_if_ne (tgt := 27) dX12_differs_22 (by decide) (fun c9 => ?_) (fun c9 => ?_)
      ·
        have vx8 : x8 = 1 := by rcases zx8 with q | q; (exact absurd q c9); exact q
        clear zx8
        refine sx_aload_n dX12_differs_27 rfl ?_
        refine sx_iload_n dX12_differs_28 rfl ?_
        refine sx_iload_n dX12_differs_29 rfl ?_
        refine sx_callVi lk_X12_607 cl_12 s_224 (by decide) dX12_differs_30 (vs := [_, _]) rfl rfl (Nat.le_of_ble_eq_true rfl) (Nat.le_of_ble_eq_true rfl) rfl (c_X12_firstUnlike _ hI.1 _ _ (hB) (by omega) (by omega) (by omega)) (fun x11 h10 ph10 => ?_)
        have Kh10 := ph10
        have Ih10 := hI.tr Kh10 (prW_sub rfl rfl)
        have th10_224_71 := Kh10.2 224 71 rfl
        have th10_224_73 := Kh10.2 224 73 rfl
        have th10_224_74 := Kh10.2 224 74 rfl
        have th10_224_85 := Kh10.2 224 85 rfl
        have th10_224_100 := Kh10.2 224 100 rfl
        refine sx_istore_n dX12_differs_33 (by decide) ?_
        refine sx_iload_n dX12_differs_34 rfl ?_
        refine sx_if_ge (tgt := 42) dX12_differs_35 (by decide) (fun c12 => ?_) (fun c12 => ?_)
        ·
          refine sx_iload_n dX12_differs_42 rfl ?_
          refine sx_bipush dX12_differs_43 ⟨by decide, by decide, by decide⟩ ?_
          refine sx_idiv dX12_differs_45 (by decide) ?_
          refine sx_bipush dX12_differs_46 ⟨by decide, by decide, by decide⟩ ?_
          refine sx_imul dX12_differs_48 ?_
          refine sx_iload_n dX12_differs_49 rfl ?_
          refine sx_iconst dX12_differs_50 ⟨by decide, by decide⟩ ?_
          refine sx_idiv dX12_differs_51 (by decide) ?_
          refine sx_iconst dX12_differs_52 ⟨by decide, by decide⟩ ?_
          refine sx_irem dX12_differs_53 (by decide) ?_
          refine sx_bipush dX12_differs_54 ⟨by decide, by decide, by decide⟩ ?_
          refine sx_imul dX12_differs_56 ?_
          refine sx_iadd dX12_differs_57 ?_
          refine sx_iload_n dX12_differs_58 rfl ?_
          refine sx_iconst dX12_differs_59 ⟨by decide, by decide⟩ ?_
          refine sx_irem dX12_differs_60 (by decide) ?_
          refine sx_iadd dX12_differs_61 ?_
          refine sx_ireturn dX12_differs_62 ?_
          exact ⟨_, rfl, ⟨Ih10, mB_mK Ih10 rfl rfl hJ hB, Ih10.2 224 100 rfl, by first | omega | (exfalso; omega)⟩⟩
        ·
          refine sx_iconst dX12_differs_38 ⟨by decide, by decide⟩ ?_
          refine sx_goto (tgt := 62) dX12_differs_39 (by decide) ?_
          refine sx_ireturn dX12_differs_62 ?_
          exact ⟨_, rfl, ⟨Ih10, mB_mK Ih10 rfl rfl hJ hB, Ih10.2 224 100 rfl, by first | omega | (exfalso; omega)⟩⟩
      ·
        clear zx8
        refine sx_iconst dX12_differs_25 ⟨by decide, by decide⟩ ?_
        refine sx_ireturn dX12_differs_26 ?_
        exact ⟨_, rfl, ⟨hI, mB_mK hI rfl rfl hJ hB, hI.2 224 100 rfl, by first | omega | (exfalso; omega)⟩⟩
set_option maxRecDepth 20000 in
set_option maxHeartbeats 4000000 in
theorem f_X12_tidy {G : sw_G} (d : Nat) {h0 : sw_H} (hJ : mI h0) (y1 : Int) (hB : mB h0)  (hF : FM h0) : sw_E G NH SH (d + 5) mX12_tidy 0 [some (sw_r 224), some (sw_i y1), none, none, none, none, none, none] [] h0 (sw_Qi (fun z h' => mK (prW [67, 79, 83, 84] [262, 270, 271, 272, 273]) h0 h' ∧ (mB h') ∧ (h' 224 100 = h0 224 100) ∧ (z = -1))) := by
  obtain ⟨b0, r0, t2, k4, k5, a3, a4, l3, s9, t0, z7, z8, z9, z10, z12, z61, z89⟩ := hF
  have fw : h0 227 (h0 224 36).toNat = 0 := z7 _
  have hI : mK (prW [67, 79, 83, 84] [262, 270, 271, 272, 273]) h0 h0 := mK.refl hJ
  refine sx_aload_n dX12_tidy_0 rfl ?_
  refine sx_iload_n dX12_tidy_1 rfl ?_
  refine sx_callVz lk_X12_570 cl_12 s_224 (by decide) dX12_tidy_2 (vs := [_]) rfl rfl (Nat.le_of_ble_eq_true rfl) (Nat.le_of_ble_eq_true rfl) rfl (c_X12_isOne _ hI.1 _) (fun x2 h1 zx2 ph1 => ?_)
  obtain ⟨rfl, p_x2⟩ := ph1
  refine sx_if_ne (tgt := 10) dX12_tidy_5 (by decide) (fun c3 => ?_) (fun c3 => ?_)
  ·
    have vx2 : x2 = 1 := by rcases zx2 with q | q; (exact absurd q c3); exact q
    replace p_x2 := p_x2.mp vx2
    clear zx2
    obtain ⟨wr1, wr2, wr3, wr4⟩ := mC_w hB.1 hJ (w := y1) (by omega) (by omega)
    refine sx_iconst dX12_tidy_10 ⟨by decide, by decide⟩ ?_
    refine sx_istore_n dX12_tidy_11 (by decide) ?_
    refine sx_loop1 (fun (h : sw_H) (t : Int) => (mK (prW [67, 79, 83, 84] [262, 270, 271, 272, 273]) h0 h) ∧ (0 ≤ t) ∧ (∀ j : Nat, (j : Int) < t → 1 ≤ h 273 j ∧ h 273 j ≤ 99001)) (fun (h : sw_H) (t : Int) => (10 - t).toNat) (fun (h : sw_H) (t : Int) => sw_E G NH SH (d + 5) mX12_tidy 12 [some (sw_r 224), some (sw_i y1), some (sw_i t), none, none, none, none, none] [] h (sw_Qi (fun z h' => mK (prW [67, 79, 83, 84] [262, 270, 271, 272, 273]) h0 h' ∧ (mB h') ∧ (h' 224 100 = h0 224 100) ∧ (z = -1)))) ?_ _ _ ?_
    · rintro h4 t_5 ⟨Ih4, jt, jw⟩ ihh4
      try dsimp only at ihh4
      refine sx_iload_n dX12_tidy_12 rfl ?_
      refine sx_bipush dX12_tidy_13 ⟨by decide, by decide, by decide⟩ ?_
      refine sx_icmp_ge (tgt := 31) dX12_tidy_15 (by decide) (fun c6 => ?_) (fun c6 => ?_)
      ·
        have rl : (0 : Int) ≤ h4 224 83 ∧ h4 224 83 ≤ 64 := Ih4.1 224 83
        refine sx_aload_n dX12_tidy_31 rfl ?_
        refine sx_getI (k := 83) cl_12 fl_X12_516 dX12_tidy_32 s_224 (by decide) rfl (by decide) ?_
        have r7 : (0 : Int) ≤ h4 224 83 ∧ h4 224 83 ≤ 64 := Ih4.1 224 83
        refine sy_top (fun v8 ev8 => ?_)
        refine sx_istore_n dX12_tidy_35 (by decide) ?_
        refine sx_iconst dX12_tidy_36 ⟨by decide, by decide⟩ ?_
        refine sx_istore_n dX12_tidy_37 (by decide) ?_
        refine sx_iconst dX12_tidy_38 ⟨by decide, by decide⟩ ?_
        refine sx_istore dX12_tidy_39 (by decide) ?_
        refine sx_loop2 (fun (h : sw_H) (less : Int) (i : Int) => (mK (prW [67, 79, 83, 84] [262, 270, 271, 272, 273]) h0 h) ∧ (0 ≤ i) ∧ (i ≤ h0 234 (6 * h0 224 36 + y1).toNat) ∧ (∀ j : Nat, j < 7 → 1 ≤ h 273 j ∧ h 273 j ≤ 99001)) (fun (h : sw_H) (less : Int) (i : Int) => (100 - i).toNat) (fun (h : sw_H) (less : Int) (i : Int) => sw_E G NH SH (d + 5) mX12_tidy 41 [some (sw_r 224), some (sw_i y1), some (sw_i v8), some (sw_i less), some (sw_i i), none, none, none] [] h (sw_Qi (fun z h' => mK (prW [67, 79, 83, 84] [262, 270, 271, 272, 273]) h0 h' ∧ (mB h') ∧ (h' 224 100 = h0 224 100) ∧ (z = -1)))) ?_ _ _ _ ?_
        · rintro h9 less_10 i_11 ⟨Ih9, ji, jm, jw7⟩ ihh9
          try dsimp only at ihh9
          refine sx_iload dX12_tidy_41 rfl ?_
          refine sx_aload_n dX12_tidy_43 rfl ?_
          refine sx_iload_n dX12_tidy_44 rfl ?_
          refine sx_callVi lk_X12_546 cl_12 s_224 (by decide) dX12_tidy_45 (vs := [_]) rfl rfl (Nat.le_of_ble_eq_true rfl) (Nat.le_of_ble_eq_true rfl) rfl (c_X12_manyIn _ Ih9.1 _ (by first | omega | (rw [Int.tmod_eq_emod_of_nonneg (by omega)]; omega) | (rw [Int.tdiv_eq_ediv_of_nonneg (by omega)]; omega))) (fun x13 h12 ph12 => ?_)
          obtain ⟨rfl, p_x13⟩ := ph12
          rw [Ih9.2 224 36 rfl, Ih9.2 234 _ rfl] at p_x13
          refine sx_icmp_ge (tgt := 169) dX12_tidy_48 (by decide) (fun c14 => ?_) (fun c14 => ?_)
          ·
            refine sx_aload_n dX12_tidy_169 rfl ?_
            refine sx_iload_n dX12_tidy_170 rfl ?_
            refine sy_putI (k := 83) cl_12 fl_X12_516 dX12_tidy_171 s_224 (by decide) rfl (by decide) rfl rfl (fun h15 eh15 => ?_)
            have Ih15 := Ih9.up eh15 (show (0 : Int) ≤ _ ∧ _ ≤ (64 : Int) from ⟨by omega, by omega⟩) rfl
            have th15_224_83 := eh15.1
            have th15_224_84 := eh15.2 (224) 84 (by decide)
            refine sx_iload_n dX12_tidy_174 rfl ?_
            refine sx_ireturn dX12_tidy_175 ?_
            exact ⟨_, rfl, ⟨Ih15, mB_mK Ih15 rfl rfl hJ hB, Ih15.2 224 100 rfl, by first | omega | (exfalso; omega)⟩⟩
          ·
            refine sx_iconst dX12_tidy_51 ⟨by decide, by decide⟩ ?_
            refine sx_istore dX12_tidy_52 (by decide) ?_
            refine sx_loop1 (fun (h : sw_H) (n : Int) => (h9 = h) ∧ (0 ≤ n) ∧ (n ≤ 6) ∧ (i_11 + n ≤ h0 234 (6 * h0 224 36 + y1).toNat) ∧ (∀ j : Int, i_11 ≤ j → j < i_11 + n → 0 ≤ h0 241 (60 * h0 224 36 + h0 233 (6 * h0 224 36 + y1).toNat + j).toNat ∧ h0 241 (60 * h0 224 36 + h0 233 (6 * h0 224 36 + y1).toNat + j).toNat < 7)) (fun (h : sw_H) (n : Int) => (10 - n).toNat) (fun (h : sw_H) (n : Int) => sw_E G NH SH (d + 5) mX12_tidy 54 [some (sw_r 224), some (sw_i y1), some (sw_i v8), some (sw_i less_10), some (sw_i i_11), some (sw_i n), none, none] [] h (sw_Qi (fun z h' => mK (prW [67, 79, 83, 84] [262, 270, 271, 272, 273]) h0 h' ∧ (mB h') ∧ (h' 224 100 = h0 224 100) ∧ (z = -1)))) ?_ _ _ ?_
            · rintro h16 n_17 ⟨rfl, jn, jn6, jnm, jsh⟩ ihh16
              try dsimp only at ihh16
              refine sx_iload dX12_tidy_54 rfl ?_
              refine sx_bipush dX12_tidy_56 ⟨by decide, by decide, by decide⟩ ?_
              refine sx_icmp_ge (tgt := 80) dX12_tidy_58 (by decide) (fun c18 => ?_) (fun c18 => ?_)
              ·
                refine sx_loop1 (fun (h : sw_H) (n : Int) => (mK (prW [67, 79, 83, 84] [262, 270, 271, 272, 273]) h0 h) ∧ (0 ≤ n) ∧ (n ≤ 6) ∧ (i_11 + n ≤ h0 234 (6 * h0 224 36 + y1).toNat) ∧ (∀ j : Int, i_11 ≤ j → j < i_11 + n → 0 ≤ h0 241 (60 * h0 224 36 + h0 233 (6 * h0 224 36 + y1).toNat + j).toNat ∧ h0 241 (60 * h0 224 36 + h0 233 (6 * h0 224 36 + y1).toNat + j).toNat < 7) ∧ (∀ j : Nat, j < 7 → 1 ≤ h 273 j ∧ h 273 j ≤ 99001)) (fun (h : sw_H) (n : Int) => (n + 1).toNat) (fun (h : sw_H) (n : Int) => sw_E G NH SH (d + 5) mX12_tidy 80 [some (sw_r 224), some (sw_i y1), some (sw_i v8), some (sw_i less_10), some (sw_i i_11), some (sw_i n), none, none] [] h (sw_Qi (fun z h' => mK (prW [67, 79, 83, 84] [262, 270, 271, 272, 273]) h0 h' ∧ (mB h') ∧ (h' 224 100 = h0 224 100) ∧ (z = -1)))) ?_ _ _ ?_
                · rintro h19 n_20 ⟨Ih19, jn, jn6, jnm, jsh, jw7⟩ ihh19
                  try dsimp only at ihh19
                  refine sx_iload dX12_tidy_80 rfl ?_
                  refine sx_if_le (tgt := 103) dX12_tidy_82 (by decide) (fun c21 => ?_) (fun c21 => ?_)
                  ·
                    refine sx_iload dX12_tidy_103 rfl ?_
                    refine sx_if_le (tgt := 150) dX12_tidy_105 (by decide) (fun c22 => ?_) (fun c22 => ?_)
                    ·
                      have jw8 : ∀ j : Nat, j < 7 → 1 ≤ h19 273 j ∧ h19 273 j ≤ 99001 := fun j hj => by exact jw7 j hj
                      refine sx_iload dX12_tidy_150 rfl ?_
                      refine sx_iload dX12_tidy_152 rfl ?_
                      refine sx_if_le (tgt := 162) dX12_tidy_154 (by decide) (fun c23 => ?_) (fun c23 => ?_)
                      ·
                        refine sx_iconst dX12_tidy_162 ⟨by decide, by decide⟩ ?_
                        refine sx_iadd dX12_tidy_163 ?_
                        refine sy_topw (by omega) ?_
                        refine sy_top (fun v24 ev24 => ?_)
                        refine sx_istore dX12_tidy_164 (by decide) ?_
                        refine sx_goto (tgt := 41) dX12_tidy_166 (by decide) ?_
                        refine sx_kill 5 ?_
                        exact ihh9 _ _ _ ⟨Ih19, by omega, by omega, by exact jw8⟩ (by exact sy_dec (by omega) (by omega))
                      ·
                        refine sx_iload dX12_tidy_157 rfl ?_
                        refine sx_goto (tgt := 163) dX12_tidy_159 (by decide) ?_
                        refine sx_iadd dX12_tidy_163 ?_
                        refine sy_topw (by omega) ?_
                        refine sy_top (fun v25 ev25 => ?_)
                        refine sx_istore dX12_tidy_164 (by decide) ?_
                        refine sx_goto (tgt := 41) dX12_tidy_166 (by decide) ?_
                        refine sx_kill 5 ?_
                        exact ihh9 _ _ _ ⟨Ih19, by omega, by omega, by exact jw8⟩ (by exact sy_dec (by omega) (by omega))
                    ·
                      refine sx_aload_n dX12_tidy_108 rfl ?_
                      refine sx_iload_n dX12_tidy_109 rfl ?_
                      refine sx_iload dX12_tidy_110 rfl ?_
                      refine sx_iload dX12_tidy_112 rfl ?_
                      refine sx_callVi lk_X12_651 cl_12 s_224 (by decide) dX12_tidy_114 (vs := [_, _, _]) rfl rfl (Nat.le_of_ble_eq_true rfl) (Nat.le_of_ble_eq_true rfl) rfl (c_X12_runBy _ Ih19.1 _ _ _ (mC_mK Ih19 rfl rfl hJ hB.1) (by rw [Ih19.2 224 36 rfl, Ih19.2 227 _ rfl]; omega) (by rw [Ih19.2 224 36 rfl, Ih19.2 234 _ rfl]; omega) (by rw [Ih19.2 224 36 rfl, Ih19.2 233 _ rfl]; intro j q1 q2; rw [Ih19.2 241 _ rfl]; exact jsh j q1 q2)) (fun x27 h26 ph26 => ?_)
                      obtain ⟨Kh26, v_h26, n_h26⟩ := ph26
                      have Ih26 := Ih19.tr Kh26 (prW_sub rfl rfl)
                      have th26_224_83 := Kh26.2 224 83 rfl
                      refine sx_istore dX12_tidy_117 (by decide) ?_
                      have jw10 : ∀ j : Nat, j < 7 → 1 ≤ h26 273 j ∧ h26 273 j ≤ 99001 := fun j hj => by rw [show h26 273 j = _ from Kh26.2 273 j rfl]; exact jw7 j hj
                      refine sx_aload_n dX12_tidy_119 rfl ?_
                      refine sx_aload_n dX12_tidy_120 rfl ?_
                      refine sx_getI (k := 84) cl_12 fl_X12_648 dX12_tidy_121 s_224 (by decide) rfl (by decide) ?_
                      refine sx_callSi lk_X12_629 dX12_tidy_124 (vs := [_]) rfl rfl (Nat.le_of_ble_eq_true rfl) (Nat.le_of_ble_eq_true rfl) rfl (c_X12_startOf _ Ih26.1 _) (fun x29 h28 ph28 => ?_)
                      obtain ⟨rfl, p_x29⟩ := ph28
                      have vs := V_start p_x29
                      refine sx_callVv lk_X12_632 cl_12 s_224 (by decide) dX12_tidy_127 (vs := [_]) rfl rfl (Nat.le_of_ble_eq_true rfl) (Nat.le_of_ble_eq_true rfl) rfl (c_X12_spreadFrom _ Ih26.1 _ (vs.1)) (fun h30 ph30 => ?_)
                      obtain ⟨Kh30, p_h30⟩ := ph30
                      have Ih30 := Ih26.tr Kh30 (prW_sub rfl rfl)
                      have th30_224_83 := Kh30.2 224 83 rfl
                      have th30_224_84 := Kh30.2 224 84 rfl
                      have WG1 : WG h30 := fun t ht => by rw [Kh30.2 273 t rfl]; exact jw10 t ht
                      refine sx_aload_n dX12_tidy_130 rfl ?_
                      refine sx_iload dX12_tidy_131 rfl ?_
                      refine sx_callVz lk_X12_635 cl_12 s_224 (by decide) dX12_tidy_133 (vs := [_]) rfl rfl (Nat.le_of_ble_eq_true rfl) (Nat.le_of_ble_eq_true rfl) rfl (c_X12_spreadTo _ Ih30.1 _ _ (p_h30) (WG1) (vs.2)) (fun x33 h32 zx33 ph32 => ?_)
                      obtain ⟨Kh32, r_h32⟩ := ph32
                      have Ih32 := Ih30.tr Kh32 (prW_sub rfl rfl)
                      have th32_224_83 := Kh32.2 224 83 rfl
                      have th32_224_84 := Kh32.2 224 84 rfl
                      refine sx_istore dX12_tidy_136 (by decide) ?_
                      refine sx_iload_n dX12_tidy_138 rfl ?_
                      refine sx_iload dX12_tidy_139 rfl ?_
                      refine sx_aload_n dX12_tidy_141 rfl ?_
                      refine sx_getS (k := 78) (t := 271) cl_12 fl_X12_157 dX12_tidy_142 s_224 (by decide) rfl (by decide) ?_
                      refine sx_iconst dX12_tidy_145 ⟨by decide, by decide⟩ ?_
                      refine sx_iaload dX12_tidy_146 s_271 (by decide) (by decide) ⟨by omega, by omega⟩ ?_
                      refine sx_isub dX12_tidy_147 ?_
                      refine sx_iadd dX12_tidy_148 ?_
                      refine sy_top (fun v34 ev34 => ?_)
                      refine sx_istore_n dX12_tidy_149 (by decide) ?_
                      have jw8 : ∀ j : Nat, j < 7 → 1 ≤ h32 273 j ∧ h32 273 j ≤ 99001 := fun j hj => by rw [show h32 273 j = _ from Kh32.2 273 j rfl, show h30 273 j = _ from Kh30.2 273 j rfl, show h26 273 j = _ from Kh26.2 273 j rfl]; exact jw7 j hj
                      refine sx_iload dX12_tidy_150 rfl ?_
                      refine sx_iload dX12_tidy_152 rfl ?_
                      refine sx_if_le (tgt := 162) dX12_tidy_154 (by decide) (fun c35 => ?_) (fun c35 => ?_)
                      ·
                        refine sx_iconst dX12_tidy_162 ⟨by decide, by decide⟩ ?_
                        refine sx_iadd dX12_tidy_163 ?_
                        refine sy_topw (by omega) ?_
                        refine sy_top (fun v36 ev36 => ?_)
                        refine sx_istore dX12_tidy_164 (by decide) ?_
                        refine sx_goto (tgt := 41) dX12_tidy_166 (by decide) ?_
                        refine sx_kill 5 ?_
                        refine sx_kill 6 ?_
                        refine sx_kill 7 ?_
                        exact ihh9 _ _ _ ⟨Ih32, by omega, by omega, by exact jw8⟩ (by exact sy_dec (by omega) (by omega))
                      ·
                        refine sx_iload dX12_tidy_157 rfl ?_
                        refine sx_goto (tgt := 163) dX12_tidy_159 (by decide) ?_
                        refine sx_iadd dX12_tidy_163 ?_
                        refine sy_topw (by omega) ?_
                        refine sy_top (fun v37 ev37 => ?_)
                        refine sx_istore dX12_tidy_164 (by decide) ?_
                        refine sx_goto (tgt := 41) dX12_tidy_166 (by decide) ?_
                        refine sx_kill 5 ?_
                        refine sx_kill 6 ?_
                        refine sx_kill 7 ?_
                        exact ihh9 _ _ _ ⟨Ih32, by omega, by omega, by exact jw8⟩ (by exact sy_dec (by omega) (by omega))
                  ·
                    refine sx_aload_n dX12_tidy_85 rfl ?_
                    refine sx_iload_n dX12_tidy_86 rfl ?_
                    refine sx_iload dX12_tidy_87 rfl ?_
                    refine sx_iload dX12_tidy_89 rfl ?_
                    refine sx_callVi lk_X12_651 cl_12 s_224 (by decide) dX12_tidy_91 (vs := [_, _, _]) rfl rfl (Nat.le_of_ble_eq_true rfl) (Nat.le_of_ble_eq_true rfl) rfl (c_X12_runBy _ Ih19.1 _ _ _ (mC_mK Ih19 rfl rfl hJ hB.1) (by rw [Ih19.2 224 36 rfl, Ih19.2 227 _ rfl]; omega) (by rw [Ih19.2 224 36 rfl, Ih19.2 234 _ rfl]; omega) (by rw [Ih19.2 224 36 rfl, Ih19.2 233 _ rfl]; intro j q1 q2; rw [Ih19.2 241 _ rfl]; exact jsh j q1 q2)) (fun x39 h38 ph38 => ?_)
                    obtain ⟨Kh38, v_h38, n_h38⟩ := ph38
                    have Ih38 := Ih19.tr Kh38 (prW_sub rfl rfl)
                    have th38_224_83 := Kh38.2 224 83 rfl
                    refine sx_if_ge (tgt := 103) dX12_tidy_94 (by decide) (fun c40 => ?_) (fun c40 => ?_)
                    ·
                      refine sx_iload dX12_tidy_103 rfl ?_
                      refine sx_if_le (tgt := 150) dX12_tidy_105 (by decide) (fun c41 => ?_) (fun c41 => ?_)
                      ·
                        have jw8 : ∀ j : Nat, j < 7 → 1 ≤ h38 273 j ∧ h38 273 j ≤ 99001 := fun j hj => by rw [show h38 273 j = _ from Kh38.2 273 j rfl]; exact jw7 j hj
                        refine sx_iload dX12_tidy_150 rfl ?_
                        refine sx_iload dX12_tidy_152 rfl ?_
                        refine sx_if_le (tgt := 162) dX12_tidy_154 (by decide) (fun c42 => ?_) (fun c42 => ?_)
                        ·
                          refine sx_iconst dX12_tidy_162 ⟨by decide, by decide⟩ ?_
                          refine sx_iadd dX12_tidy_163 ?_
                          refine sy_topw (by omega) ?_
                          refine sy_top (fun v43 ev43 => ?_)
                          refine sx_istore dX12_tidy_164 (by decide) ?_
                          refine sx_goto (tgt := 41) dX12_tidy_166 (by decide) ?_
                          refine sx_kill 5 ?_
                          exact ihh9 _ _ _ ⟨Ih38, by omega, by omega, by exact jw8⟩ (by exact sy_dec (by omega) (by omega))
                        ·
                          refine sx_iload dX12_tidy_157 rfl ?_
                          refine sx_goto (tgt := 163) dX12_tidy_159 (by decide) ?_
                          refine sx_iadd dX12_tidy_163 ?_
                          refine sy_topw (by omega) ?_
                          refine sy_top (fun v44 ev44 => ?_)
                          refine sx_istore dX12_tidy_164 (by decide) ?_
                          refine sx_goto (tgt := 41) dX12_tidy_166 (by decide) ?_
                          refine sx_kill 5 ?_
                          exact ihh9 _ _ _ ⟨Ih38, by omega, by omega, by exact jw8⟩ (by exact sy_dec (by omega) (by omega))
                      ·
                        refine sx_aload_n dX12_tidy_108 rfl ?_
                        refine sx_iload_n dX12_tidy_109 rfl ?_
                        refine sx_iload dX12_tidy_110 rfl ?_
                        refine sx_iload dX12_tidy_112 rfl ?_
                        refine sx_callVi lk_X12_651 cl_12 s_224 (by decide) dX12_tidy_114 (vs := [_, _, _]) rfl rfl (Nat.le_of_ble_eq_true rfl) (Nat.le_of_ble_eq_true rfl) rfl (c_X12_runBy _ Ih38.1 _ _ _ (mC_mK Ih38 rfl rfl hJ hB.1) (by rw [Ih38.2 224 36 rfl, Ih38.2 227 _ rfl]; omega) (by rw [Ih38.2 224 36 rfl, Ih38.2 234 _ rfl]; omega) (by rw [Ih38.2 224 36 rfl, Ih38.2 233 _ rfl]; intro j q1 q2; rw [Ih38.2 241 _ rfl]; exact jsh j q1 q2)) (fun x46 h45 ph45 => ?_)
                        obtain ⟨Kh45, v_h45, n_h45⟩ := ph45
                        have Ih45 := Ih38.tr Kh45 (prW_sub rfl rfl)
                        have th45_224_83 := Kh45.2 224 83 rfl
                        refine sx_istore dX12_tidy_117 (by decide) ?_
                        have jw10 : ∀ j : Nat, j < 7 → 1 ≤ h45 273 j ∧ h45 273 j ≤ 99001 := fun j hj => by rw [show h45 273 j = _ from Kh45.2 273 j rfl, show h38 273 j = _ from Kh38.2 273 j rfl]; exact jw7 j hj
                        refine sx_aload_n dX12_tidy_119 rfl ?_
                        refine sx_aload_n dX12_tidy_120 rfl ?_
                        refine sx_getI (k := 84) cl_12 fl_X12_648 dX12_tidy_121 s_224 (by decide) rfl (by decide) ?_
                        refine sx_callSi lk_X12_629 dX12_tidy_124 (vs := [_]) rfl rfl (Nat.le_of_ble_eq_true rfl) (Nat.le_of_ble_eq_true rfl) rfl (c_X12_startOf _ Ih45.1 _) (fun x48 h47 ph47 => ?_)
                        obtain ⟨rfl, p_x48⟩ := ph47
                        have vs := V_start p_x48
                        refine sx_callVv lk_X12_632 cl_12 s_224 (by decide) dX12_tidy_127 (vs := [_]) rfl rfl (Nat.le_of_ble_eq_true rfl) (Nat.le_of_ble_eq_true rfl) rfl (c_X12_spreadFrom _ Ih45.1 _ (vs.1)) (fun h49 ph49 => ?_)
                        obtain ⟨Kh49, p_h49⟩ := ph49
                        have Ih49 := Ih45.tr Kh49 (prW_sub rfl rfl)
                        have th49_224_83 := Kh49.2 224 83 rfl
                        have th49_224_84 := Kh49.2 224 84 rfl
                        have WG1 : WG h49 := fun t ht => by rw [Kh49.2 273 t rfl]; exact jw10 t ht
                        refine sx_aload_n dX12_tidy_130 rfl ?_
                        refine sx_iload dX12_tidy_131 rfl ?_
                        refine sx_callVz lk_X12_635 cl_12 s_224 (by decide) dX12_tidy_133 (vs := [_]) rfl rfl (Nat.le_of_ble_eq_true rfl) (Nat.le_of_ble_eq_true rfl) rfl (c_X12_spreadTo _ Ih49.1 _ _ (p_h49) (WG1) (vs.2)) (fun x52 h51 zx52 ph51 => ?_)
                        obtain ⟨Kh51, r_h51⟩ := ph51
                        have Ih51 := Ih49.tr Kh51 (prW_sub rfl rfl)
                        have th51_224_83 := Kh51.2 224 83 rfl
                        have th51_224_84 := Kh51.2 224 84 rfl
                        refine sx_istore dX12_tidy_136 (by decide) ?_
                        refine sx_iload_n dX12_tidy_138 rfl ?_
                        refine sx_iload dX12_tidy_139 rfl ?_
                        refine sx_aload_n dX12_tidy_141 rfl ?_
                        refine sx_getS (k := 78) (t := 271) cl_12 fl_X12_157 dX12_tidy_142 s_224 (by decide) rfl (by decide) ?_
                        refine sx_iconst dX12_tidy_145 ⟨by decide, by decide⟩ ?_
                        refine sx_iaload dX12_tidy_146 s_271 (by decide) (by decide) ⟨by omega, by omega⟩ ?_
                        refine sx_isub dX12_tidy_147 ?_
                        refine sx_iadd dX12_tidy_148 ?_
                        refine sy_top (fun v53 ev53 => ?_)
                        refine sx_istore_n dX12_tidy_149 (by decide) ?_
                        have jw8 : ∀ j : Nat, j < 7 → 1 ≤ h51 273 j ∧ h51 273 j ≤ 99001 := fun j hj => by rw [show h51 273 j = _ from Kh51.2 273 j rfl, show h49 273 j = _ from Kh49.2 273 j rfl, show h45 273 j = _ from Kh45.2 273 j rfl, show h38 273 j = _ from Kh38.2 273 j rfl]; exact jw7 j hj
                        refine sx_iload dX12_tidy_150 rfl ?_
                        refine sx_iload dX12_tidy_152 rfl ?_
                        refine sx_if_le (tgt := 162) dX12_tidy_154 (by decide) (fun c54 => ?_) (fun c54 => ?_)
                        ·
                          refine sx_iconst dX12_tidy_162 ⟨by decide, by decide⟩ ?_
                          refine sx_iadd dX12_tidy_163 ?_
                          refine sy_topw (by omega) ?_
                          refine sy_top (fun v55 ev55 => ?_)
                          refine sx_istore dX12_tidy_164 (by decide) ?_
                          refine sx_goto (tgt := 41) dX12_tidy_166 (by decide) ?_
                          refine sx_kill 5 ?_
                          refine sx_kill 6 ?_
                          refine sx_kill 7 ?_
                          exact ihh9 _ _ _ ⟨Ih51, by omega, by omega, by exact jw8⟩ (by exact sy_dec (by omega) (by omega))
                        ·
                          refine sx_iload dX12_tidy_157 rfl ?_
                          refine sx_goto (tgt := 163) dX12_tidy_159 (by decide) ?_
                          refine sx_iadd dX12_tidy_163 ?_
                          refine sy_topw (by omega) ?_
                          refine sy_top (fun v56 ev56 => ?_)
                          refine sx_istore dX12_tidy_164 (by decide) ?_
                          refine sx_goto (tgt := 41) dX12_tidy_166 (by decide) ?_
                          refine sx_kill 5 ?_
                          refine sx_kill 6 ?_
                          refine sx_kill 7 ?_
                          exact ihh9 _ _ _ ⟨Ih51, by omega, by omega, by exact jw8⟩ (by exact sy_dec (by omega) (by omega))
                    ·
                      have jw9 : ∀ j : Nat, j < 7 → 1 ≤ h38 273 j ∧ h38 273 j ≤ 99001 := fun j hj => by rw [Kh38.2 273 j rfl]; exact jw7 j hj
                      refine sx_iinc dX12_tidy_97 (by decide) rfl ?_
                      rw [sw_w_id (by omega) (by omega)]
                      refine sx_goto (tgt := 80) dX12_tidy_100 (by decide) ?_
                      exact ihh19 _ _ ⟨Ih38, by omega, by omega, by omega, by exact fun j q1 q2 => jsh j q1 (by omega), by exact jw9⟩ (by exact sy_dec (by omega) (by omega))
                · exact ⟨Ih9, by omega, by omega, by omega, by exact jsh, by exact jw7⟩
              ·
                refine sx_aload_n dX12_tidy_61 rfl ?_
                refine sx_iload_n dX12_tidy_62 rfl ?_
                refine sx_iload dX12_tidy_63 rfl ?_
                refine sx_iload dX12_tidy_65 rfl ?_
                refine sx_iadd dX12_tidy_67 ?_
                refine sy_topw (by omega) ?_
                refine sx_callVz lk_X12_591 cl_12 s_224 (by decide) dX12_tidy_68 (vs := [_, _]) rfl rfl (Nat.le_of_ble_eq_true rfl) (Nat.le_of_ble_eq_true rfl) rfl (c_X12_isShuffle _ Ih9.1 _ _ (mC_mK Ih9 rfl rfl hJ hB.1) (by rw [Ih9.2 224 36 rfl, Ih9.2 227 _ rfl]; omega) (by omega)) (fun x58 h57 zx58 ph57 => ?_)
                obtain ⟨rfl, p_x58⟩ := ph57
                have hsz0 := p_x58
                rw [Ih9.2 224 36 rfl, Ih9.2 233 _ rfl, Ih9.2 234 _ rfl, Ih9.2 240 _ rfl, Ih9.2 241 _ rfl] at hsz0
                clear p_x58
                refine sx_if_eq (tgt := 80) dX12_tidy_71 (by decide) (fun c59 => ?_) (fun c59 => ?_)
                ·
                  clear zx58
                  refine sx_loop1 (fun (h : sw_H) (n : Int) => (mK (prW [67, 79, 83, 84] [262, 270, 271, 272, 273]) h0 h) ∧ (0 ≤ n) ∧ (n ≤ 6) ∧ (i_11 + n ≤ h0 234 (6 * h0 224 36 + y1).toNat) ∧ (∀ j : Int, i_11 ≤ j → j < i_11 + n → 0 ≤ h0 241 (60 * h0 224 36 + h0 233 (6 * h0 224 36 + y1).toNat + j).toNat ∧ h0 241 (60 * h0 224 36 + h0 233 (6 * h0 224 36 + y1).toNat + j).toNat < 7) ∧ (∀ j : Nat, j < 7 → 1 ≤ h 273 j ∧ h 273 j ≤ 99001)) (fun (h : sw_H) (n : Int) => (n + 1).toNat) (fun (h : sw_H) (n : Int) => sw_E G NH SH (d + 5) mX12_tidy 80 [some (sw_r 224), some (sw_i y1), some (sw_i v8), some (sw_i less_10), some (sw_i i_11), some (sw_i n), none, none] [] h (sw_Qi (fun z h' => mK (prW [67, 79, 83, 84] [262, 270, 271, 272, 273]) h0 h' ∧ (mB h') ∧ (h' 224 100 = h0 224 100) ∧ (z = -1)))) ?_ _ _ ?_
                  · rintro h60 n_61 ⟨Ih60, jn, jn6, jnm, jsh, jw7⟩ ihh60
                    try dsimp only at ihh60
                    refine sx_iload dX12_tidy_80 rfl ?_
                    refine sx_if_le (tgt := 103) dX12_tidy_82 (by decide) (fun c62 => ?_) (fun c62 => ?_)
                    ·
                      refine sx_iload dX12_tidy_103 rfl ?_
                      refine sx_if_le (tgt := 150) dX12_tidy_105 (by decide) (fun c63 => ?_) (fun c63 => ?_)
                      ·
                        have jw8 : ∀ j : Nat, j < 7 → 1 ≤ h60 273 j ∧ h60 273 j ≤ 99001 := fun j hj => by exact jw7 j hj
                        refine sx_iload dX12_tidy_150 rfl ?_
                        refine sx_iload dX12_tidy_152 rfl ?_
                        refine sx_if_le (tgt := 162) dX12_tidy_154 (by decide) (fun c64 => ?_) (fun c64 => ?_)
                        ·
                          refine sx_iconst dX12_tidy_162 ⟨by decide, by decide⟩ ?_
                          refine sx_iadd dX12_tidy_163 ?_
                          refine sy_topw (by omega) ?_
                          refine sy_top (fun v65 ev65 => ?_)
                          refine sx_istore dX12_tidy_164 (by decide) ?_
                          refine sx_goto (tgt := 41) dX12_tidy_166 (by decide) ?_
                          refine sx_kill 5 ?_
                          exact ihh9 _ _ _ ⟨Ih60, by omega, by omega, by exact jw8⟩ (by exact sy_dec (by omega) (by omega))
                        ·
                          refine sx_iload dX12_tidy_157 rfl ?_
                          refine sx_goto (tgt := 163) dX12_tidy_159 (by decide) ?_
                          refine sx_iadd dX12_tidy_163 ?_
                          refine sy_topw (by omega) ?_
                          refine sy_top (fun v66 ev66 => ?_)
                          refine sx_istore dX12_tidy_164 (by decide) ?_
                          refine sx_goto (tgt := 41) dX12_tidy_166 (by decide) ?_
                          refine sx_kill 5 ?_
                          exact ihh9 _ _ _ ⟨Ih60, by omega, by omega, by exact jw8⟩ (by exact sy_dec (by omega) (by omega))
                      ·
                        refine sx_aload_n dX12_tidy_108 rfl ?_
                        refine sx_iload_n dX12_tidy_109 rfl ?_
                        refine sx_iload dX12_tidy_110 rfl ?_
                        refine sx_iload dX12_tidy_112 rfl ?_
                        refine sx_callVi lk_X12_651 cl_12 s_224 (by decide) dX12_tidy_114 (vs := [_, _, _]) rfl rfl (Nat.le_of_ble_eq_true rfl) (Nat.le_of_ble_eq_true rfl) rfl (c_X12_runBy _ Ih60.1 _ _ _ (mC_mK Ih60 rfl rfl hJ hB.1) (by rw [Ih60.2 224 36 rfl, Ih60.2 227 _ rfl]; omega) (by rw [Ih60.2 224 36 rfl, Ih60.2 234 _ rfl]; omega) (by rw [Ih60.2 224 36 rfl, Ih60.2 233 _ rfl]; intro j q1 q2; rw [Ih60.2 241 _ rfl]; exact jsh j q1 q2)) (fun x68 h67 ph67 => ?_)
                        obtain ⟨Kh67, v_h67, n_h67⟩ := ph67
                        have Ih67 := Ih60.tr Kh67 (prW_sub rfl rfl)
                        have th67_224_83 := Kh67.2 224 83 rfl
                        refine sx_istore dX12_tidy_117 (by decide) ?_
                        have jw10 : ∀ j : Nat, j < 7 → 1 ≤ h67 273 j ∧ h67 273 j ≤ 99001 := fun j hj => by rw [show h67 273 j = _ from Kh67.2 273 j rfl]; exact jw7 j hj
                        refine sx_aload_n dX12_tidy_119 rfl ?_
                        refine sx_aload_n dX12_tidy_120 rfl ?_
                        refine sx_getI (k := 84) cl_12 fl_X12_648 dX12_tidy_121 s_224 (by decide) rfl (by decide) ?_
                        refine sx_callSi lk_X12_629 dX12_tidy_124 (vs := [_]) rfl rfl (Nat.le_of_ble_eq_true rfl) (Nat.le_of_ble_eq_true rfl) rfl (c_X12_startOf _ Ih67.1 _) (fun x70 h69 ph69 => ?_)
                        obtain ⟨rfl, p_x70⟩ := ph69
                        have vs := V_start p_x70
                        refine sx_callVv lk_X12_632 cl_12 s_224 (by decide) dX12_tidy_127 (vs := [_]) rfl rfl (Nat.le_of_ble_eq_true rfl) (Nat.le_of_ble_eq_true rfl) rfl (c_X12_spreadFrom _ Ih67.1 _ (vs.1)) (fun h71 ph71 => ?_)
                        obtain ⟨Kh71, p_h71⟩ := ph71
                        have Ih71 := Ih67.tr Kh71 (prW_sub rfl rfl)
                        have th71_224_83 := Kh71.2 224 83 rfl
                        have th71_224_84 := Kh71.2 224 84 rfl
                        have WG1 : WG h71 := fun t ht => by rw [Kh71.2 273 t rfl]; exact jw10 t ht
                        refine sx_aload_n dX12_tidy_130 rfl ?_
                        refine sx_iload dX12_tidy_131 rfl ?_
                        refine sx_callVz lk_X12_635 cl_12 s_224 (by decide) dX12_tidy_133 (vs := [_]) rfl rfl (Nat.le_of_ble_eq_true rfl) (Nat.le_of_ble_eq_true rfl) rfl (c_X12_spreadTo _ Ih71.1 _ _ (p_h71) (WG1) (vs.2)) (fun x74 h73 zx74 ph73 => ?_)
                        obtain ⟨Kh73, r_h73⟩ := ph73
                        have Ih73 := Ih71.tr Kh73 (prW_sub rfl rfl)
                        have th73_224_83 := Kh73.2 224 83 rfl
                        have th73_224_84 := Kh73.2 224 84 rfl
                        refine sx_istore dX12_tidy_136 (by decide) ?_
                        refine sx_iload_n dX12_tidy_138 rfl ?_
                        refine sx_iload dX12_tidy_139 rfl ?_
                        refine sx_aload_n dX12_tidy_141 rfl ?_
                        refine sx_getS (k := 78) (t := 271) cl_12 fl_X12_157 dX12_tidy_142 s_224 (by decide) rfl (by decide) ?_
                        refine sx_iconst dX12_tidy_145 ⟨by decide, by decide⟩ ?_
                        refine sx_iaload dX12_tidy_146 s_271 (by decide) (by decide) ⟨by omega, by omega⟩ ?_
                        refine sx_isub dX12_tidy_147 ?_
                        refine sx_iadd dX12_tidy_148 ?_
                        refine sy_top (fun v75 ev75 => ?_)
                        refine sx_istore_n dX12_tidy_149 (by decide) ?_
                        have jw8 : ∀ j : Nat, j < 7 → 1 ≤ h73 273 j ∧ h73 273 j ≤ 99001 := fun j hj => by rw [show h73 273 j = _ from Kh73.2 273 j rfl, show h71 273 j = _ from Kh71.2 273 j rfl, show h67 273 j = _ from Kh67.2 273 j rfl]; exact jw7 j hj
                        refine sx_iload dX12_tidy_150 rfl ?_
                        refine sx_iload dX12_tidy_152 rfl ?_
                        refine sx_if_le (tgt := 162) dX12_tidy_154 (by decide) (fun c76 => ?_) (fun c76 => ?_)
                        ·
                          refine sx_iconst dX12_tidy_162 ⟨by decide, by decide⟩ ?_
                          refine sx_iadd dX12_tidy_163 ?_
                          refine sy_topw (by omega) ?_
                          refine sy_top (fun v77 ev77 => ?_)
                          refine sx_istore dX12_tidy_164 (by decide) ?_
                          refine sx_goto (tgt := 41) dX12_tidy_166 (by decide) ?_
                          refine sx_kill 5 ?_
                          refine sx_kill 6 ?_
                          refine sx_kill 7 ?_
                          exact ihh9 _ _ _ ⟨Ih73, by omega, by omega, by exact jw8⟩ (by exact sy_dec (by omega) (by omega))
                        ·
                          refine sx_iload dX12_tidy_157 rfl ?_
                          refine sx_goto (tgt := 163) dX12_tidy_159 (by decide) ?_
                          refine sx_iadd dX12_tidy_163 ?_
                          refine sy_topw (by omega) ?_
                          refine sy_top (fun v78 ev78 => ?_)
                          refine sx_istore dX12_tidy_164 (by decide) ?_
                          refine sx_goto (tgt := 41) dX12_tidy_166 (by decide) ?_
                          refine sx_kill 5 ?_
                          refine sx_kill 6 ?_
                          refine sx_kill 7 ?_
                          exact ihh9 _ _ _ ⟨Ih73, by omega, by omega, by exact jw8⟩ (by exact sy_dec (by omega) (by omega))
                    ·
                      refine sx_aload_n dX12_tidy_85 rfl ?_
                      refine sx_iload_n dX12_tidy_86 rfl ?_
                      refine sx_iload dX12_tidy_87 rfl ?_
                      refine sx_iload dX12_tidy_89 rfl ?_
                      refine sx_callVi lk_X12_651 cl_12 s_224 (by decide) dX12_tidy_91 (vs := [_, _, _]) rfl rfl (Nat.le_of_ble_eq_true rfl) (Nat.le_of_ble_eq_true rfl) rfl (c_X12_runBy _ Ih60.1 _ _ _ (mC_mK Ih60 rfl rfl hJ hB.1) (by rw [Ih60.2 224 36 rfl, Ih60.2 227 _ rfl]; omega) (by rw [Ih60.2 224 36 rfl, Ih60.2 234 _ rfl]; omega) (by rw [Ih60.2 224 36 rfl, Ih60.2 233 _ rfl]; intro j q1 q2; rw [Ih60.2 241 _ rfl]; exact jsh j q1 q2)) (fun x80 h79 ph79 => ?_)
                      obtain ⟨Kh79, v_h79, n_h79⟩ := ph79
                      have Ih79 := Ih60.tr Kh79 (prW_sub rfl rfl)
                      have th79_224_83 := Kh79.2 224 83 rfl
                      refine sx_if_ge (tgt := 103) dX12_tidy_94 (by decide) (fun c81 => ?_) (fun c81 => ?_)
                      ·
                        refine sx_iload dX12_tidy_103 rfl ?_
                        refine sx_if_le (tgt := 150) dX12_tidy_105 (by decide) (fun c82 => ?_) (fun c82 => ?_)
                        ·
                          have jw8 : ∀ j : Nat, j < 7 → 1 ≤ h79 273 j ∧ h79 273 j ≤ 99001 := fun j hj => by rw [show h79 273 j = _ from Kh79.2 273 j rfl]; exact jw7 j hj
                          refine sx_iload dX12_tidy_150 rfl ?_
                          refine sx_iload dX12_tidy_152 rfl ?_
                          refine sx_if_le (tgt := 162) dX12_tidy_154 (by decide) (fun c83 => ?_) (fun c83 => ?_)
                          ·
                            refine sx_iconst dX12_tidy_162 ⟨by decide, by decide⟩ ?_
                            refine sx_iadd dX12_tidy_163 ?_
                            refine sy_topw (by omega) ?_
                            refine sy_top (fun v84 ev84 => ?_)
                            refine sx_istore dX12_tidy_164 (by decide) ?_
                            refine sx_goto (tgt := 41) dX12_tidy_166 (by decide) ?_
                            refine sx_kill 5 ?_
                            exact ihh9 _ _ _ ⟨Ih79, by omega, by omega, by exact jw8⟩ (by exact sy_dec (by omega) (by omega))
                          ·
                            refine sx_iload dX12_tidy_157 rfl ?_
                            refine sx_goto (tgt := 163) dX12_tidy_159 (by decide) ?_
                            refine sx_iadd dX12_tidy_163 ?_
                            refine sy_topw (by omega) ?_
                            refine sy_top (fun v85 ev85 => ?_)
                            refine sx_istore dX12_tidy_164 (by decide) ?_
                            refine sx_goto (tgt := 41) dX12_tidy_166 (by decide) ?_
                            refine sx_kill 5 ?_
                            exact ihh9 _ _ _ ⟨Ih79, by omega, by omega, by exact jw8⟩ (by exact sy_dec (by omega) (by omega))
                        ·
                          refine sx_aload_n dX12_tidy_108 rfl ?_
                          refine sx_iload_n dX12_tidy_109 rfl ?_
                          refine sx_iload dX12_tidy_110 rfl ?_
                          refine sx_iload dX12_tidy_112 rfl ?_
                          refine sx_callVi lk_X12_651 cl_12 s_224 (by decide) dX12_tidy_114 (vs := [_, _, _]) rfl rfl (Nat.le_of_ble_eq_true rfl) (Nat.le_of_ble_eq_true rfl) rfl (c_X12_runBy _ Ih79.1 _ _ _ (mC_mK Ih79 rfl rfl hJ hB.1) (by rw [Ih79.2 224 36 rfl, Ih79.2 227 _ rfl]; omega) (by rw [Ih79.2 224 36 rfl, Ih79.2 234 _ rfl]; omega) (by rw [Ih79.2 224 36 rfl, Ih79.2 233 _ rfl]; intro j q1 q2; rw [Ih79.2 241 _ rfl]; exact jsh j q1 q2)) (fun x87 h86 ph86 => ?_)
                          obtain ⟨Kh86, v_h86, n_h86⟩ := ph86
                          have Ih86 := Ih79.tr Kh86 (prW_sub rfl rfl)
                          have th86_224_83 := Kh86.2 224 83 rfl
                          refine sx_istore dX12_tidy_117 (by decide) ?_
                          have jw10 : ∀ j : Nat, j < 7 → 1 ≤ h86 273 j ∧ h86 273 j ≤ 99001 := fun j hj => by rw [show h86 273 j = _ from Kh86.2 273 j rfl, show h79 273 j = _ from Kh79.2 273 j rfl]; exact jw7 j hj
                          refine sx_aload_n dX12_tidy_119 rfl ?_
                          refine sx_aload_n dX12_tidy_120 rfl ?_
                          refine sx_getI (k := 84) cl_12 fl_X12_648 dX12_tidy_121 s_224 (by decide) rfl (by decide) ?_
                          refine sx_callSi lk_X12_629 dX12_tidy_124 (vs := [_]) rfl rfl (Nat.le_of_ble_eq_true rfl) (Nat.le_of_ble_eq_true rfl) rfl (c_X12_startOf _ Ih86.1 _) (fun x89 h88 ph88 => ?_)
                          obtain ⟨rfl, p_x89⟩ := ph88
                          have vs := V_start p_x89
                          refine sx_callVv lk_X12_632 cl_12 s_224 (by decide) dX12_tidy_127 (vs := [_]) rfl rfl (Nat.le_of_ble_eq_true rfl) (Nat.le_of_ble_eq_true rfl) rfl (c_X12_spreadFrom _ Ih86.1 _ (vs.1)) (fun h90 ph90 => ?_)
                          obtain ⟨Kh90, p_h90⟩ := ph90
                          have Ih90 := Ih86.tr Kh90 (prW_sub rfl rfl)
                          have th90_224_83 := Kh90.2 224 83 rfl
                          have th90_224_84 := Kh90.2 224 84 rfl
                          have WG1 : WG h90 := fun t ht => by rw [Kh90.2 273 t rfl]; exact jw10 t ht
                          refine sx_aload_n dX12_tidy_130 rfl ?_
                          refine sx_iload dX12_tidy_131 rfl ?_
                          refine sx_callVz lk_X12_635 cl_12 s_224 (by decide) dX12_tidy_133 (vs := [_]) rfl rfl (Nat.le_of_ble_eq_true rfl) (Nat.le_of_ble_eq_true rfl) rfl (c_X12_spreadTo _ Ih90.1 _ _ (p_h90) (WG1) (vs.2)) (fun x93 h92 zx93 ph92 => ?_)
                          obtain ⟨Kh92, r_h92⟩ := ph92
                          have Ih92 := Ih90.tr Kh92 (prW_sub rfl rfl)
                          have th92_224_83 := Kh92.2 224 83 rfl
                          have th92_224_84 := Kh92.2 224 84 rfl
                          refine sx_istore dX12_tidy_136 (by decide) ?_
                          refine sx_iload_n dX12_tidy_138 rfl ?_
                          refine sx_iload dX12_tidy_139 rfl ?_
                          refine sx_aload_n dX12_tidy_141 rfl ?_
                          refine sx_getS (k := 78) (t := 271) cl_12 fl_X12_157 dX12_tidy_142 s_224 (by decide) rfl (by decide) ?_
                          refine sx_iconst dX12_tidy_145 ⟨by decide, by decide⟩ ?_
                          refine sx_iaload dX12_tidy_146 s_271 (by decide) (by decide) ⟨by omega, by omega⟩ ?_
                          refine sx_isub dX12_tidy_147 ?_
                          refine sx_iadd dX12_tidy_148 ?_
                          refine sy_top (fun v94 ev94 => ?_)
                          refine sx_istore_n dX12_tidy_149 (by decide) ?_
                          have jw8 : ∀ j : Nat, j < 7 → 1 ≤ h92 273 j ∧ h92 273 j ≤ 99001 := fun j hj => by rw [show h92 273 j = _ from Kh92.2 273 j rfl, show h90 273 j = _ from Kh90.2 273 j rfl, show h86 273 j = _ from Kh86.2 273 j rfl, show h79 273 j = _ from Kh79.2 273 j rfl]; exact jw7 j hj
                          refine sx_iload dX12_tidy_150 rfl ?_
                          refine sx_iload dX12_tidy_152 rfl ?_
                          refine sx_if_le (tgt := 162) dX12_tidy_154 (by decide) (fun c95 => ?_) (fun c95 => ?_)
                          ·
                            refine sx_iconst dX12_tidy_162 ⟨by decide, by decide⟩ ?_
                            refine sx_iadd dX12_tidy_163 ?_
                            refine sy_topw (by omega) ?_
                            refine sy_top (fun v96 ev96 => ?_)
                            refine sx_istore dX12_tidy_164 (by decide) ?_
                            refine sx_goto (tgt := 41) dX12_tidy_166 (by decide) ?_
                            refine sx_kill 5 ?_
                            refine sx_kill 6 ?_
                            refine sx_kill 7 ?_
                            exact ihh9 _ _ _ ⟨Ih92, by omega, by omega, by exact jw8⟩ (by exact sy_dec (by omega) (by omega))
                          ·
                            refine sx_iload dX12_tidy_157 rfl ?_
                            refine sx_goto (tgt := 163) dX12_tidy_159 (by decide) ?_
                            refine sx_iadd dX12_tidy_163 ?_
                            refine sy_topw (by omega) ?_
                            refine sy_top (fun v97 ev97 => ?_)
                            refine sx_istore dX12_tidy_164 (by decide) ?_
                            refine sx_goto (tgt := 41) dX12_tidy_166 (by decide) ?_
                            refine sx_kill 5 ?_
                            refine sx_kill 6 ?_
                            refine sx_kill 7 ?_
                            exact ihh9 _ _ _ ⟨Ih92, by omega, by omega, by exact jw8⟩ (by exact sy_dec (by omega) (by omega))
                      ·
                        have jw9 : ∀ j : Nat, j < 7 → 1 ≤ h79 273 j ∧ h79 273 j ≤ 99001 := fun j hj => by rw [Kh79.2 273 j rfl]; exact jw7 j hj
                        refine sx_iinc dX12_tidy_97 (by decide) rfl ?_
                        rw [sw_w_id (by omega) (by omega)]
                        refine sx_goto (tgt := 80) dX12_tidy_100 (by decide) ?_
                        exact ihh60 _ _ ⟨Ih79, by omega, by omega, by omega, by exact fun j q1 q2 => jsh j q1 (by omega), by exact jw9⟩ (by exact sy_dec (by omega) (by omega))
                  · exact ⟨Ih9, by omega, by omega, by omega, by exact jsh, by exact jw7⟩
                ·
                  have vx58 : x58 = 1 := by rcases zx58 with q | q; (exact absurd q c59); exact q
                  clear zx58
                  have hsz := hsz0 (by omega)
                  have jsh2 : ∀ j : Int, i_11 ≤ j → j < i_11 + (n_17 + 1) → 0 ≤ h0 241 (60 * h0 224 36 + h0 233 (6 * h0 224 36 + y1).toNat + j).toNat ∧ h0 241 (60 * h0 224 36 + h0 233 (6 * h0 224 36 + y1).toNat + j).toNat < 7 := fun j q1 q2 => by by_cases q : j = i_11 + n_17; (rw [q]; exact ⟨(show (0 : Int) ≤ _ ∧ _ ≤ (9999 : Int) from hJ 241 _).1, hsz.2.2⟩); exact jsh j q1 (by omega)
                  refine sx_iinc dX12_tidy_74 (by decide) rfl ?_
                  rw [sw_w_id (by omega) (by omega)]
                  refine sx_goto (tgt := 54) dX12_tidy_77 (by decide) ?_
                  exact ihh16 _ _ ⟨rfl, by omega, by omega, by omega, by exact jsh2⟩ (by exact sy_dec (by omega) (by omega))
            · exact ⟨rfl, by omega, by omega, by omega, by (intro j q1 q2; omega)⟩
        · exact ⟨Ih4, by omega, by omega, by exact fun j hj => jw j (by omega)⟩
      ·
        refine sx_aload_n dX12_tidy_18 rfl ?_
        refine sx_getS (k := 81) (t := 273) cl_12 fl_X12_163 dX12_tidy_19 s_224 (by decide) rfl (by decide) ?_
        refine sx_iload_n dX12_tidy_22 rfl ?_
        refine sx_iconst dX12_tidy_23 ⟨by decide, by decide⟩ ?_
        refine sy_iastore dX12_tidy_24 s_273 (by decide) (by decide) ⟨by omega, by omega⟩ (fun h98 eh98 => ?_)
        have Ih98 := Ih4.up eh98 trivial rfl
        have th98_224_83 := eh98.2 (224) 83 (fun q => absurd q.1 (by decide))
        have th98_224_84 := eh98.2 (224) 84 (fun q => absurd q.1 (by decide))
        have jw2 : ∀ j : Nat, (j : Int) < t_5 + 1 → 1 ≤ h98 273 j ∧ h98 273 j ≤ 99001 := fun j hj => by rw [eh98.at 273 j]; simp only [true_and]; by_cases q : j = (t_5).toNat; (rw [if_pos q]; omega); (rw [if_neg q]; exact jw j (by omega))
        refine sx_iinc dX12_tidy_25 (by decide) rfl ?_
        rw [sw_w_id (by omega) (by omega)]
        refine sx_goto (tgt := 12) dX12_tidy_28 (by decide) ?_
        exact ihh4 _ _ ⟨Ih98, by omega, by exact jw2⟩ (by exact sy_dec (by omega) (by omega))
    · exact ⟨hI, by omega, by (intro j hj; omega)⟩
  ·
    replace p_x2 := mt p_x2.mpr (show ¬ (x2 = 1) by rw [c3]; decide)
    clear zx2
    refine sx_iconst dX12_tidy_8 ⟨by decide, by decide⟩ ?_
    refine sx_ireturn dX12_tidy_9 ?_
    exact ⟨_, rfl, ⟨hI, mB_mK hI rfl rfl hJ hB, hI.2 224 100 rfl, by first | omega | (exfalso; omega)⟩⟩
set_option maxRecDepth 20000 in
set_option maxHeartbeats 4000000 in
theorem f_X12_time {G : sw_G} (d : Nat) {h0 : sw_H} (hJ : mI h0) (y1 y2 : Int) (hB : mB h0)  (hF : FM h0) : sw_E G NH SH (d + 5) mX12_time 0 [some (sw_r 224), some (sw_i y1), some (sw_i y2)] [] h0 (sw_Qi (fun z h' => mK (prW [59, 60] [251, 275, 276, 277]) h0 h' ∧ (mB h') ∧ (h' 224 100 = h0 224 100) ∧ (z = -1))) := by
  obtain ⟨b0, r0, t2, k4, k5, a3, a4, l3, s9, t0, z7, z8, z9, z10, z12, z61, z89⟩ := hF
  have fw : h0 227 (h0 224 36).toNat = 0 := z7 _
  have hI : mK (prW [59, 60] [251, 275, 276, 277]) h0 h0 := mK.refl hJ
  refine sx_aload_n dX12_time_0 rfl ?_
  refine sx_iload_n dX12_time_1 rfl ?_
  refine sx_callVz lk_X12_570 cl_12 s_224 (by decide) dX12_time_2 (vs := [_]) rfl rfl (Nat.le_of_ble_eq_true rfl) (Nat.le_of_ble_eq_true rfl) rfl (c_X12_isOne _ hI.1 _) (fun x2 h1 zx2 ph1 => ?_)
  obtain ⟨rfl, p_x2⟩ := ph1
  refine sx_if_eq (tgt := 25) dX12_time_5 (by decide) (fun c3 => ?_) (fun c3 => ?_)
  ·
    replace p_x2 := mt p_x2.mpr (show ¬ (x2 = 1) by rw [c3]; decide)
    clear zx2
    refine sx_iconst dX12_time_25 ⟨by decide, by decide⟩ ?_
    refine sx_ireturn dX12_time_26 ?_
    exact ⟨_, rfl, ⟨hI, mB_mK hI rfl rfl hJ hB, hI.2 224 100 rfl, by first | omega | (exfalso; omega)⟩⟩
  ·
    have vx2 : x2 = 1 := by rcases zx2 with q | q; (exact absurd q c3); exact q
    replace p_x2 := p_x2.mp vx2
    clear zx2
    refine sx_aload_n dX12_time_8 rfl ?_
    refine sx_iload_n dX12_time_9 rfl ?_
    refine sx_callVz lk_X12_667 cl_12 s_224 (by decide) dX12_time_10 (vs := [_]) rfl rfl (Nat.le_of_ble_eq_true rfl) (Nat.le_of_ble_eq_true rfl) rfl (c_X12_isForm _ hI.1 _) (fun x5 h4 zx5 ph4 => ?_)
    obtain ⟨rfl, p_x5⟩ := ph4
    refine sx_if_eq (tgt := 25) dX12_time_13 (by decide) (fun c6 => ?_) (fun c6 => ?_)
    ·
      replace p_x5 := mt p_x5.mpr (show ¬ (x5 = 1) by rw [c6]; decide)
      clear zx5
      refine sx_iconst dX12_time_25 ⟨by decide, by decide⟩ ?_
      refine sx_ireturn dX12_time_26 ?_
      exact ⟨_, rfl, ⟨hI, mB_mK hI rfl rfl hJ hB, hI.2 224 100 rfl, by first | omega | (exfalso; omega)⟩⟩
    ·
      have vx5 : x5 = 1 := by rcases zx5 with q | q; (exact absurd q c6); exact q
      replace p_x5 := p_x5.mp vx5
      clear zx5
      refine sx_aload_n dX12_time_16 rfl ?_
      refine sx_iload_n dX12_time_17 rfl ?_
      refine sx_iload_n dX12_time_18 rfl ?_
      refine sx_callVi lk_X12_670 cl_12 s_224 (by decide) dX12_time_19 (vs := [_, _]) rfl rfl (Nat.le_of_ble_eq_true rfl) (Nat.le_of_ble_eq_true rfl) rfl (c_X12_timeBy _ hI.1 _ _ (hB.1) (by omega)) (fun x8 h7 ph7 => ?_)
      have Kh7 := ph7
      have Ih7 := hI.tr Kh7 (prW_sub rfl rfl)
      have th7_224_71 := Kh7.2 224 71 rfl
      have th7_224_73 := Kh7.2 224 73 rfl
      have th7_224_74 := Kh7.2 224 74 rfl
      have th7_224_85 := Kh7.2 224 85 rfl
      have th7_224_100 := Kh7.2 224 100 rfl
      refine sx_goto (tgt := 26) dX12_time_22 (by decide) ?_
      refine sx_ireturn dX12_time_26 ?_
      exact ⟨_, rfl, ⟨Ih7, mB_mK Ih7 rfl rfl hJ hB, Ih7.2 224 100 rfl, by first | omega | (exfalso; omega)⟩⟩
set_option maxRecDepth 20000 in
set_option maxHeartbeats 4000000 in
theorem f_X12_room {G : sw_G} (d : Nat) {h0 : sw_H} (hJ : mI h0) (y1 y2 : Int) (hB : mB h0)  (hF : FM h0) : sw_E G NH SH (d + 4) mX12_room 0 [some (sw_r 224), some (sw_i y1), some (sw_i y2)] [] h0 (sw_Qi (fun z h' => mK (prW [] [278]) h0 h' ∧ (mB h') ∧ (h' 224 100 = h0 224 100) ∧ (z = -1))) := by
  obtain ⟨b0, r0, t2, k4, k5, a3, a4, l3, s9, t0, z7, z8, z9, z10, z12, z61, z89⟩ := hF
  have fw : h0 227 (h0 224 36).toNat = 0 := z7 _
  have hI : mK (prW [] [278]) h0 h0 := mK.refl hJ
  refine sx_aload_n dX12_room_0 rfl ?_
  refine sx_iload_n dX12_room_1 rfl ?_
  refine sx_callVz lk_X12_570 cl_12 s_224 (by decide) dX12_room_2 (vs := [_]) rfl rfl (Nat.le_of_ble_eq_true rfl) (Nat.le_of_ble_eq_true rfl) rfl (c_X12_isOne _ hI.1 _) (fun x2 h1 zx2 ph1 => ?_)
  obtain ⟨rfl, p_x2⟩ := ph1
  refine sx_if_eq (tgt := 25) dX12_room_5 (by decide) (fun c3 => ?_) (fun c3 => ?_)
  ·
    replace p_x2 := mt p_x2.mpr (show ¬ (x2 = 1) by rw [c3]; decide)
    clear zx2
    refine sx_iconst dX12_room_25 ⟨by decide, by decide⟩ ?_
    refine sx_ireturn dX12_room_26 ?_
    exact ⟨_, rfl, ⟨hI, mB_mK hI rfl rfl hJ hB, hI.2 224 100 rfl, by first | omega | (exfalso; omega)⟩⟩
  ·
    have vx2 : x2 = 1 := by rcases zx2 with q | q; (exact absurd q c3); exact q
    replace p_x2 := p_x2.mp vx2
    clear zx2
    refine sx_aload_n dX12_room_8 rfl ?_
    refine sx_iload_n dX12_room_9 rfl ?_
    refine sx_callVz lk_X12_667 cl_12 s_224 (by decide) dX12_room_10 (vs := [_]) rfl rfl (Nat.le_of_ble_eq_true rfl) (Nat.le_of_ble_eq_true rfl) rfl (c_X12_isForm _ hI.1 _) (fun x5 h4 zx5 ph4 => ?_)
    obtain ⟨rfl, p_x5⟩ := ph4
    refine sx_if_eq (tgt := 25) dX12_room_13 (by decide) (fun c6 => ?_) (fun c6 => ?_)
    ·
      replace p_x5 := mt p_x5.mpr (show ¬ (x5 = 1) by rw [c6]; decide)
      clear zx5
      refine sx_iconst dX12_room_25 ⟨by decide, by decide⟩ ?_
      refine sx_ireturn dX12_room_26 ?_
      exact ⟨_, rfl, ⟨hI, mB_mK hI rfl rfl hJ hB, hI.2 224 100 rfl, by first | omega | (exfalso; omega)⟩⟩
    ·
      have vx5 : x5 = 1 := by rcases zx5 with q | q; (exact absurd q c6); exact q
      replace p_x5 := p_x5.mp vx5
      clear zx5
      refine sx_aload_n dX12_room_16 rfl ?_
      refine sx_iload_n dX12_room_17 rfl ?_
      refine sx_iload_n dX12_room_18 rfl ?_
      refine sx_callVi lk_X12_673 cl_12 s_224 (by decide) dX12_room_19 (vs := [_, _]) rfl rfl (Nat.le_of_ble_eq_true rfl) (Nat.le_of_ble_eq_true rfl) rfl (c_X12_roomBy _ hI.1 _ _ (hB.1) (by omega)) (fun x8 h7 ph7 => ?_)
      have Kh7 := ph7
      have Ih7 := hI.tr Kh7 (prW_sub rfl rfl)
      have th7_224_71 := Kh7.2 224 71 rfl
      have th7_224_73 := Kh7.2 224 73 rfl
      have th7_224_74 := Kh7.2 224 74 rfl
      have th7_224_85 := Kh7.2 224 85 rfl
      have th7_224_100 := Kh7.2 224 100 rfl
      refine sx_goto (tgt := 26) dX12_room_22 (by decide) ?_
      refine sx_ireturn dX12_room_26 ?_
      exact ⟨_, rfl, ⟨Ih7, mB_mK Ih7 rfl rfl hJ hB, Ih7.2 224 100 rfl, by first | omega | (exfalso; omega)⟩⟩
set_option maxRecDepth 20000 in
set_option maxHeartbeats 4000000 in
theorem f_X12_best {G : sw_G} (d : Nat) {h0 : sw_H} (hJ : mI h0) (y1 : Int) (hB : mB h0)  (hF : FM h0) : sw_E G NH SH (d + 5) mX12_best 0 [some (sw_r 224), some (sw_i y1), none, none, none] [] h0 (sw_Qi (fun z h' => mK (prW [59, 60] [251, 275, 276, 277, 278]) h0 h' ∧ (mB h') ∧ (h' 224 100 = h0 224 100) ∧ (z = -1))) := by
  obtain ⟨b0, r0, t2, k4, k5, a3, a4, l3, s9, t0, z7, z8, z9, z10, z12, z61, z89⟩ := hF
  have fw : h0 227 (h0 224 36).toNat = 0 := z7 _
  have hI : mK (prW [59, 60] [251, 275, 276, 277, 278]) h0 h0 := mK.refl hJ
  refine sx_aload_n dX12_best_0 rfl ?_
  refine sx_iload_n dX12_best_1 rfl ?_
  refine sx_callVz lk_X12_570 cl_12 s_224 (by decide) dX12_best_2 (vs := [_]) rfl rfl (Nat.le_of_ble_eq_true rfl) (Nat.le_of_ble_eq_true rfl) rfl (c_X12_isOne _ hI.1 _) (fun x2 h1 zx2 ph1 => ?_)
  obtain ⟨rfl, p_x2⟩ := ph1
  refine sx_if_ne (tgt := 10) dX12_best_5 (by decide) (fun c3 => ?_) (fun c3 => ?_)
  ·
    have vx2 : x2 = 1 := by rcases zx2 with q | q; (exact absurd q c3); exact q
    replace p_x2 := p_x2.mp vx2
    clear zx2
    refine sx_iconst dX12_best_10 ⟨by decide, by decide⟩ ?_
    refine sx_istore_n dX12_best_11 (by decide) ?_
    refine sx_iconst dX12_best_12 ⟨by decide, by decide⟩ ?_
    refine sx_istore_n dX12_best_13 (by decide) ?_
    refine sx_loop2 (fun (h : sw_H) (its : Int) (f : Int) => (mK (prW [59, 60] [251, 275, 276, 277, 278]) h0 h) ∧ (0 ≤ f)) (fun (h : sw_H) (its : Int) (f : Int) => (10 - f).toNat) (fun (h : sw_H) (its : Int) (f : Int) => sw_E G NH SH (d + 5) mX12_best 14 [some (sw_r 224), some (sw_i y1), some (sw_i its), some (sw_i f), none] [] h (sw_Qi (fun z h' => mK (prW [59, 60] [251, 275, 276, 277, 278]) h0 h' ∧ (mB h') ∧ (h' 224 100 = h0 224 100) ∧ (z = -1)))) ?_ _ _ _ ?_
    · rintro h4 its_5 f_6 ⟨Ih4, j7⟩ ihh4
      try dsimp only at ihh4
      refine sx_iload_n dX12_best_14 rfl ?_
      refine sx_iconst dX12_best_15 ⟨by decide, by decide⟩ ?_
      refine sx_icmp_ge (tgt := 67) dX12_best_16 (by decide) (fun c8 => ?_) (fun c8 => ?_)
      ·
        refine sx_iload_n dX12_best_67 rfl ?_
        refine sx_ireturn dX12_best_68 ?_
        exact ⟨_, rfl, ⟨Ih4, mB_mK Ih4 rfl rfl hJ hB, Ih4.2 224 100 rfl, by first | omega | (exfalso; omega)⟩⟩
      ·
        refine sx_aload_n dX12_best_19 rfl ?_
        refine sx_iload_n dX12_best_20 rfl ?_
        refine sx_iload_n dX12_best_21 rfl ?_
        refine sx_callVi lk_X12_670 cl_12 s_224 (by decide) dX12_best_22 (vs := [_, _]) rfl rfl (Nat.le_of_ble_eq_true rfl) (Nat.le_of_ble_eq_true rfl) rfl (c_X12_timeBy _ Ih4.1 _ _ (mC_mK Ih4 rfl rfl hJ hB.1) (by rw [Ih4.2 224 36 rfl, Ih4.2 227 _ rfl]; omega)) (fun x10 h9 ph9 => ?_)
        have Kh9 := ph9
        have Ih9 := Ih4.tr Kh9 (prW_sub rfl rfl)
        have th9_224_71 := Kh9.2 224 71 rfl
        have th9_224_73 := Kh9.2 224 73 rfl
        have th9_224_74 := Kh9.2 224 74 rfl
        have th9_224_85 := Kh9.2 224 85 rfl
        have th9_224_100 := Kh9.2 224 100 rfl
        refine sx_aload_n dX12_best_25 rfl ?_
        refine sx_iload_n dX12_best_26 rfl ?_
        refine sx_iload_n dX12_best_27 rfl ?_
        refine sx_callVi lk_X12_670 cl_12 s_224 (by decide) dX12_best_28 (vs := [_, _]) rfl rfl (Nat.le_of_ble_eq_true rfl) (Nat.le_of_ble_eq_true rfl) rfl (c_X12_timeBy _ Ih9.1 _ _ (mC_mK Ih9 rfl rfl hJ hB.1) (by rw [Ih9.2 224 36 rfl, Ih9.2 227 _ rfl]; omega)) (fun x12 h11 ph11 => ?_)
        have Kh11 := ph11
        have Ih11 := Ih9.tr Kh11 (prW_sub rfl rfl)
        have th11_224_71 := Kh11.2 224 71 rfl
        have th11_224_73 := Kh11.2 224 73 rfl
        have th11_224_74 := Kh11.2 224 74 rfl
        have th11_224_85 := Kh11.2 224 85 rfl
        have th11_224_100 := Kh11.2 224 100 rfl
        refine sx_isub dX12_best_31 ?_
        refine sy_top (fun v13 ev13 => ?_)
        refine sx_istore dX12_best_32 (by decide) ?_
        refine sx_iload dX12_best_34 rfl ?_
        refine sx_if_gt (tgt := 59) dX12_best_36 (by decide) (fun c14 => ?_) (fun c14 => ?_)
        ·
          refine sx_iload_n dX12_best_59 rfl ?_
          refine sx_istore_n dX12_best_60 (by decide) ?_
          refine sx_iinc dX12_best_61 (by decide) rfl ?_
          rw [sw_w_id (by omega) (by omega)]
          refine sx_goto (tgt := 14) dX12_best_64 (by decide) ?_
          refine sx_kill 4 ?_
          exact ihh4 _ _ _ ⟨Ih11, by omega⟩ (by exact sy_dec (by omega) (by omega))
        ·
          refine sx_iload dX12_best_39 rfl ?_
          refine sx_if_ne (tgt := 61) dX12_best_41 (by decide) (fun c15 => ?_) (fun c15 => ?_)
          ·
            refine sx_iinc dX12_best_61 (by decide) rfl ?_
            rw [sw_w_id (by omega) (by omega)]
            refine sx_goto (tgt := 14) dX12_best_64 (by decide) ?_
            refine sx_kill 4 ?_
            exact ihh4 _ _ _ ⟨Ih11, by omega⟩ (by exact sy_dec (by omega) (by omega))
          ·
            refine sx_aload_n dX12_best_44 rfl ?_
            refine sx_iload_n dX12_best_45 rfl ?_
            refine sx_iload_n dX12_best_46 rfl ?_
            refine sx_callVi lk_X12_673 cl_12 s_224 (by decide) dX12_best_47 (vs := [_, _]) rfl rfl (Nat.le_of_ble_eq_true rfl) (Nat.le_of_ble_eq_true rfl) rfl (c_X12_roomBy _ Ih11.1 _ _ (mC_mK Ih11 rfl rfl hJ hB.1) (by rw [Ih11.2 224 36 rfl, Ih11.2 227 _ rfl]; omega)) (fun x17 h16 ph16 => ?_)
            have Kh16 := ph16
            have Ih16 := Ih11.tr Kh16 (prW_sub rfl rfl)
            have th16_224_71 := Kh16.2 224 71 rfl
            have th16_224_73 := Kh16.2 224 73 rfl
            have th16_224_74 := Kh16.2 224 74 rfl
            have th16_224_85 := Kh16.2 224 85 rfl
            have th16_224_100 := Kh16.2 224 100 rfl
            refine sx_aload_n dX12_best_50 rfl ?_
            refine sx_iload_n dX12_best_51 rfl ?_
            refine sx_iload_n dX12_best_52 rfl ?_
            refine sx_callVi lk_X12_673 cl_12 s_224 (by decide) dX12_best_53 (vs := [_, _]) rfl rfl (Nat.le_of_ble_eq_true rfl) (Nat.le_of_ble_eq_true rfl) rfl (c_X12_roomBy _ Ih16.1 _ _ (mC_mK Ih16 rfl rfl hJ hB.1) (by rw [Ih16.2 224 36 rfl, Ih16.2 227 _ rfl]; omega)) (fun x19 h18 ph18 => ?_)
            have Kh18 := ph18
            have Ih18 := Ih16.tr Kh18 (prW_sub rfl rfl)
            have th18_224_71 := Kh18.2 224 71 rfl
            have th18_224_73 := Kh18.2 224 73 rfl
            have th18_224_74 := Kh18.2 224 74 rfl
            have th18_224_85 := Kh18.2 224 85 rfl
            have th18_224_100 := Kh18.2 224 100 rfl
            refine sx_icmp_ge (tgt := 61) dX12_best_56 (by decide) (fun c20 => ?_) (fun c20 => ?_)
            ·
              refine sx_iinc dX12_best_61 (by decide) rfl ?_
              rw [sw_w_id (by omega) (by omega)]
              refine sx_goto (tgt := 14) dX12_best_64 (by decide) ?_
              refine sx_kill 4 ?_
              exact ihh4 _ _ _ ⟨Ih18, by omega⟩ (by exact sy_dec (by omega) (by omega))
            ·
              refine sx_iload_n dX12_best_59 rfl ?_
              refine sx_istore_n dX12_best_60 (by decide) ?_
              refine sx_iinc dX12_best_61 (by decide) rfl ?_
              rw [sw_w_id (by omega) (by omega)]
              refine sx_goto (tgt := 14) dX12_best_64 (by decide) ?_
              refine sx_kill 4 ?_
              exact ihh4 _ _ _ ⟨Ih18, by omega⟩ (by exact sy_dec (by omega) (by omega))
    · exact ⟨hI, by omega⟩
  ·
    replace p_x2 := mt p_x2.mpr (show ¬ (x2 = 1) by rw [c3]; decide)
    clear zx2
    refine sx_iconst dX12_best_8 ⟨by decide, by decide⟩ ?_
    refine sx_ireturn dX12_best_9 ?_
    exact ⟨_, rfl, ⟨hI, mB_mK hI rfl rfl hJ hB, hI.2 224 100 rfl, by first | omega | (exfalso; omega)⟩⟩
set_option maxRecDepth 20000 in
set_option maxHeartbeats 4000000 in
theorem f_X12_calls {G : sw_G} (d : Nat) {h0 : sw_H} (hJ : mI h0) (y1 : Int) (hB : mB h0)  (hF : FM h0) : sw_E G NH SH (d + 2) mX12_calls 0 [some (sw_r 224), some (sw_i y1), none, none] [] h0 (sw_Qi (fun z h' => h0 = h' ∧ (z = -1))) := by
  obtain ⟨b0, r0, t2, k4, k5, a3, a4, l3, s9, t0, z7, z8, z9, z10, z12, z61, z89⟩ := hF
  have fw : h0 227 (h0 224 36).toNat = 0 := z7 _
  have hI : mK (prW [] []) h0 h0 := mK.refl hJ
  refine sx_aload_n dX12_calls_0 rfl ?_
  refine sx_iload_n dX12_calls_1 rfl ?_
  refine sx_callVz lk_X12_570 cl_12 s_224 (by decide) dX12_calls_2 (vs := [_]) rfl rfl (Nat.le_of_ble_eq_true rfl) (Nat.le_of_ble_eq_true rfl) rfl (c_X12_isOne _ hI.1 _) (fun x2 h1 zx2 ph1 => ?_)
  obtain ⟨rfl, p_x2⟩ := ph1
  refine sx_if_ne (tgt := 10) dX12_calls_5 (by decide) (fun c3 => ?_) (fun c3 => ?_)
  ·
    have vx2 : x2 = 1 := by rcases zx2 with q | q; (exact absurd q c3); exact q
    replace p_x2 := p_x2.mp vx2
    clear zx2
    obtain ⟨wr1, wr2, wr3, wr4⟩ := mC_w hB.1 hJ (w := y1) (by omega) (by omega)
    have rb36 : (0 : Int) ≤ h0 224 36 ∧ h0 224 36 ≤ 1 := hJ 224 36
    refine sx_iconst dX12_calls_10 ⟨by decide, by decide⟩ ?_
    refine sx_istore_n dX12_calls_11 (by decide) ?_
    refine sx_iconst dX12_calls_12 ⟨by decide, by decide⟩ ?_
    refine sx_istore_n dX12_calls_13 (by decide) ?_
    refine sx_loop2 (fun (h : sw_H) (set : Int) (i : Int) => (h0 = h) ∧ (0 ≤ i)) (fun (h : sw_H) (set : Int) (i : Int) => (60 - i).toNat) (fun (h : sw_H) (set : Int) (i : Int) => sw_E G NH SH (d + 2) mX12_calls 14 [some (sw_r 224), some (sw_i y1), some (sw_i set), some (sw_i i)] [] h (sw_Qi (fun z h' => h0 = h' ∧ (z = -1)))) ?_ _ _ _ ?_
    · rintro h4 set_5 i_6 ⟨rfl, j7⟩ ihh4
      try dsimp only at ihh4
      refine sx_iload_n dX12_calls_14 rfl ?_
      refine sx_aload_n dX12_calls_15 rfl ?_
      refine sx_iload_n dX12_calls_16 rfl ?_
      refine sx_callVi lk_X12_546 cl_12 s_224 (by decide) dX12_calls_17 (vs := [_]) rfl rfl (Nat.le_of_ble_eq_true rfl) (Nat.le_of_ble_eq_true rfl) rfl (c_X12_manyIn _ hI.1 _ (by first | omega | (rw [Int.tmod_eq_emod_of_nonneg (by omega)]; omega) | (rw [Int.tdiv_eq_ediv_of_nonneg (by omega)]; omega))) (fun x9 h8 ph8 => ?_)
      obtain ⟨rfl, p_x9⟩ := ph8
      refine sx_icmp_ge (tgt := 60) dX12_calls_20 (by decide) (fun c10 => ?_) (fun c10 => ?_)
      ·
        refine sx_iload_n dX12_calls_60 rfl ?_
        refine sx_ireturn dX12_calls_61 ?_
        exact ⟨_, rfl, ⟨rfl, by first | omega | (exfalso; omega)⟩⟩
      ·
        refine sx_aload_n dX12_calls_23 rfl ?_
        refine sx_getS (k := 24) (t := 240) cl_12 fl_X12_60 dX12_calls_24 s_224 (by decide) rfl (by decide) ?_
        refine sx_aload_n dX12_calls_27 rfl ?_
        refine sx_iload_n dX12_calls_28 rfl ?_
        refine sx_iload_n dX12_calls_29 rfl ?_
        refine sx_callVi lk_X12_519 cl_12 s_224 (by decide) dX12_calls_30 (vs := [_, _]) rfl rfl (Nat.le_of_ble_eq_true rfl) (Nat.le_of_ble_eq_true rfl) rfl (c_X12_itemOf _ hI.1 _ _ (by first | omega | (rw [Int.tmod_eq_emod_of_nonneg (by omega)]; omega) | (rw [Int.tdiv_eq_ediv_of_nonneg (by omega)]; omega)) (by first | omega | (rw [Int.tmod_eq_emod_of_nonneg (by omega)]; omega) | (rw [Int.tdiv_eq_ediv_of_nonneg (by omega)]; omega))) (fun x12 h11 ph11 => ?_)
        obtain ⟨rfl, p_x12⟩ := ph11
        refine sy_iaF (F := fun z => (0 : Int) ≤ z ∧ z ≤ 7) dX12_calls_33 s_240 (by decide) (by decide) ⟨by omega, by omega⟩ (hI.1 240 _) (fun r13 => ?_)
        refine sx_iconst dX12_calls_34 ⟨by decide, by decide⟩ ?_
        refine sx_icmp_ne (tgt := 54) dX12_calls_35 (by decide) (fun c14 => ?_) (fun c14 => ?_)
        ·
          refine sx_iinc dX12_calls_54 (by decide) rfl ?_
          rw [sw_w_id (by omega) (by omega)]
          refine sx_goto (tgt := 14) dX12_calls_57 (by decide) ?_
          exact ihh4 _ _ _ ⟨rfl, by omega⟩ (by exact sy_dec (by omega) (by omega))
        ·
          refine sx_iload_n dX12_calls_38 rfl ?_
          refine sx_iconst dX12_calls_39 ⟨by decide, by decide⟩ ?_
          refine sx_aload_n dX12_calls_40 rfl ?_
          refine sx_getS (k := 25) (t := 241) cl_12 fl_X12_63 dX12_calls_41 s_224 (by decide) rfl (by decide) ?_
          refine sx_aload_n dX12_calls_44 rfl ?_
          refine sx_iload_n dX12_calls_45 rfl ?_
          refine sx_iload_n dX12_calls_46 rfl ?_
          refine sx_callVi lk_X12_519 cl_12 s_224 (by decide) dX12_calls_47 (vs := [_, _]) rfl rfl (Nat.le_of_ble_eq_true rfl) (Nat.le_of_ble_eq_true rfl) rfl (c_X12_itemOf _ hI.1 _ _ (by first | omega | (rw [Int.tmod_eq_emod_of_nonneg (by omega)]; omega) | (rw [Int.tdiv_eq_ediv_of_nonneg (by omega)]; omega)) (by first | omega | (rw [Int.tmod_eq_emod_of_nonneg (by omega)]; omega) | (rw [Int.tdiv_eq_ediv_of_nonneg (by omega)]; omega))) (fun x16 h15 ph15 => ?_)
          obtain ⟨rfl, p_x16⟩ := ph15
          refine sy_iaF (F := fun z => (0 : Int) ≤ z ∧ z ≤ 9999) dX12_calls_50 s_241 (by decide) (by decide) ⟨by omega, by omega⟩ (hI.1 241 _) (fun r17 => ?_)
          refine sx_ishl dX12_calls_51 ?_
          refine sx_ior dX12_calls_52 ?_
          refine sy_top (fun v18 ev18 => ?_)
          refine sx_istore_n dX12_calls_53 (by decide) ?_
          refine sx_iinc dX12_calls_54 (by decide) rfl ?_
          rw [sw_w_id (by omega) (by omega)]
          refine sx_goto (tgt := 14) dX12_calls_57 (by decide) ?_
          exact ihh4 _ _ _ ⟨rfl, by omega⟩ (by exact sy_dec (by omega) (by omega))
    · exact ⟨rfl, by omega⟩
  ·
    replace p_x2 := mt p_x2.mpr (show ¬ (x2 = 1) by rw [c3]; decide)
    clear zx2
    refine sx_iconst dX12_calls_8 ⟨by decide, by decide⟩ ?_
    refine sx_ireturn dX12_calls_9 ?_
    exact ⟨_, rfl, ⟨rfl, by first | omega | (exfalso; omega)⟩⟩
set_option maxRecDepth 20000 in
set_option maxHeartbeats 4000000 in
theorem f_X12_callers {G : sw_G} (d : Nat) {h0 : sw_H} (hJ : mI h0) (y1 : Int) (hB : mB h0)  (hF : FM h0) : sw_E G NH SH (d + 3) mX12_callers 0 [some (sw_r 224), some (sw_i y1), none, none] [] h0 (sw_Qi (fun z h' => h0 = h' ∧ (z = -1))) := by
  obtain ⟨b0, r0, t2, k4, k5, a3, a4, l3, s9, t0, z7, z8, z9, z10, z12, z61, z89⟩ := hF
  have fw : h0 227 (h0 224 36).toNat = 0 := z7 _
  have hI : mK (prW [] []) h0 h0 := mK.refl hJ
  refine sx_aload_n dX12_callers_0 rfl ?_
  refine sx_iload_n dX12_callers_1 rfl ?_
  refine sx_callVz lk_X12_570 cl_12 s_224 (by decide) dX12_callers_2 (vs := [_]) rfl rfl (Nat.le_of_ble_eq_true rfl) (Nat.le_of_ble_eq_true rfl) rfl (c_X12_isOne _ hI.1 _) (fun x2 h1 zx2 ph1 => ?_)
  obtain ⟨rfl, p_x2⟩ := ph1
  refine sx_if_ne (tgt := 10) dX12_callers_5 (by decide) (fun c3 => ?_) (fun c3 => ?_)
  ·
    have vx2 : x2 = 1 := by rcases zx2 with q | q; (exact absurd q c3); exact q
    replace p_x2 := p_x2.mp vx2
    clear zx2
    obtain ⟨wr1, wr2, wr3, wr4⟩ := mC_w hB.1 hJ (w := y1) (by omega) (by omega)
    have rb36 : (0 : Int) ≤ h0 224 36 ∧ h0 224 36 ≤ 1 := hJ 224 36
    refine sx_iconst dX12_callers_10 ⟨by decide, by decide⟩ ?_
    refine sx_iload_n dX12_callers_11 rfl ?_
    refine sx_ishl dX12_callers_12 ?_
    refine sy_top (fun v4 ev4 => ?_)
    refine sx_istore_n dX12_callers_13 (by decide) ?_
    refine sx_iload_n dX12_callers_14 rfl ?_
    refine sx_iconst dX12_callers_15 ⟨by decide, by decide⟩ ?_
    refine sx_iadd dX12_callers_16 ?_
    refine sy_topw (by omega) ?_
    refine sy_top (fun v5 ev5 => ?_)
    refine sx_istore_n dX12_callers_17 (by decide) ?_
    refine sx_loop2 (fun (h : sw_H) (set : Int) (k : Int) => (h0 = h) ∧ (0 ≤ k) ∧ (k ≤ 6)) (fun (h : sw_H) (set : Int) (k : Int) => (10 - k).toNat) (fun (h : sw_H) (set : Int) (k : Int) => sw_E G NH SH (d + 3) mX12_callers 18 [some (sw_r 224), some (sw_i y1), some (sw_i set), some (sw_i k)] [] h (sw_Qi (fun z h' => h0 = h' ∧ (z = -1)))) ?_ _ _ _ ?_
    · rintro h6 set_7 k_8 ⟨rfl, j9, j10⟩ ihh6
      try dsimp only at ihh6
      refine sx_iload_n dX12_callers_18 rfl ?_
      refine sx_aload_n dX12_callers_19 rfl ?_
      refine sx_callVi lk_X12_497 cl_12 s_224 (by decide) dX12_callers_20 (vs := []) rfl rfl (Nat.le_of_ble_eq_true rfl) (Nat.le_of_ble_eq_true rfl) rfl (c_X12_lots _ hI.1) (fun x12 h11 ph11 => ?_)
      obtain ⟨rfl, p_x12⟩ := ph11
      refine sx_icmp_ge (tgt := 48) dX12_callers_23 (by decide) (fun c13 => ?_) (fun c13 => ?_)
      ·
        refine sx_iload_n dX12_callers_48 rfl ?_
        refine sx_iconst dX12_callers_49 ⟨by decide, by decide⟩ ?_
        refine sx_iload_n dX12_callers_50 rfl ?_
        refine sx_ishl dX12_callers_51 ?_
        refine sx_iconst dX12_callers_52 ⟨by decide, by decide⟩ ?_
        refine sx_ixor dX12_callers_53 ?_
        refine sx_iand dX12_callers_54 ?_
        refine sx_ireturn dX12_callers_55 ?_
        exact ⟨_, rfl, ⟨rfl, by first | omega | (exfalso; omega)⟩⟩
      ·
        refine sx_aload_n dX12_callers_26 rfl ?_
        refine sx_iload_n dX12_callers_27 rfl ?_
        refine sx_callVi lk_X12_585 cl_12 s_224 (by decide) dX12_callers_28 (vs := [_]) rfl rfl (Nat.le_of_ble_eq_true rfl) (Nat.le_of_ble_eq_true rfl) rfl (c_X12_calls _ hI.1 _ (hB)) (fun x15 h14 ph14 => ?_)
        subst ph14
        refine sx_iload_n dX12_callers_31 rfl ?_
        refine sx_iand dX12_callers_32 ?_
        refine sx_if_eq (tgt := 42) dX12_callers_33 (by decide) (fun c16 => ?_) (fun c16 => ?_)
        ·
          refine sx_iinc dX12_callers_42 (by decide) rfl ?_
          rw [sw_w_id (by omega) (by omega)]
          refine sx_goto (tgt := 18) dX12_callers_45 (by decide) ?_
          exact ihh6 _ _ _ ⟨rfl, by omega, by omega⟩ (by exact sy_dec (by omega) (by omega))
        ·
          refine sx_iload_n dX12_callers_36 rfl ?_
          refine sx_iconst dX12_callers_37 ⟨by decide, by decide⟩ ?_
          refine sx_iload_n dX12_callers_38 rfl ?_
          refine sx_ishl dX12_callers_39 ?_
          refine sx_ior dX12_callers_40 ?_
          refine sy_top (fun v17 ev17 => ?_)
          refine sx_istore_n dX12_callers_41 (by decide) ?_
          refine sx_iinc dX12_callers_42 (by decide) rfl ?_
          rw [sw_w_id (by omega) (by omega)]
          refine sx_goto (tgt := 18) dX12_callers_45 (by decide) ?_
          exact ihh6 _ _ _ ⟨rfl, by omega, by omega⟩ (by exact sy_dec (by omega) (by omega))
    · exact ⟨rfl, by omega, by omega⟩
  ·
    replace p_x2 := mt p_x2.mpr (show ¬ (x2 = 1) by rw [c3]; decide)
    clear zx2
    refine sx_iconst dX12_callers_8 ⟨by decide, by decide⟩ ?_
    refine sx_ireturn dX12_callers_9 ?_
    exact ⟨_, rfl, ⟨rfl, by first | omega | (exfalso; omega)⟩⟩
set_option maxRecDepth 20000 in
set_option maxHeartbeats 4000000 in
theorem f_X12_nested {G : sw_G} (d : Nat) {h0 : sw_H} (hJ : mI h0) (y1 : Int) (hB : mB h0)  (hF : FM h0) : sw_E G NH SH (d + 3) mX12_nested 0 [some (sw_r 224), some (sw_i y1), none, none] [] h0 (sw_Qi (fun z h' => mK (prW [] [268]) h0 h' ∧ (mB h') ∧ (h' 224 100 = h0 224 100) ∧ (z = -1))) := by
  obtain ⟨b0, r0, t2, k4, k5, a3, a4, l3, s9, t0, z7, z8, z9, z10, z12, z61, z89⟩ := hF
  have fw : h0 227 (h0 224 36).toNat = 0 := z7 _
  have hI : mK (prW [] [268]) h0 h0 := mK.refl hJ
  refine sx_aload_n dX12_nested_0 rfl ?_
  refine sx_iload_n dX12_nested_1 rfl ?_
  refine sx_callVz lk_X12_570 cl_12 s_224 (by decide) dX12_nested_2 (vs := [_]) rfl rfl (Nat.le_of_ble_eq_true rfl) (Nat.le_of_ble_eq_true rfl) rfl (c_X12_isOne _ hI.1 _) (fun x2 h1 zx2 ph1 => ?_)
  obtain ⟨rfl, p_x2⟩ := ph1
  refine sx_if_ne (tgt := 10) dX12_nested_5 (by decide) (fun c3 => ?_) (fun c3 => ?_)
  ·
    have vx2 : x2 = 1 := by rcases zx2 with q | q; (exact absurd q c3); exact q
    replace p_x2 := p_x2.mp vx2
    clear zx2
    obtain ⟨wr1, wr2, wr3, wr4⟩ := mC_w hB.1 hJ (w := y1) (by omega) (by omega)
    have rb36 : (0 : Int) ≤ h0 224 36 ∧ h0 224 36 ≤ 1 := hJ 224 36
    refine sx_iconst dX12_nested_10 ⟨by decide, by decide⟩ ?_
    refine sx_istore_n dX12_nested_11 (by decide) ?_
    refine sx_loop1 (fun (h : sw_H) (k : Int) => (mK (prW [] [268]) h0 h) ∧ (0 ≤ k)) (fun (h : sw_H) (k : Int) => (10 - k).toNat) (fun (h : sw_H) (k : Int) => sw_E G NH SH (d + 3) mX12_nested 12 [some (sw_r 224), some (sw_i y1), some (sw_i k), none] [] h (sw_Qi (fun z h' => mK (prW [] [268]) h0 h' ∧ (mB h') ∧ (h' 224 100 = h0 224 100) ∧ (z = -1)))) ?_ _ _ ?_
    · rintro h4 k_5 ⟨Ih4, j6⟩ ihh4
      try dsimp only at ihh4
      refine sx_iload_n dX12_nested_12 rfl ?_
      refine sx_iload_n dX12_nested_13 rfl ?_
      refine sx_icmp_gt (tgt := 78) dX12_nested_14 (by decide) (fun c7 => ?_) (fun c7 => ?_)
      ·
        refine sx_aload_n dX12_nested_78 rfl ?_
        refine sx_getS (k := 75) (t := 268) cl_12 fl_X12_148 dX12_nested_79 s_224 (by decide) rfl (by decide) ?_
        refine sx_iload_n dX12_nested_82 rfl ?_
        refine sx_iaload dX12_nested_83 s_268 (by decide) (by decide) ⟨by omega, by omega⟩ ?_
        refine sx_ireturn dX12_nested_84 ?_
        exact ⟨_, rfl, ⟨Ih4, mB_mK Ih4 rfl rfl hJ hB, Ih4.2 224 100 rfl, by first | omega | (exfalso; omega)⟩⟩
      ·
        refine sx_aload_n dX12_nested_17 rfl ?_
        refine sx_getS (k := 75) (t := 268) cl_12 fl_X12_148 dX12_nested_18 s_224 (by decide) rfl (by decide) ?_
        refine sx_iload_n dX12_nested_21 rfl ?_
        refine sx_iconst dX12_nested_22 ⟨by decide, by decide⟩ ?_
        refine sy_iastore dX12_nested_23 s_268 (by decide) (by decide) ⟨by omega, by omega⟩ (fun h8 eh8 => ?_)
        have Ih8 := Ih4.up eh8 trivial rfl
        have th8_224_71 := eh8.2 (224) 71 (fun q => absurd q.1 (by decide))
        have th8_224_73 := eh8.2 (224) 73 (fun q => absurd q.1 (by decide))
        have th8_224_74 := eh8.2 (224) 74 (fun q => absurd q.1 (by decide))
        refine sx_iconst dX12_nested_24 ⟨by decide, by decide⟩ ?_
        refine sx_istore_n dX12_nested_25 (by decide) ?_
        refine sx_loop1 (fun (h : sw_H) (e : Int) => (mK (prW [] [268]) h0 h) ∧ (0 ≤ e)) (fun (h : sw_H) (e : Int) => (10 - e).toNat) (fun (h : sw_H) (e : Int) => sw_E G NH SH (d + 3) mX12_nested 26 [some (sw_r 224), some (sw_i y1), some (sw_i k_5), some (sw_i e)] [] h (sw_Qi (fun z h' => mK (prW [] [268]) h0 h' ∧ (mB h') ∧ (h' 224 100 = h0 224 100) ∧ (z = -1)))) ?_ _ _ ?_
        · rintro h9 e_10 ⟨Ih9, j11⟩ ihh9
          try dsimp only at ihh9
          refine sx_iload_n dX12_nested_26 rfl ?_
          refine sx_iload_n dX12_nested_27 rfl ?_
          refine sx_icmp_ge (tgt := 72) dX12_nested_28 (by decide) (fun c12 => ?_) (fun c12 => ?_)
          ·
            refine sx_iinc dX12_nested_72 (by decide) rfl ?_
            rw [sw_w_id (by omega) (by omega)]
            refine sx_goto (tgt := 12) dX12_nested_75 (by decide) ?_
            refine sx_kill 3 ?_
            exact ihh4 _ _ ⟨Ih9, by omega⟩ (by exact sy_dec (by omega) (by omega))
          ·
            refine sx_aload_n dX12_nested_31 rfl ?_
            refine sx_iload_n dX12_nested_32 rfl ?_
            refine sx_callVi lk_X12_585 cl_12 s_224 (by decide) dX12_nested_33 (vs := [_]) rfl rfl (Nat.le_of_ble_eq_true rfl) (Nat.le_of_ble_eq_true rfl) rfl (c_X12_calls _ Ih9.1 _ (mB_mK Ih9 rfl rfl hJ hB)) (fun x14 h13 ph13 => ?_)
            subst ph13
            refine sx_iload_n dX12_nested_36 rfl ?_
            refine sx_callSz lk_X12_358 dX12_nested_37 (vs := [_, _]) rfl rfl (Nat.le_of_ble_eq_true rfl) (Nat.le_of_ble_eq_true rfl) rfl (c_X12_bit _ Ih9.1 _ _) (fun x16 h15 zx16 ph15 => ?_)
            subst ph15
            refine sx_if_eq (tgt := 66) dX12_nested_40 (by decide) (fun c17 => ?_) (fun c17 => ?_)
            ·
              clear zx16
              refine sx_iinc dX12_nested_66 (by decide) rfl ?_
              rw [sw_w_id (by omega) (by omega)]
              refine sx_goto (tgt := 26) dX12_nested_69 (by decide) ?_
              exact ihh9 _ _ ⟨Ih9, by omega⟩ (by exact sy_dec (by omega) (by omega))
            ·
              have vx16 : x16 = 1 := by rcases zx16 with q | q; (exact absurd q c17); exact q
              clear zx16
              refine sx_aload_n dX12_nested_43 rfl ?_
              refine sx_getS (k := 75) (t := 268) cl_12 fl_X12_148 dX12_nested_44 s_224 (by decide) rfl (by decide) ?_
              refine sx_iload_n dX12_nested_47 rfl ?_
              refine sx_aload_n dX12_nested_48 rfl ?_
              refine sx_getS (k := 75) (t := 268) cl_12 fl_X12_148 dX12_nested_49 s_224 (by decide) rfl (by decide) ?_
              refine sx_iload_n dX12_nested_52 rfl ?_
              refine sx_iaload dX12_nested_53 s_268 (by decide) (by decide) ⟨by omega, by omega⟩ ?_
              refine sx_aload_n dX12_nested_54 rfl ?_
              refine sx_getS (k := 75) (t := 268) cl_12 fl_X12_148 dX12_nested_55 s_224 (by decide) rfl (by decide) ?_
              refine sx_iload_n dX12_nested_58 rfl ?_
              refine sx_iaload dX12_nested_59 s_268 (by decide) (by decide) ⟨by omega, by omega⟩ ?_
              refine sx_iconst dX12_nested_60 ⟨by decide, by decide⟩ ?_
              refine sx_iadd dX12_nested_61 ?_
              refine sx_callSi lk_X12_588 dX12_nested_62 (vs := [_, _]) rfl rfl (Nat.le_of_ble_eq_true rfl) (Nat.le_of_ble_eq_true rfl) rfl (c_X12_more _ Ih9.1 _ _) (fun x19 h18 ph18 => ?_)
              obtain ⟨rfl, p_x19⟩ := ph18
              refine sy_iastore dX12_nested_65 s_268 (by decide) (by decide) ⟨by omega, by omega⟩ (fun h20 eh20 => ?_)
              have Ih20 := Ih9.up eh20 trivial rfl
              have th20_224_71 := eh20.2 (224) 71 (fun q => absurd q.1 (by decide))
              have th20_224_73 := eh20.2 (224) 73 (fun q => absurd q.1 (by decide))
              have th20_224_74 := eh20.2 (224) 74 (fun q => absurd q.1 (by decide))
              refine sx_iinc dX12_nested_66 (by decide) rfl ?_
              rw [sw_w_id (by omega) (by omega)]
              refine sx_goto (tgt := 26) dX12_nested_69 (by decide) ?_
              exact ihh9 _ _ ⟨Ih20, by omega⟩ (by exact sy_dec (by omega) (by omega))
        · exact ⟨Ih8, by omega⟩
    · exact ⟨hI, by omega⟩
  ·
    replace p_x2 := mt p_x2.mpr (show ¬ (x2 = 1) by rw [c3]; decide)
    clear zx2
    refine sx_iconst dX12_nested_8 ⟨by decide, by decide⟩ ?_
    refine sx_ireturn dX12_nested_9 ?_
    exact ⟨_, rfl, ⟨hI, mB_mK hI rfl rfl hJ hB, hI.2 224 100 rfl, by first | omega | (exfalso; omega)⟩⟩
set_option maxRecDepth 20000 in
set_option maxHeartbeats 4000000 in
theorem f_X12_comes {G : sw_G} (d : Nat) {h0 : sw_H} (hJ : mI h0) (y1 y2 y3 y4 y5 : Int) (hB : mB h0)  (hF : FM h0) : sw_E G NH SH (d + 5) mX12_comes 0 [some (sw_r 224), some (sw_i y1), some (sw_i y2), some (sw_i y3), some (sw_i y4), some (sw_i y5)] [] h0 (sw_Qi (fun z h' => mK (prW [67, 68, 69, 70] [262, 263, 264, 265, 266]) h0 h' ∧ (mB h') ∧ (h' 224 100 = h0 224 100) ∧ (z = 0))) := by
  obtain ⟨b0, r0, t2, k4, k5, a3, a4, l3, s9, t0, z7, z8, z9, z10, z12, z61, z89⟩ := hF
  have fw : h0 227 (h0 224 36).toNat = 0 := z7 _
  have hI : mK (prW [67, 68, 69, 70] [262, 263, 264, 265, 266]) h0 h0 := mK.refl hJ
  refine sx_aload_n dX12_comes_0 rfl ?_
  refine sx_iload_n dX12_comes_1 rfl ?_
  refine sx_callVz lk_X12_570 cl_12 s_224 (by decide) dX12_comes_2 (vs := [_]) rfl rfl (Nat.le_of_ble_eq_true rfl) (Nat.le_of_ble_eq_true rfl) rfl (c_X12_isOne _ hI.1 _) (fun x2 h1 zx2 ph1 => ?_)
  obtain ⟨rfl, p_x2⟩ := ph1
  refine sx_if_eq (tgt := 22) dX12_comes_5 (by decide) (fun c3 => ?_) (fun c3 => ?_)
  ·
    replace p_x2 := mt p_x2.mpr (show ¬ (x2 = 1) by rw [c3]; decide)
    clear zx2
    refine sx_iconst dX12_comes_22 ⟨by decide, by decide⟩ ?_
    refine sx_ireturn dX12_comes_23 ?_
    exact ⟨_, rfl, ⟨hI, mB_mK hI rfl rfl hJ hB, hI.2 224 100 rfl, by first | omega | (exfalso; omega)⟩⟩
  ·
    have vx2 : x2 = 1 := by rcases zx2 with q | q; (exact absurd q c3); exact q
    replace p_x2 := p_x2.mp vx2
    clear zx2
    obtain ⟨wr1, wr2, wr3, wr4⟩ := mC_w hB.1 hJ (w := y1) (by omega) (by omega)
    have wd := Wd_of hB.1 hJ hB.2.1 (w := y1) (by omega) (by omega)
    have wds := Wds_of hB.1 hJ hB.2.1 (w := y1) (by omega)
    obtain ⟨wg1, wg2, wg3, wg4, wg5, wg6⟩ := Wd_rng wd
    have eN : cN h0 y1 = h0 235 (6 * h0 224 36 + y1).toNat := rfl
    have eL : cL h0 y1 = h0 236 (6 * h0 224 36 + y1).toNat := rfl
    refine sx_aload_n dX12_comes_8 rfl ?_
    refine sx_iload_n dX12_comes_9 rfl ?_
    refine sx_callVi lk_X12_504 cl_12 s_224 (by decide) dX12_comes_10 (vs := [_]) rfl rfl (Nat.le_of_ble_eq_true rfl) (Nat.le_of_ble_eq_true rfl) rfl (c_X12_needsOf _ hI.1 _ (by first | omega | (rw [Int.tmod_eq_emod_of_nonneg (by omega)]; omega) | (rw [Int.tdiv_eq_ediv_of_nonneg (by omega)]; omega))) (fun x5 h4 ph4 => ?_)
    obtain ⟨rfl, p_x5⟩ := ph4
    refine sx_iconst dX12_comes_13 ⟨by decide, by decide⟩ ?_
    refine sx_icmp_gt (tgt := 22) dX12_comes_14 (by decide) (fun c6 => ?_) (fun c6 => ?_)
    ·
      refine sx_iconst dX12_comes_22 ⟨by decide, by decide⟩ ?_
      refine sx_ireturn dX12_comes_23 ?_
      exact ⟨_, rfl, ⟨hI, mB_mK hI rfl rfl hJ hB, hI.2 224 100 rfl, by first | omega | (exfalso; omega)⟩⟩
    ·
      refine sx_iload dX12_comes_17 rfl ?_
      refine sx_if_ge (tgt := 24) dX12_comes_19 (by decide) (fun c7 => ?_) (fun c7 => ?_)
      ·
        refine sx_aload_n dX12_comes_24 rfl ?_
        refine sx_iload_n dX12_comes_25 rfl ?_
        refine sx_iload_n dX12_comes_26 rfl ?_
        refine sx_iload dX12_comes_27 rfl ?_
        refine sx_callVv lk_X12_594 cl_12 s_224 (by decide) dX12_comes_29 (vs := [_, _, _]) rfl rfl (Nat.le_of_ble_eq_true rfl) (Nat.le_of_ble_eq_true rfl) rfl (c_X12_threeCells _ hI.1 _ _ _) (fun h8 ph8 => ?_)
        obtain ⟨Kh8, c_h8⟩ := ph8
        have Ih8 := hI.tr Kh8 (prW_sub rfl rfl)
        have th8_224_71 := Kh8.2 224 71 rfl
        have th8_224_73 := Kh8.2 224 73 rfl
        have th8_224_74 := Kh8.2 224 74 rfl
        have th8_224_85 := Kh8.2 224 85 rfl
        have th8_224_100 := Kh8.2 224 100 rfl
        have CD : cdK h0 h8 := Ih8.cd rfl rfl
        refine sx_aload_n dX12_comes_32 rfl ?_
        refine sx_iload_n dX12_comes_33 rfl ?_
        refine sx_callVv lk_X12_573 cl_12 s_224 (by decide) dX12_comes_34 (vs := [_]) rfl rfl (Nat.le_of_ble_eq_true rfl) (Nat.le_of_ble_eq_true rfl) rfl (c_X12_runWord _ Ih8.1 (cN h0 y1) (cL h0 y1) (cH h0 y1) _ (by omega) (Wds_cd CD wds) (Wd_cd CD wd) (by omega)) (fun h10 ph10 => ?_)
        obtain ⟨Kh10, c_h10⟩ := ph10
        have Ih10 := Ih8.tr Kh10 (prW_sub rfl rfl)
        have th10_224_71 := Kh10.2 224 71 rfl
        have th10_224_73 := Kh10.2 224 73 rfl
        have th10_224_74 := Kh10.2 224 74 rfl
        have th10_224_85 := Kh10.2 224 85 rfl
        have th10_224_100 := Kh10.2 224 100 rfl
        refine sx_iload dX12_comes_37 rfl ?_
        refine sx_aload_n dX12_comes_39 rfl ?_
        refine sx_getI (k := 67) cl_12 fl_X12_522 dX12_comes_40 s_224 (by decide) rfl (by decide) ?_
        refine sx_icmp_ge (tgt := 63) dX12_comes_43 (by decide) (fun c12 => ?_) (fun c12 => ?_)
        ·
          refine sx_iconst dX12_comes_63 ⟨by decide, by decide⟩ ?_
          refine sx_ireturn dX12_comes_64 ?_
          exact ⟨_, rfl, ⟨Ih10, mB_mK Ih10 rfl rfl hJ hB, Ih10.2 224 100 rfl, by first | omega | (exfalso; omega)⟩⟩
        ·
          refine sx_aload_n dX12_comes_46 rfl ?_
          refine sx_getS (k := 62) (t := 262) cl_12 fl_X12_127 dX12_comes_47 s_224 (by decide) rfl (by decide) ?_
          refine sx_aload_n dX12_comes_50 rfl ?_
          refine sx_getI (k := 67) cl_12 fl_X12_522 dX12_comes_51 s_224 (by decide) rfl (by decide) ?_
          refine sx_iconst dX12_comes_54 ⟨by decide, by decide⟩ ?_
          refine sx_isub dX12_comes_55 ?_
          refine sy_topw (by omega) ?_
          refine sx_iload dX12_comes_56 rfl ?_
          refine sx_isub dX12_comes_58 ?_
          refine sy_topw (by omega) ?_
          refine sx_iaload dX12_comes_59 s_262 (by decide) (by decide) ⟨by omega, by omega⟩ ?_
          refine sx_goto (tgt := 64) dX12_comes_60 (by decide) ?_
          refine sx_ireturn dX12_comes_64 ?_
          exact ⟨_, rfl, ⟨Ih10, mB_mK Ih10 rfl rfl hJ hB, Ih10.2 224 100 rfl, by first | omega | (exfalso; omega)⟩⟩
      ·
        refine sx_iconst dX12_comes_22 ⟨by decide, by decide⟩ ?_
        refine sx_ireturn dX12_comes_23 ?_
        exact ⟨_, rfl, ⟨hI, mB_mK hI rfl rfl hJ hB, hI.2 224 100 rfl, by first | omega | (exfalso; omega)⟩⟩
set_option maxRecDepth 20000 in
set_option maxHeartbeats 4000000 in
theorem f_X12_height {G : sw_G} (d : Nat) {h0 : sw_H} (hJ : mI h0) (y1 y2 : Int) (hB : mB h0)  (hF : FM h0) : sw_E G NH SH (d + 2) mX12_height 0 [some (sw_r 224), some (sw_i y1), some (sw_i y2)] [] h0 (sw_Qi (fun z h' => h0 = h' ∧ (z = -100))) := by
  obtain ⟨b0, r0, t2, k4, k5, a3, a4, l3, s9, t0, z7, z8, z9, z10, z12, z61, z89⟩ := hF
  have fw : h0 227 (h0 224 36).toNat = 0 := z7 _
  have hI : mK (prW [] []) h0 h0 := mK.refl hJ
  refine sx_aload_n dX12_height_0 rfl ?_
  refine sx_iload_n dX12_height_1 rfl ?_
  refine sx_callVz lk_X12_570 cl_12 s_224 (by decide) dX12_height_2 (vs := [_]) rfl rfl (Nat.le_of_ble_eq_true rfl) (Nat.le_of_ble_eq_true rfl) rfl (c_X12_isOne _ hI.1 _) (fun x2 h1 zx2 ph1 => ?_)
  obtain ⟨rfl, p_x2⟩ := ph1
  refine sx_if_eq (tgt := 37) dX12_height_5 (by decide) (fun c3 => ?_) (fun c3 => ?_)
  ·
    replace p_x2 := mt p_x2.mpr (show ¬ (x2 = 1) by rw [c3]; decide)
    clear zx2
    refine sx_bipush dX12_height_37 ⟨by decide, by decide, by decide⟩ ?_
    refine sx_ireturn dX12_height_39 ?_
    exact ⟨_, rfl, ⟨rfl, by first | omega | (exfalso; omega)⟩⟩
  ·
    have vx2 : x2 = 1 := by rcases zx2 with q | q; (exact absurd q c3); exact q
    replace p_x2 := p_x2.mp vx2
    clear zx2
    obtain ⟨wr1, wr2, wr3, wr4⟩ := mC_w hB.1 hJ (w := y1) (by omega) (by omega)
    have rb36 : (0 : Int) ≤ h0 224 36 ∧ h0 224 36 ≤ 1 := hJ 224 36
    refine sx_iload_n dX12_height_8 rfl ?_
    refine sx_iconst dX12_height_9 ⟨by decide, by decide⟩ ?_
    refine sx_aload_n dX12_height_10 rfl ?_
    refine sx_iload_n dX12_height_11 rfl ?_
    refine sx_callVi lk_X12_546 cl_12 s_224 (by decide) dX12_height_12 (vs := [_]) rfl rfl (Nat.le_of_ble_eq_true rfl) (Nat.le_of_ble_eq_true rfl) rfl (c_X12_manyIn _ hI.1 _ (by first | omega | (rw [Int.tmod_eq_emod_of_nonneg (by omega)]; omega) | (rw [Int.tdiv_eq_ediv_of_nonneg (by omega)]; omega))) (fun x5 h4 ph4 => ?_)
    obtain ⟨rfl, p_x5⟩ := ph4
    refine sx_iconst dX12_height_15 ⟨by decide, by decide⟩ ?_
    refine sx_isub dX12_height_16 ?_
    refine sy_topw (by omega) ?_
    refine sx_callSz lk_X12_500 dX12_height_17 (vs := [_, _, _]) rfl rfl (Nat.le_of_ble_eq_true rfl) (Nat.le_of_ble_eq_true rfl) rfl (c_X12_isIn _ hI.1 _ _ _) (fun x7 h6 zx7 ph6 => ?_)
    obtain ⟨rfl, p_x7⟩ := ph6
    refine sx_if_eq (tgt := 37) dX12_height_20 (by decide) (fun c8 => ?_) (fun c8 => ?_)
    ·
      replace p_x7 := mt p_x7.mpr (show ¬ (x7 = 1) by rw [c8]; decide)
      clear zx7
      refine sx_bipush dX12_height_37 ⟨by decide, by decide, by decide⟩ ?_
      refine sx_ireturn dX12_height_39 ?_
      exact ⟨_, rfl, ⟨rfl, by first | omega | (exfalso; omega)⟩⟩
    ·
      have vx7 : x7 = 1 := by rcases zx7 with q | q; (exact absurd q c8); exact q
      replace p_x7 := p_x7.mp vx7
      clear zx7
      refine sx_aload_n dX12_height_23 rfl ?_
      refine sx_getS (k := 26) (t := 242) cl_12 fl_X12_66 dX12_height_24 s_224 (by decide) rfl (by decide) ?_
      refine sx_aload_n dX12_height_27 rfl ?_
      refine sx_iload_n dX12_height_28 rfl ?_
      refine sx_iload_n dX12_height_29 rfl ?_
      refine sx_callVi lk_X12_519 cl_12 s_224 (by decide) dX12_height_30 (vs := [_, _]) rfl rfl (Nat.le_of_ble_eq_true rfl) (Nat.le_of_ble_eq_true rfl) rfl (c_X12_itemOf _ hI.1 _ _ (by first | omega | (rw [Int.tmod_eq_emod_of_nonneg (by omega)]; omega) | (rw [Int.tdiv_eq_ediv_of_nonneg (by omega)]; omega)) (by first | omega | (rw [Int.tmod_eq_emod_of_nonneg (by omega)]; omega) | (rw [Int.tdiv_eq_ediv_of_nonneg (by omega)]; omega))) (fun x10 h9 ph9 => ?_)
      obtain ⟨rfl, p_x10⟩ := ph9
      refine sx_iaload dX12_height_33 s_242 (by decide) (by decide) ⟨by omega, by omega⟩ ?_
      refine sx_goto (tgt := 39) dX12_height_34 (by decide) ?_
      refine sx_ireturn dX12_height_39 ?_
      exact ⟨_, rfl, ⟨rfl, by first | omega | (exfalso; omega)⟩⟩
set_option maxRecDepth 20000 in
set_option maxHeartbeats 4000000 in
theorem f_X12_end {G : sw_G} (d : Nat) {h0 : sw_H} (hJ : mI h0) (y1 : Int) (hB : mB h0)  (hF : FM h0) : sw_E G NH SH (d) mX12_end 0 [some (sw_r 224), some (sw_i y1)] [] h0 (sw_Qi (fun z h' => mK (prW [2] []) h0 h' ∧ (mB h') ∧ (h' 224 100 = h0 224 100) ∧ (z = if y1 = 0 then 0 else -1))) := by
  obtain ⟨b0, r0, t2, k4, k5, a3, a4, l3, s9, t0, z7, z8, z9, z10, z12, z61, z89⟩ := hF
  have fw : h0 227 (h0 224 36).toNat = 0 := z7 _
  have hI : mK (prW [2] []) h0 h0 := mK.refl hJ
  refine sx_iload_n dX12_end_0 rfl ?_
  refine sx_if_lt (tgt := 12) dX12_end_1 (by decide) (fun c1 => ?_) (fun c1 => ?_)
  ·
    refine sx_iconst dX12_end_12 ⟨by decide, by decide⟩ ?_
    refine sx_ireturn dX12_end_13 ?_
    exact ⟨_, rfl, ⟨hI, mB_mK hI rfl rfl hJ hB, hI.2 224 100 rfl, by split <;> omega⟩⟩
  ·
    refine sx_iload_n dX12_end_4 rfl ?_
    refine sx_aload_n dX12_end_5 rfl ?_
    refine sx_getI (k := 2) cl_12 fl_X12_346 dX12_end_6 s_224 (by decide) rfl (by decide) ?_
    have r2 : (0 : Int) ≤ h0 224 2 ∧ h0 224 2 ≤ 1600 := hI.1 224 2
    refine sx_icmp_le (tgt := 14) dX12_end_9 (by decide) (fun c3 => ?_) (fun c3 => ?_)
    ·
      refine sx_aload_n dX12_end_14 rfl ?_
      refine sx_iload_n dX12_end_15 rfl ?_
      refine sy_putI (k := 2) cl_12 fl_X12_346 dX12_end_16 s_224 (by decide) rfl (by decide) rfl rfl (fun h4 eh4 => ?_)
      have Ih4 := hI.up eh4 (show (0 : Int) ≤ _ ∧ _ ≤ (1600 : Int) from ⟨by omega, by omega⟩) rfl
      have th4_224_2 := eh4.1
      refine sx_iload_n dX12_end_19 rfl ?_
      refine sx_ireturn dX12_end_20 ?_
      exact ⟨_, rfl, ⟨Ih4, mB_mK Ih4 rfl rfl hJ hB, Ih4.2 224 100 rfl, by split <;> omega⟩⟩
    ·
      refine sx_iconst dX12_end_12 ⟨by decide, by decide⟩ ?_
      refine sx_ireturn dX12_end_13 ?_
      exact ⟨_, rfl, ⟨hI, mB_mK hI rfl rfl hJ hB, hI.2 224 100 rfl, by split <;> omega⟩⟩
set_option maxRecDepth 20000 in
set_option maxHeartbeats 4000000 in
theorem f_X12_fault {G : sw_G} (d : Nat) {h0 : sw_H} (hJ : mI h0) (y1 : Int) (hB : mB h0)  (hF : FM h0) : sw_E G NH SH (d) mX12_fault 0 [some (sw_r 224), some (sw_i y1)] [] h0 (sw_Qi (fun z h' => h0 = h' ∧ (z = if y1 = 0 then 0 else -1))) := by
  obtain ⟨b0, r0, t2, k4, k5, a3, a4, l3, s9, t0, z7, z8, z9, z10, z12, z61, z89⟩ := hF
  have fw : h0 227 (h0 224 36).toNat = 0 := z7 _
  have hI : mK (prW [] []) h0 h0 := mK.refl hJ
  refine sx_iload_n dX12_fault_0 rfl ?_
  refine sx_if_ne (tgt := 11) dX12_fault_1 (by decide) (fun c1 => ?_) (fun c1 => ?_)
  ·
    refine sx_iload_n dX12_fault_11 rfl ?_
    refine sx_iconst dX12_fault_12 ⟨by decide, by decide⟩ ?_
    refine sx_icmp_ne (tgt := 23) dX12_fault_13 (by decide) (fun c2 => ?_) (fun c2 => ?_)
    ·
      refine sx_iconst dX12_fault_23 ⟨by decide, by decide⟩ ?_
      refine sx_ireturn dX12_fault_24 ?_
      exact ⟨_, rfl, ⟨rfl, by split <;> omega⟩⟩
    ·
      refine sx_aload_n dX12_fault_16 rfl ?_
      refine sx_getI (k := 5) cl_12 fl_X12_16 dX12_fault_17 s_224 (by decide) rfl (by decide) ?_
      refine sx_goto (tgt := 24) dX12_fault_20 (by decide) ?_
      refine sx_ireturn dX12_fault_24 ?_
      exact ⟨_, rfl, ⟨rfl, by split <;> omega⟩⟩
  ·
    refine sx_aload_n dX12_fault_4 rfl ?_
    refine sx_getI (k := 4) cl_12 fl_X12_227 dX12_fault_5 s_224 (by decide) rfl (by decide) ?_
    have r3 : (0 : Int) ≤ h0 224 4 ∧ h0 224 4 ≤ 7 := hI.1 224 4
    refine sx_goto (tgt := 24) dX12_fault_8 (by decide) ?_
    refine sx_ireturn dX12_fault_24 ?_
    exact ⟨_, rfl, ⟨rfl, by split <;> omega⟩⟩
set_option maxRecDepth 20000 in
set_option maxHeartbeats 4000000 in
theorem f_X12_lies {G : sw_G} (d : Nat) {h0 : sw_H} (hJ : mI h0) (y1 : Int) (hB : mB h0)  (hF : FM h0) : sw_E G NH SH (d + 1) mX12_lies 0 [some (sw_r 224), some (sw_i y1)] [] h0 (sw_Qi (fun z h' => h0 = h' ∧ (z = -2))) := by
  obtain ⟨b0, r0, t2, k4, k5, a3, a4, l3, s9, t0, z7, z8, z9, z10, z12, z61, z89⟩ := hF
  have fw : h0 227 (h0 224 36).toNat = 0 := z7 _
  have hI : mK (prW [] []) h0 h0 := mK.refl hJ
  refine sx_iload_n dX12_lies_0 rfl ?_
  refine sx_iconst dX12_lies_1 ⟨by decide, by decide⟩ ?_
  refine sx_aload_n dX12_lies_2 rfl ?_
  refine sx_getI (k := 83) cl_12 fl_X12_516 dX12_lies_3 s_224 (by decide) rfl (by decide) ?_
  have r1 : (0 : Int) ≤ h0 224 83 ∧ h0 224 83 ≤ 64 := hI.1 224 83
  refine sx_iconst dX12_lies_6 ⟨by decide, by decide⟩ ?_
  refine sx_isub dX12_lies_7 ?_
  refine sy_topw (by omega) ?_
  refine sx_callSz lk_X12_500 dX12_lies_8 (vs := [_, _, _]) rfl rfl (Nat.le_of_ble_eq_true rfl) (Nat.le_of_ble_eq_true rfl) rfl (c_X12_isIn _ hI.1 _ _ _) (fun x3 h2 zx3 ph2 => ?_)
  obtain ⟨rfl, p_x3⟩ := ph2
  refine sx_if_eq (tgt := 23) dX12_lies_11 (by decide) (fun c4 => ?_) (fun c4 => ?_)
  ·
    replace p_x3 := mt p_x3.mpr (show ¬ (x3 = 1) by rw [c4]; decide)
    clear zx3
    refine sx_bipush dX12_lies_23 ⟨by decide, by decide, by decide⟩ ?_
    refine sx_ireturn dX12_lies_25 ?_
    exact ⟨_, rfl, ⟨rfl, by first | omega | (exfalso; omega)⟩⟩
  ·
    have vx3 : x3 = 1 := by rcases zx3 with q | q; (exact absurd q c4); exact q
    replace p_x3 := p_x3.mp vx3
    clear zx3
    refine sx_aload_n dX12_lies_14 rfl ?_
    refine sx_getS (k := 82) (t := 274) cl_12 fl_X12_166 dX12_lies_15 s_224 (by decide) rfl (by decide) ?_
    refine sx_iload_n dX12_lies_18 rfl ?_
    refine sx_iaload dX12_lies_19 s_274 (by decide) (by decide) ⟨by omega, by omega⟩ ?_
    refine sx_goto (tgt := 25) dX12_lies_20 (by decide) ?_
    refine sx_ireturn dX12_lies_25 ?_
    exact ⟨_, rfl, ⟨rfl, by first | omega | (exfalso; omega)⟩⟩
set_option maxRecDepth 20000 in
set_option maxHeartbeats 4000000 in
theorem f_X12_pick {G : sw_G} (d : Nat) {h0 : sw_H} (hJ : mI h0) (y1 : Int) (hB : mB h0)  (hF : FM h0) : sw_E G NH SH (d + 5) mX12_pick 0 [some (sw_r 224), some (sw_i y1), none, none, none, none] [] h0 (sw_Qi (fun z h' => mK (prW [59, 60] [251, 261, 275, 276, 277]) h0 h' ∧ (mB h') ∧ (h' 224 100 = h0 224 100) ∧ (z = -1))) := by
  obtain ⟨b0, r0, t2, k4, k5, a3, a4, l3, s9, t0, z7, z8, z9, z10, z12, z61, z89⟩ := hF
  have fw : h0 227 (h0 224 36).toNat = 0 := z7 _
  have hI : mK (prW [59, 60] [251, 261, 275, 276, 277]) h0 h0 := mK.refl hJ
  have r27 : (0 : Int) ≤ h0 227 (h0 224 36).toNat ∧ h0 227 (h0 224 36).toNat ≤ 6 := hJ 227 _
  refine sx_aload_n dX12_pick_0 rfl ?_
  refine sx_iload_n dX12_pick_1 rfl ?_
  refine sx_callVz lk_X12_667 cl_12 s_224 (by decide) dX12_pick_2 (vs := [_]) rfl rfl (Nat.le_of_ble_eq_true rfl) (Nat.le_of_ble_eq_true rfl) rfl (c_X12_isForm _ hI.1 _) (fun x2 h1 zx2 ph1 => ?_)
  obtain ⟨rfl, p_x2⟩ := ph1
  refine sx_if_eq (tgt := 15) dX12_pick_5 (by decide) (fun c3 => ?_) (fun c3 => ?_)
  ·
    replace p_x2 := mt p_x2.mpr (show ¬ (x2 = 1) by rw [c3]; decide)
    clear zx2
    refine sx_iconst dX12_pick_15 ⟨by decide, by decide⟩ ?_
    refine sx_ireturn dX12_pick_16 ?_
    exact ⟨_, rfl, ⟨hI, mB_mK hI rfl rfl hJ hB, hI.2 224 100 rfl, by first | omega | (exfalso; omega)⟩⟩
  ·
    have vx2 : x2 = 1 := by rcases zx2 with q | q; (exact absurd q c3); exact q
    replace p_x2 := p_x2.mp vx2
    clear zx2
    refine sx_aload_n dX12_pick_8 rfl ?_
    refine sx_callVi lk_X12_497 cl_12 s_224 (by decide) dX12_pick_9 (vs := []) rfl rfl (Nat.le_of_ble_eq_true rfl) (Nat.le_of_ble_eq_true rfl) rfl (c_X12_lots _ hI.1) (fun x5 h4 ph4 => ?_)
    obtain ⟨rfl, p_x5⟩ := ph4
    refine sx_if_ne (tgt := 17) dX12_pick_12 (by decide) (fun c6 => ?_) (fun c6 => ?_)
    ·
      refine sx_iconst dX12_pick_17 ⟨by decide, by decide⟩ ?_
      refine sx_istore_n dX12_pick_18 (by decide) ?_
      refine sx_aload_n dX12_pick_19 rfl ?_
      refine sx_aload_n dX12_pick_20 rfl ?_
      refine sx_callVi lk_X12_497 cl_12 s_224 (by decide) dX12_pick_21 (vs := []) rfl rfl (Nat.le_of_ble_eq_true rfl) (Nat.le_of_ble_eq_true rfl) rfl (c_X12_lots _ hI.1) (fun x8 h7 ph7 => ?_)
      obtain ⟨rfl, p_x8⟩ := ph7
      refine sx_iconst dX12_pick_24 ⟨by decide, by decide⟩ ?_
      refine sx_isub dX12_pick_25 ?_
      refine sy_topw (by omega) ?_
      refine sx_iload_n dX12_pick_26 rfl ?_
      refine sx_callVi lk_X12_670 cl_12 s_224 (by decide) dX12_pick_27 (vs := [_, _]) rfl rfl (Nat.le_of_ble_eq_true rfl) (Nat.le_of_ble_eq_true rfl) rfl (c_X12_timeBy _ hI.1 _ _ (mC_mK hI rfl rfl hJ hB.1) (by rw [hI.2 224 36 rfl, hI.2 227 _ rfl]; omega)) (fun x10 h9 ph9 => ?_)
      have Kh9 := ph9
      have Ih9 := hI.tr Kh9 (prW_sub rfl rfl)
      have th9_224_71 := Kh9.2 224 71 rfl
      have th9_224_73 := Kh9.2 224 73 rfl
      have th9_224_74 := Kh9.2 224 74 rfl
      have th9_224_85 := Kh9.2 224 85 rfl
      have th9_224_100 := Kh9.2 224 100 rfl
      refine sx_istore_n dX12_pick_30 (by decide) ?_
      refine sx_iconst dX12_pick_31 ⟨by decide, by decide⟩ ?_
      refine sx_istore dX12_pick_32 (by decide) ?_
      refine sx_loop3 (fun (h : sw_H) (best : Int) (least : Int) (w : Int) => (mK (prW [59, 60] [251, 261, 275, 276, 277]) h0 h) ∧ (0 ≤ w)) (fun (h : sw_H) (best : Int) (least : Int) (w : Int) => (10 - w).toNat) (fun (h : sw_H) (best : Int) (least : Int) (w : Int) => sw_E G NH SH (d + 5) mX12_pick 34 [some (sw_r 224), some (sw_i y1), some (sw_i best), some (sw_i least), some (sw_i w), none] [] h (sw_Qi (fun z h' => mK (prW [59, 60] [251, 261, 275, 276, 277]) h0 h' ∧ (mB h') ∧ (h' 224 100 = h0 224 100) ∧ (z = -1)))) ?_ _ _ _ _ ?_
      · rintro h11 best_12 least_13 w_14 ⟨Ih11, j15⟩ ihh11
        try dsimp only at ihh11
        refine sx_iload dX12_pick_34 rfl ?_
        refine sx_aload_n dX12_pick_36 rfl ?_
        refine sx_callVi lk_X12_497 cl_12 s_224 (by decide) dX12_pick_37 (vs := []) rfl rfl (Nat.le_of_ble_eq_true rfl) (Nat.le_of_ble_eq_true rfl) rfl (c_X12_lots _ Ih11.1) (fun x17 h16 ph16 => ?_)
        obtain ⟨rfl, p_x17⟩ := ph16
        rw [Ih11.2 224 36 rfl, Ih11.2 227 _ rfl] at p_x17
        refine sx_icmp_ge (tgt := 117) dX12_pick_40 (by decide) (fun c18 => ?_) (fun c18 => ?_)
        ·
          refine sx_iload_n dX12_pick_117 rfl ?_
          refine sx_ireturn dX12_pick_118 ?_
          exact ⟨_, rfl, ⟨Ih11, mB_mK Ih11 rfl rfl hJ hB, Ih11.2 224 100 rfl, by first | omega | (exfalso; omega)⟩⟩
        ·
          refine sx_aload_n dX12_pick_43 rfl ?_
          refine sx_iload dX12_pick_44 rfl ?_
          refine sx_callVz lk_X12_582 cl_12 s_224 (by decide) dX12_pick_46 (vs := [_]) rfl rfl (Nat.le_of_ble_eq_true rfl) (Nat.le_of_ble_eq_true rfl) rfl (c_X12_isInlined _ Ih11.1 _) (fun x20 h19 zx20 ph19 => ?_)
          subst ph19
          refine sx_if_eq (tgt := 55) dX12_pick_49 (by decide) (fun c21 => ?_) (fun c21 => ?_)
          ·
            clear zx20
            refine sx_aload_n dX12_pick_55 rfl ?_
            refine sx_getS (k := 61) (t := 261) cl_12 fl_X12_124 dX12_pick_56 s_224 (by decide) rfl (by decide) ?_
            refine sx_bipush dX12_pick_59 ⟨by decide, by decide, by decide⟩ ?_
            refine sx_dup2 dX12_pick_61 ?_
            refine sx_iaload dX12_pick_62 s_261 (by decide) (by decide) ⟨by omega, by omega⟩ ?_
            refine sx_iconst dX12_pick_63 ⟨by decide, by decide⟩ ?_
            refine sx_iload dX12_pick_64 rfl ?_
            refine sx_ishl dX12_pick_66 ?_
            refine sx_ixor dX12_pick_67 ?_
            refine sy_iastore dX12_pick_68 s_261 (by decide) (by decide) ⟨by omega, by omega⟩ (fun h22 eh22 => ?_)
            have Ih22 := Ih11.up eh22 (by exact omc_all_lt (Or.inl rfl) (by decide) (by decide)) rfl
            have th22_224_71 := eh22.2 (224) 71 (fun q => absurd q.1 (by decide))
            have th22_224_73 := eh22.2 (224) 73 (fun q => absurd q.1 (by decide))
            have th22_224_74 := eh22.2 (224) 74 (fun q => absurd q.1 (by decide))
            have th22_224_85 := eh22.2 (224) 85 (fun q => absurd q.1 (by decide))
            have th22_224_100 := eh22.2 (224) 100 (fun q => absurd q.1 (by decide))
            refine sx_aload_n dX12_pick_69 rfl ?_
            refine sx_aload_n dX12_pick_70 rfl ?_
            refine sx_callVi lk_X12_497 cl_12 s_224 (by decide) dX12_pick_71 (vs := []) rfl rfl (Nat.le_of_ble_eq_true rfl) (Nat.le_of_ble_eq_true rfl) rfl (c_X12_lots _ Ih22.1) (fun x24 h23 ph23 => ?_)
            obtain ⟨rfl, p_x24⟩ := ph23
            rw [Ih22.2 224 36 rfl, Ih22.2 227 _ rfl] at p_x24
            refine sx_iconst dX12_pick_74 ⟨by decide, by decide⟩ ?_
            refine sx_isub dX12_pick_75 ?_
            refine sy_topw (by omega) ?_
            refine sx_iload_n dX12_pick_76 rfl ?_
            refine sx_callVi lk_X12_670 cl_12 s_224 (by decide) dX12_pick_77 (vs := [_, _]) rfl rfl (Nat.le_of_ble_eq_true rfl) (Nat.le_of_ble_eq_true rfl) rfl (c_X12_timeBy _ Ih22.1 _ _ (mC_mK Ih22 rfl rfl hJ hB.1) (by rw [Ih22.2 224 36 rfl, Ih22.2 227 _ rfl]; omega)) (fun x26 h25 ph25 => ?_)
            have Kh25 := ph25
            have Ih25 := Ih22.tr Kh25 (prW_sub rfl rfl)
            have th25_224_71 := Kh25.2 224 71 rfl
            have th25_224_73 := Kh25.2 224 73 rfl
            have th25_224_74 := Kh25.2 224 74 rfl
            have th25_224_85 := Kh25.2 224 85 rfl
            have th25_224_100 := Kh25.2 224 100 rfl
            refine sx_istore dX12_pick_80 (by decide) ?_
            refine sx_aload_n dX12_pick_82 rfl ?_
            refine sx_getS (k := 61) (t := 261) cl_12 fl_X12_124 dX12_pick_83 s_224 (by decide) rfl (by decide) ?_
            refine sx_bipush dX12_pick_86 ⟨by decide, by decide, by decide⟩ ?_
            refine sx_dup2 dX12_pick_88 ?_
            refine sx_iaload dX12_pick_89 s_261 (by decide) (by decide) ⟨by omega, by omega⟩ ?_
            refine sx_iconst dX12_pick_90 ⟨by decide, by decide⟩ ?_
            refine sx_iload dX12_pick_91 rfl ?_
            refine sx_ishl dX12_pick_93 ?_
            refine sx_ixor dX12_pick_94 ?_
            refine sy_iastore dX12_pick_95 s_261 (by decide) (by decide) ⟨by omega, by omega⟩ (fun h27 eh27 => ?_)
            have Ih27 := Ih25.up eh27 (by exact omc_all_lt (Or.inl rfl) (by decide) (by decide)) rfl
            have th27_224_71 := eh27.2 (224) 71 (fun q => absurd q.1 (by decide))
            have th27_224_73 := eh27.2 (224) 73 (fun q => absurd q.1 (by decide))
            have th27_224_74 := eh27.2 (224) 74 (fun q => absurd q.1 (by decide))
            have th27_224_85 := eh27.2 (224) 85 (fun q => absurd q.1 (by decide))
            have th27_224_100 := eh27.2 (224) 100 (fun q => absurd q.1 (by decide))
            refine sx_iload dX12_pick_96 rfl ?_
            refine sx_iload_n dX12_pick_98 rfl ?_
            refine sx_icmp_lt (tgt := 105) dX12_pick_99 (by decide) (fun c28 => ?_) (fun c28 => ?_)
            ·
              refine sx_iload dX12_pick_105 rfl ?_
              refine sx_istore_n dX12_pick_107 (by decide) ?_
              refine sx_iload dX12_pick_108 rfl ?_
              refine sx_istore_n dX12_pick_110 (by decide) ?_
              refine sx_iinc dX12_pick_111 (by decide) rfl ?_
              rw [sw_w_id (by omega) (by omega)]
              refine sx_goto (tgt := 34) dX12_pick_114 (by decide) ?_
              refine sx_kill 5 ?_
              exact ihh11 _ _ _ _ ⟨Ih27, by omega⟩ (by exact sy_dec (by omega) (by omega))
            ·
              refine sx_goto (tgt := 111) dX12_pick_102 (by decide) ?_
              refine sx_iinc dX12_pick_111 (by decide) rfl ?_
              rw [sw_w_id (by omega) (by omega)]
              refine sx_goto (tgt := 34) dX12_pick_114 (by decide) ?_
              refine sx_kill 5 ?_
              exact ihh11 _ _ _ _ ⟨Ih27, by omega⟩ (by exact sy_dec (by omega) (by omega))
          ·
            have vx20 : x20 = 1 := by rcases zx20 with q | q; (exact absurd q c21); exact q
            clear zx20
            refine sx_goto (tgt := 111) dX12_pick_52 (by decide) ?_
            refine sx_iinc dX12_pick_111 (by decide) rfl ?_
            rw [sw_w_id (by omega) (by omega)]
            refine sx_goto (tgt := 34) dX12_pick_114 (by decide) ?_
            exact ihh11 _ _ _ _ ⟨Ih11, by omega⟩ (by exact sy_dec (by omega) (by omega))
      · exact ⟨Ih9, by omega⟩
    ·
      refine sx_iconst dX12_pick_15 ⟨by decide, by decide⟩ ?_
      refine sx_ireturn dX12_pick_16 ?_
      exact ⟨_, rfl, ⟨hI, mB_mK hI rfl rfl hJ hB, hI.2 224 100 rfl, by first | omega | (exfalso; omega)⟩⟩
set_option maxRecDepth 20000 in
set_option maxHeartbeats 4000000 in
theorem f_X12_law {G : sw_G} (d : Nat) {h0 : sw_H} (hJ : mI h0) (y1 : Int) (hB : mB h0)  (hF : FM h0) : sw_E G NH SH (d + 5) mX12_law 0 [some (sw_r 224), some (sw_i y1), none] [] h0 (sw_Qi (fun z h' => mK (prW [59, 60, 85] [251, 275, 276, 277]) h0 h' ∧ (mB h') ∧ (h' 224 100 = h0 224 100) ∧ (z = -1))) := by
  obtain ⟨b0, r0, t2, k4, k5, a3, a4, l3, s9, t0, z7, z8, z9, z10, z12, z61, z89⟩ := hF
  have fw : h0 227 (h0 224 36).toNat = 0 := z7 _
  have hI : mK (prW [59, 60, 85] [251, 275, 276, 277]) h0 h0 := mK.refl hJ
  refine sx_iload_n dX12_law_0 rfl ?_
  refine sx_iconst dX12_law_1 ⟨by decide, by decide⟩ ?_
  refine sx_bipush dX12_law_2 ⟨by decide, by decide, by decide⟩ ?_
  refine sx_callSz lk_X12_500 dX12_law_4 (vs := [_, _, _]) rfl rfl (Nat.le_of_ble_eq_true rfl) (Nat.le_of_ble_eq_true rfl) rfl (c_X12_isIn _ hI.1 _ _ _) (fun x2 h1 zx2 ph1 => ?_)
  obtain ⟨rfl, p_x2⟩ := ph1
  refine sx_if_eq (tgt := 17) dX12_law_7 (by decide) (fun c3 => ?_) (fun c3 => ?_)
  ·
    replace p_x2 := mt p_x2.mpr (show ¬ (x2 = 1) by rw [c3]; decide)
    clear zx2
    refine sx_iconst dX12_law_17 ⟨by decide, by decide⟩ ?_
    refine sx_ireturn dX12_law_18 ?_
    exact ⟨_, rfl, ⟨hI, ⟨mC_mK hI rfl rfl hJ hB.1, by have := hB.2; omega, by have := hB.2; omega, by have := hB.2; omega⟩, hI.2 224 100 rfl, by first | omega | (exfalso; omega)⟩⟩
  ·
    have vx2 : x2 = 1 := by rcases zx2 with q | q; (exact absurd q c3); exact q
    replace p_x2 := p_x2.mp vx2
    clear zx2
    refine sx_aload_n dX12_law_10 rfl ?_
    refine sx_callVi lk_X12_497 cl_12 s_224 (by decide) dX12_law_11 (vs := []) rfl rfl (Nat.le_of_ble_eq_true rfl) (Nat.le_of_ble_eq_true rfl) rfl (c_X12_lots _ hI.1) (fun x5 h4 ph4 => ?_)
    obtain ⟨rfl, p_x5⟩ := ph4
    refine sx_if_ne (tgt := 19) dX12_law_14 (by decide) (fun c6 => ?_) (fun c6 => ?_)
    ·
      refine sx_aload_n dX12_law_19 rfl ?_
      refine sx_iload_n dX12_law_20 rfl ?_
      refine sy_putI (k := 85) cl_12 fl_X12_169 dX12_law_21 s_224 (by decide) rfl (by decide) rfl rfl (fun h7 eh7 => ?_)
      have Ih7 := hI.up eh7 trivial rfl
      have th7_224_71 := eh7.2 (224) 71 (by decide)
      have th7_224_73 := eh7.2 (224) 73 (by decide)
      have th7_224_74 := eh7.2 (224) 74 (by decide)
      have th7_224_85 := eh7.1
      have th7_224_100 := eh7.2 (224) 100 (by decide)
      refine sx_aload_n dX12_law_24 rfl ?_
      refine sx_aload_n dX12_law_25 rfl ?_
      refine sx_callVi lk_X12_497 cl_12 s_224 (by decide) dX12_law_26 (vs := []) rfl rfl (Nat.le_of_ble_eq_true rfl) (Nat.le_of_ble_eq_true rfl) rfl (c_X12_lots _ Ih7.1) (fun x9 h8 ph8 => ?_)
      obtain ⟨rfl, p_x9⟩ := ph8
      rw [Ih7.2 224 36 rfl, Ih7.2 227 _ rfl] at p_x9
      refine sx_iconst dX12_law_29 ⟨by decide, by decide⟩ ?_
      refine sx_isub dX12_law_30 ?_
      refine sy_topw (by omega) ?_
      refine sx_iconst dX12_law_31 ⟨by decide, by decide⟩ ?_
      refine sx_callVi lk_X12_670 cl_12 s_224 (by decide) dX12_law_32 (vs := [_, _]) rfl rfl (Nat.le_of_ble_eq_true rfl) (Nat.le_of_ble_eq_true rfl) rfl (c_X12_timeBy _ Ih7.1 _ _ (mC_mK Ih7 rfl rfl hJ hB.1) (by rw [Ih7.2 224 36 rfl, Ih7.2 227 _ rfl]; omega)) (fun x11 h10 ph10 => ?_)
      have Kh10 := ph10
      have Ih10 := Ih7.tr Kh10 (prW_sub rfl rfl)
      have th10_224_71 := Kh10.2 224 71 rfl
      have th10_224_73 := Kh10.2 224 73 rfl
      have th10_224_74 := Kh10.2 224 74 rfl
      have th10_224_85 := Kh10.2 224 85 rfl
      have th10_224_100 := Kh10.2 224 100 rfl
      refine sx_istore_n dX12_law_35 (by decide) ?_
      refine sx_aload_n dX12_law_36 rfl ?_
      refine sx_iconst dX12_law_37 ⟨by decide, by decide⟩ ?_
      refine sy_putI (k := 85) cl_12 fl_X12_169 dX12_law_38 s_224 (by decide) rfl (by decide) rfl rfl (fun h12 eh12 => ?_)
      have Ih12 := Ih10.up eh12 trivial rfl
      have th12_224_71 := eh12.2 (224) 71 (by decide)
      have th12_224_73 := eh12.2 (224) 73 (by decide)
      have th12_224_74 := eh12.2 (224) 74 (by decide)
      have th12_224_85 := eh12.1
      have th12_224_100 := eh12.2 (224) 100 (by decide)
      refine sx_iload_n dX12_law_41 rfl ?_
      refine sx_ireturn dX12_law_42 ?_
      exact ⟨_, rfl, ⟨Ih12, ⟨mC_mK Ih12 rfl rfl hJ hB.1, by have := hB.2; omega, by have := hB.2; omega, by have := hB.2; omega⟩, Ih12.2 224 100 rfl, by first | omega | (exfalso; omega)⟩⟩
    ·
      refine sx_iconst dX12_law_17 ⟨by decide, by decide⟩ ?_
      refine sx_ireturn dX12_law_18 ?_
      exact ⟨_, rfl, ⟨hI, ⟨mC_mK hI rfl rfl hJ hB.1, by have := hB.2; omega, by have := hB.2; omega, by have := hB.2; omega⟩, hI.2 224 100 rfl, by first | omega | (exfalso; omega)⟩⟩
set_option maxRecDepth 20000 in
set_option maxHeartbeats 4000000 in
theorem f_X12_seen {G : sw_G} (d : Nat) {h0 : sw_H} (hJ : mI h0) (y1 y2 y3 y4 y5 : Int) (hB : mB h0)  (hF : FM h0) : sw_E G NH SH (d + 1) mX12_seen 0 [some (sw_r 224), some (sw_i y1), some (sw_i y2), some (sw_i y3), some (sw_i y4), some (sw_i y5)] [] h0 (sw_Qi (fun z h' => mK (prW [99] [279, 280, 281, 282, 283, 284, 285]) h0 h' ∧ (mB h') ∧ (h' 224 100 = h0 224 100) ∧ (z = -1))) := by
  obtain ⟨b0, r0, t2, k4, k5, a3, a4, l3, s9, t0, z7, z8, z9, z10, z12, z61, z89⟩ := hF
  have fw : h0 227 (h0 224 36).toNat = 0 := z7 _
  have hI : mK (prW [99] [279, 280, 281, 282, 283, 284, 285]) h0 h0 := mK.refl hJ
  refine sx_iload_n dX12_seen_0 rfl ?_
  refine sx_iconst dX12_seen_1 ⟨by decide, by decide⟩ ?_
  refine sx_bipush dX12_seen_2 ⟨by decide, by decide, by decide⟩ ?_
  refine sx_callSz lk_X12_500 dX12_seen_4 (vs := [_, _, _]) rfl rfl (Nat.le_of_ble_eq_true rfl) (Nat.le_of_ble_eq_true rfl) rfl (c_X12_isIn _ hI.1 _ _ _) (fun x2 h1 zx2 ph1 => ?_)
  obtain ⟨rfl, p_x2⟩ := ph1
  refine sx_if_eq (tgt := 46) dX12_seen_7 (by decide) (fun c3 => ?_) (fun c3 => ?_)
  ·
    replace p_x2 := mt p_x2.mpr (show ¬ (x2 = 1) by rw [c3]; decide)
    clear zx2
    refine sx_iconst dX12_seen_46 ⟨by decide, by decide⟩ ?_
    refine sx_ireturn dX12_seen_47 ?_
    exact ⟨_, rfl, ⟨hI, mB_mK hI rfl rfl hJ hB, hI.2 224 100 rfl, by first | omega | (exfalso; omega)⟩⟩
  ·
    have vx2 : x2 = 1 := by rcases zx2 with q | q; (exact absurd q c3); exact q
    replace p_x2 := p_x2.mp vx2
    clear zx2
    refine sx_iload_n dX12_seen_10 rfl ?_
    refine sx_iconst dX12_seen_11 ⟨by decide, by decide⟩ ?_
    refine sx_bipush dX12_seen_12 ⟨by decide, by decide, by decide⟩ ?_
    refine sx_callSz lk_X12_500 dX12_seen_14 (vs := [_, _, _]) rfl rfl (Nat.le_of_ble_eq_true rfl) (Nat.le_of_ble_eq_true rfl) rfl (c_X12_isIn _ hI.1 _ _ _) (fun x5 h4 zx5 ph4 => ?_)
    obtain ⟨rfl, p_x5⟩ := ph4
    refine sx_if_eq (tgt := 46) dX12_seen_17 (by decide) (fun c6 => ?_) (fun c6 => ?_)
    ·
      replace p_x5 := mt p_x5.mpr (show ¬ (x5 = 1) by rw [c6]; decide)
      clear zx5
      refine sx_iconst dX12_seen_46 ⟨by decide, by decide⟩ ?_
      refine sx_ireturn dX12_seen_47 ?_
      exact ⟨_, rfl, ⟨hI, mB_mK hI rfl rfl hJ hB, hI.2 224 100 rfl, by first | omega | (exfalso; omega)⟩⟩
    ·
      have vx5 : x5 = 1 := by rcases zx5 with q | q; (exact absurd q c6); exact q
      replace p_x5 := p_x5.mp vx5
      clear zx5
      refine sx_iload_n dX12_seen_20 rfl ?_
      refine sx_iconst dX12_seen_21 ⟨by decide, by decide⟩ ?_
      refine sx_bipush dX12_seen_22 ⟨by decide, by decide, by decide⟩ ?_
      refine sx_callSz lk_X12_500 dX12_seen_24 (vs := [_, _, _]) rfl rfl (Nat.le_of_ble_eq_true rfl) (Nat.le_of_ble_eq_true rfl) rfl (c_X12_isIn _ hI.1 _ _ _) (fun x8 h7 zx8 ph7 => ?_)
      obtain ⟨rfl, p_x8⟩ := ph7
      refine sx_if_eq (tgt := 46) dX12_seen_27 (by decide) (fun c9 => ?_) (fun c9 => ?_)
      ·
        replace p_x8 := mt p_x8.mpr (show ¬ (x8 = 1) by rw [c9]; decide)
        clear zx8
        refine sx_iconst dX12_seen_46 ⟨by decide, by decide⟩ ?_
        refine sx_ireturn dX12_seen_47 ?_
        exact ⟨_, rfl, ⟨hI, mB_mK hI rfl rfl hJ hB, hI.2 224 100 rfl, by first | omega | (exfalso; omega)⟩⟩
      ·
        have vx8 : x8 = 1 := by rcases zx8 with q | q; (exact absurd q c9); exact q
        replace p_x8 := p_x8.mp vx8
        clear zx8
        refine sx_aload_n dX12_seen_30 rfl ?_
        refine sx_getI (k := 99) cl_12 fl_X12_513 dX12_seen_31 s_224 (by decide) rfl (by decide) ?_
        have r10 : (0 : Int) ≤ h0 224 99 ∧ h0 224 99 ≤ 30 := hI.1 224 99
        refine sx_bipush dX12_seen_34 ⟨by decide, by decide, by decide⟩ ?_
        refine sx_icmp_eq (tgt := 46) dX12_seen_36 (by decide) (fun c11 => ?_) (fun c11 => ?_)
        ·
          refine sx_iconst dX12_seen_46 ⟨by decide, by decide⟩ ?_
          refine sx_ireturn dX12_seen_47 ?_
          exact ⟨_, rfl, ⟨hI, mB_mK hI rfl rfl hJ hB, hI.2 224 100 rfl, by first | omega | (exfalso; omega)⟩⟩
        ·
          refine sx_aload_n dX12_seen_39 rfl ?_
          refine sx_callVi lk_X12_497 cl_12 s_224 (by decide) dX12_seen_40 (vs := []) rfl rfl (Nat.le_of_ble_eq_true rfl) (Nat.le_of_ble_eq_true rfl) rfl (c_X12_lots _ hI.1) (fun x13 h12 ph12 => ?_)
          obtain ⟨rfl, p_x13⟩ := ph12
          refine sx_if_ne (tgt := 48) dX12_seen_43 (by decide) (fun c14 => ?_) (fun c14 => ?_)
          ·
            refine sx_aload_n dX12_seen_48 rfl ?_
            refine sx_getS (k := 90) (t := 279) cl_12 fl_X12_184 dX12_seen_49 s_224 (by decide) rfl (by decide) ?_
            refine sx_aload_n dX12_seen_52 rfl ?_
            refine sx_getI (k := 99) cl_12 fl_X12_513 dX12_seen_53 s_224 (by decide) rfl (by decide) ?_
            have r15 : (0 : Int) ≤ h0 224 99 ∧ h0 224 99 ≤ 30 := hI.1 224 99
            refine sx_iload_n dX12_seen_56 rfl ?_
            refine sy_iastore dX12_seen_57 s_279 (by decide) (by decide) ⟨by omega, by omega⟩ (fun h16 eh16 => ?_)
            have Ih16 := hI.up eh16 trivial rfl
            have th16_224_99 := eh16.2 (224) 99 (fun q => absurd q.1 (by decide))
            refine sx_aload_n dX12_seen_58 rfl ?_
            refine sx_getS (k := 91) (t := 280) cl_12 fl_X12_187 dX12_seen_59 s_224 (by decide) rfl (by decide) ?_
            refine sx_aload_n dX12_seen_62 rfl ?_
            refine sx_getI (k := 99) cl_12 fl_X12_513 dX12_seen_63 s_224 (by decide) rfl (by decide) ?_
            have r17 : (0 : Int) ≤ h16 224 99 ∧ h16 224 99 ≤ 30 := Ih16.1 224 99
            refine sx_iload_n dX12_seen_66 rfl ?_
            refine sy_iastore dX12_seen_67 s_280 (by decide) (by decide) ⟨by omega, by omega⟩ (fun h18 eh18 => ?_)
            have Ih18 := Ih16.up eh18 trivial rfl
            have th18_224_99 := eh18.2 (224) 99 (fun q => absurd q.1 (by decide))
            refine sx_aload_n dX12_seen_68 rfl ?_
            refine sx_getS (k := 92) (t := 281) cl_12 fl_X12_190 dX12_seen_69 s_224 (by decide) rfl (by decide) ?_
            refine sx_aload_n dX12_seen_72 rfl ?_
            refine sx_getI (k := 99) cl_12 fl_X12_513 dX12_seen_73 s_224 (by decide) rfl (by decide) ?_
            have r19 : (0 : Int) ≤ h18 224 99 ∧ h18 224 99 ≤ 30 := Ih18.1 224 99
            refine sx_iload_n dX12_seen_76 rfl ?_
            refine sy_iastore dX12_seen_77 s_281 (by decide) (by decide) ⟨by omega, by omega⟩ (fun h20 eh20 => ?_)
            have Ih20 := Ih18.up eh20 trivial rfl
            have th20_224_99 := eh20.2 (224) 99 (fun q => absurd q.1 (by decide))
            refine sx_aload_n dX12_seen_78 rfl ?_
            refine sx_getS (k := 93) (t := 282) cl_12 fl_X12_193 dX12_seen_79 s_224 (by decide) rfl (by decide) ?_
            refine sx_aload_n dX12_seen_82 rfl ?_
            refine sx_getI (k := 99) cl_12 fl_X12_513 dX12_seen_83 s_224 (by decide) rfl (by decide) ?_
            have r21 : (0 : Int) ≤ h20 224 99 ∧ h20 224 99 ≤ 30 := Ih20.1 224 99
            refine sx_iload dX12_seen_86 rfl ?_
            refine sy_iastore dX12_seen_88 s_282 (by decide) (by decide) ⟨by omega, by omega⟩ (fun h22 eh22 => ?_)
            have Ih22 := Ih20.up eh22 trivial rfl
            have th22_224_99 := eh22.2 (224) 99 (fun q => absurd q.1 (by decide))
            refine sx_aload_n dX12_seen_89 rfl ?_
            refine sx_getS (k := 94) (t := 283) cl_12 fl_X12_196 dX12_seen_90 s_224 (by decide) rfl (by decide) ?_
            refine sx_aload_n dX12_seen_93 rfl ?_
            refine sx_getI (k := 99) cl_12 fl_X12_513 dX12_seen_94 s_224 (by decide) rfl (by decide) ?_
            have r23 : (0 : Int) ≤ h22 224 99 ∧ h22 224 99 ≤ 30 := Ih22.1 224 99
            refine sx_iload dX12_seen_97 rfl ?_
            refine sx_if_eq (tgt := 106) dX12_seen_99 (by decide) (fun c24 => ?_) (fun c24 => ?_)
            ·
              refine sx_iconst dX12_seen_106 ⟨by decide, by decide⟩ ?_
              refine sy_iastore dX12_seen_107 s_283 (by decide) (by decide) ⟨by omega, by omega⟩ (fun h25 eh25 => ?_)
              have Ih25 := Ih22.up eh25 trivial rfl
              have th25_224_99 := eh25.2 (224) 99 (fun q => absurd q.1 (by decide))
              refine sx_aload_n dX12_seen_108 rfl ?_
              refine sx_getS (k := 95) (t := 284) cl_12 fl_X12_199 dX12_seen_109 s_224 (by decide) rfl (by decide) ?_
              refine sx_aload_n dX12_seen_112 rfl ?_
              refine sx_getI (k := 99) cl_12 fl_X12_513 dX12_seen_113 s_224 (by decide) rfl (by decide) ?_
              have r26 : (0 : Int) ≤ h25 224 99 ∧ h25 224 99 ≤ 30 := Ih25.1 224 99
              refine sx_aload_n dX12_seen_116 rfl ?_
              refine sx_getI (k := 100) cl_12 fl_X12_679 dX12_seen_117 s_224 (by decide) rfl (by decide) ?_
              have r27 : (0 : Int) ≤ h25 224 100 ∧ h25 224 100 ≤ 100000 := Ih25.1 224 100
              refine sy_iastore dX12_seen_120 s_284 (by decide) (by decide) ⟨by omega, by omega⟩ (fun h28 eh28 => ?_)
              have Ih28 := Ih25.up eh28 trivial rfl
              have th28_224_99 := eh28.2 (224) 99 (fun q => absurd q.1 (by decide))
              refine sx_aload_n dX12_seen_121 rfl ?_
              refine sx_getS (k := 96) (t := 285) cl_12 fl_X12_202 dX12_seen_122 s_224 (by decide) rfl (by decide) ?_
              refine sx_aload_n dX12_seen_125 rfl ?_
              refine sx_getI (k := 99) cl_12 fl_X12_513 dX12_seen_126 s_224 (by decide) rfl (by decide) ?_
              have r29 : (0 : Int) ≤ h28 224 99 ∧ h28 224 99 ≤ 30 := Ih28.1 224 99
              refine sx_iconst dX12_seen_129 ⟨by decide, by decide⟩ ?_
              refine sy_iastore dX12_seen_130 s_285 (by decide) (by decide) ⟨by omega, by omega⟩ (fun h30 eh30 => ?_)
              have Ih30 := Ih28.up eh30 trivial rfl
              have th30_224_99 := eh30.2 (224) 99 (fun q => absurd q.1 (by decide))
              refine sx_aload_n dX12_seen_131 rfl ?_
              refine sx_dupr dX12_seen_132 ?_
              refine sx_getI (k := 99) cl_12 fl_X12_513 dX12_seen_133 s_224 (by decide) rfl (by decide) ?_
              have r31 : (0 : Int) ≤ h30 224 99 ∧ h30 224 99 ≤ 30 := Ih30.1 224 99
              refine sx_iconst dX12_seen_136 ⟨by decide, by decide⟩ ?_
              refine sx_iadd dX12_seen_137 ?_
              refine sy_topw (by omega) ?_
              refine sy_putI (k := 99) cl_12 fl_X12_513 dX12_seen_138 s_224 (by decide) rfl (by decide) rfl rfl (fun h32 eh32 => ?_)
              have Ih32 := Ih30.up eh32 (show (0 : Int) ≤ _ ∧ _ ≤ (30 : Int) from ⟨by omega, by omega⟩) rfl
              have th32_224_99 := eh32.1
              refine sx_aload_n dX12_seen_141 rfl ?_
              refine sx_getI (k := 99) cl_12 fl_X12_513 dX12_seen_142 s_224 (by decide) rfl (by decide) ?_
              have r33 : (0 : Int) ≤ h32 224 99 ∧ h32 224 99 ≤ 30 := Ih32.1 224 99
              refine sx_iconst dX12_seen_145 ⟨by decide, by decide⟩ ?_
              refine sx_isub dX12_seen_146 ?_
              refine sy_topw (by omega) ?_
              refine sx_ireturn dX12_seen_147 ?_
              exact ⟨_, rfl, ⟨Ih32, mB_mK Ih32 rfl rfl hJ hB, Ih32.2 224 100 rfl, by first | omega | (exfalso; omega)⟩⟩
            ·
              refine sx_iconst dX12_seen_102 ⟨by decide, by decide⟩ ?_
              refine sx_goto (tgt := 107) dX12_seen_103 (by decide) ?_
              refine sy_iastore dX12_seen_107 s_283 (by decide) (by decide) ⟨by omega, by omega⟩ (fun h34 eh34 => ?_)
              have Ih34 := Ih22.up eh34 trivial rfl
              have th34_224_99 := eh34.2 (224) 99 (fun q => absurd q.1 (by decide))
              refine sx_aload_n dX12_seen_108 rfl ?_
              refine sx_getS (k := 95) (t := 284) cl_12 fl_X12_199 dX12_seen_109 s_224 (by decide) rfl (by decide) ?_
              refine sx_aload_n dX12_seen_112 rfl ?_
              refine sx_getI (k := 99) cl_12 fl_X12_513 dX12_seen_113 s_224 (by decide) rfl (by decide) ?_
              have r35 : (0 : Int) ≤ h34 224 99 ∧ h34 224 99 ≤ 30 := Ih34.1 224 99
              refine sx_aload_n dX12_seen_116 rfl ?_
              refine sx_getI (k := 100) cl_12 fl_X12_679 dX12_seen_117 s_224 (by decide) rfl (by decide) ?_
              have r36 : (0 : Int) ≤ h34 224 100 ∧ h34 224 100 ≤ 100000 := Ih34.1 224 100
              refine sy_iastore dX12_seen_120 s_284 (by decide) (by decide) ⟨by omega, by omega⟩ (fun h37 eh37 => ?_)
              have Ih37 := Ih34.up eh37 trivial rfl
              have th37_224_99 := eh37.2 (224) 99 (fun q => absurd q.1 (by decide))
              refine sx_aload_n dX12_seen_121 rfl ?_
              refine sx_getS (k := 96) (t := 285) cl_12 fl_X12_202 dX12_seen_122 s_224 (by decide) rfl (by decide) ?_
              refine sx_aload_n dX12_seen_125 rfl ?_
              refine sx_getI (k := 99) cl_12 fl_X12_513 dX12_seen_126 s_224 (by decide) rfl (by decide) ?_
              have r38 : (0 : Int) ≤ h37 224 99 ∧ h37 224 99 ≤ 30 := Ih37.1 224 99
              refine sx_iconst dX12_seen_129 ⟨by decide, by decide⟩ ?_
              refine sy_iastore dX12_seen_130 s_285 (by decide) (by decide) ⟨by omega, by omega⟩ (fun h39 eh39 => ?_)
              have Ih39 := Ih37.up eh39 trivial rfl
              have th39_224_99 := eh39.2 (224) 99 (fun q => absurd q.1 (by decide))
              refine sx_aload_n dX12_seen_131 rfl ?_
              refine sx_dupr dX12_seen_132 ?_
              refine sx_getI (k := 99) cl_12 fl_X12_513 dX12_seen_133 s_224 (by decide) rfl (by decide) ?_
              have r40 : (0 : Int) ≤ h39 224 99 ∧ h39 224 99 ≤ 30 := Ih39.1 224 99
              refine sx_iconst dX12_seen_136 ⟨by decide, by decide⟩ ?_
              refine sx_iadd dX12_seen_137 ?_
              refine sy_topw (by omega) ?_
              refine sy_putI (k := 99) cl_12 fl_X12_513 dX12_seen_138 s_224 (by decide) rfl (by decide) rfl rfl (fun h41 eh41 => ?_)
              have Ih41 := Ih39.up eh41 (show (0 : Int) ≤ _ ∧ _ ≤ (30 : Int) from ⟨by omega, by omega⟩) rfl
              have th41_224_99 := eh41.1
              refine sx_aload_n dX12_seen_141 rfl ?_
              refine sx_getI (k := 99) cl_12 fl_X12_513 dX12_seen_142 s_224 (by decide) rfl (by decide) ?_
              have r42 : (0 : Int) ≤ h41 224 99 ∧ h41 224 99 ≤ 30 := Ih41.1 224 99
              refine sx_iconst dX12_seen_145 ⟨by decide, by decide⟩ ?_
              refine sx_isub dX12_seen_146 ?_
              refine sy_topw (by omega) ?_
              refine sx_ireturn dX12_seen_147 ?_
              exact ⟨_, rfl, ⟨Ih41, mB_mK Ih41 rfl rfl hJ hB, Ih41.2 224 100 rfl, by first | omega | (exfalso; omega)⟩⟩
          ·
            refine sx_iconst dX12_seen_46 ⟨by decide, by decide⟩ ?_
            refine sx_ireturn dX12_seen_47 ?_
            exact ⟨_, rfl, ⟨hI, mB_mK hI rfl rfl hJ hB, hI.2 224 100 rfl, by first | omega | (exfalso; omega)⟩⟩

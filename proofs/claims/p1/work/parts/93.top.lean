set_option maxRecDepth 20000 in
set_option maxHeartbeats 4000000 in
theorem c_X11_isForm {G : sw_G} (d : Nat) {h0 : sw_H} (hJ : cJ h0) (n : Int) : sw_E G NH SH (d) mX11_isForm 0 [some (sw_i n)] [] h0 (sw_Qz (fun z h' => h0 = h' ∧ (z = 1 → 0 ≤ n ∧ n ≤ 2))) := by
  have hI : cK pr0 h0 h0 := cK.refl hJ
  refine sx_iload_n dX11_isForm_0 rfl ?_
  refine sx_if_lt (tgt := 13) dX11_isForm_1 (by decide) (fun c1 => ?_) (fun c1 => ?_)
  ·
    refine sx_iconst dX11_isForm_13 ⟨by decide, by decide⟩ ?_
    refine sx_ireturn dX11_isForm_14 ?_
    exact ⟨_, rfl, by omega, ⟨rfl, fun q => by omega⟩⟩
  ·
    refine sx_iload_n dX11_isForm_4 rfl ?_
    refine sx_iconst dX11_isForm_5 ⟨by decide, by decide⟩ ?_
    refine sx_icmp_ge (tgt := 13) dX11_isForm_6 (by decide) (fun c2 => ?_) (fun c2 => ?_)
    ·
      refine sx_iconst dX11_isForm_13 ⟨by decide, by decide⟩ ?_
      refine sx_ireturn dX11_isForm_14 ?_
      exact ⟨_, rfl, by omega, ⟨rfl, fun q => by omega⟩⟩
    ·
      refine sx_iconst dX11_isForm_9 ⟨by decide, by decide⟩ ?_
      refine sx_goto (tgt := 14) dX11_isForm_10 (by decide) ?_
      refine sx_ireturn dX11_isForm_14 ?_
      exact ⟨_, rfl, by omega, ⟨rfl, fun q => by omega⟩⟩
set_option maxRecDepth 20000 in
set_option maxHeartbeats 4000000 in
theorem c_X11_isDigit {G : sw_G} (d : Nat) {h0 : sw_H} (hJ : cJ h0) (n : Int) : sw_E G NH SH (d) mX11_isDigit 0 [some (sw_i n)] [] h0 (sw_Qz (fun z h' => h0 = h' ∧ (z = 1 → 0 ≤ n ∧ n ≤ 9))) := by
  have hI : cK pr0 h0 h0 := cK.refl hJ
  refine sx_iload_n dX11_isDigit_0 rfl ?_
  refine sx_if_lt (tgt := 14) dX11_isDigit_1 (by decide) (fun c1 => ?_) (fun c1 => ?_)
  ·
    refine sx_iconst dX11_isDigit_14 ⟨by decide, by decide⟩ ?_
    refine sx_ireturn dX11_isDigit_15 ?_
    exact ⟨_, rfl, by omega, ⟨rfl, fun q => by omega⟩⟩
  ·
    refine sx_iload_n dX11_isDigit_4 rfl ?_
    refine sx_bipush dX11_isDigit_5 ⟨by decide, by decide, by decide⟩ ?_
    refine sx_icmp_gt (tgt := 14) dX11_isDigit_7 (by decide) (fun c2 => ?_) (fun c2 => ?_)
    ·
      refine sx_iconst dX11_isDigit_14 ⟨by decide, by decide⟩ ?_
      refine sx_ireturn dX11_isDigit_15 ?_
      exact ⟨_, rfl, by omega, ⟨rfl, fun q => by omega⟩⟩
    ·
      refine sx_iconst dX11_isDigit_10 ⟨by decide, by decide⟩ ?_
      refine sx_goto (tgt := 15) dX11_isDigit_11 (by decide) ?_
      refine sx_ireturn dX11_isDigit_15 ?_
      exact ⟨_, rfl, by omega, ⟨rfl, fun q => by omega⟩⟩
set_option maxRecDepth 20000 in
set_option maxHeartbeats 4000000 in
theorem c_X11_commonDivisor {G : sw_G} (d : Nat) {h0 : sw_H} (hJ : cJ h0) (a b : Int) : sw_E G NH SH (d + 1) mX11_commonDivisor 0 [some (sw_i a), some (sw_i b), none, none, none, none] [] h0 (sw_Qi (fun z h' => h0 = h' ∧ 1 ≤ z)) := by
  have hI : cK pr0 h0 h0 := cK.refl hJ
  refine sx_iload_n dX11_commonDivisor_0 rfl ?_
  refine sx_istore_n dX11_commonDivisor_1 (by decide) ?_
  refine sx_iload_n dX11_commonDivisor_2 rfl ?_
  refine sx_istore_n dX11_commonDivisor_3 (by decide) ?_
  refine sx_iconst dX11_commonDivisor_4 ⟨by decide, by decide⟩ ?_
  refine sx_istore dX11_commonDivisor_5 (by decide) ?_
  refine sx_loop3 (fun (h : sw_H) (x : Int) (y : Int) (i : Int) => (h0 = h) ∧ (0 ≤ i)) (fun (h : sw_H) (x : Int) (y : Int) (i : Int) => (100 - i).toNat) (fun (h : sw_H) (x : Int) (y : Int) (i : Int) => sw_E G NH SH (d + 1) mX11_commonDivisor 7 [some (sw_i a), some (sw_i b), some (sw_i x), some (sw_i y), some (sw_i i), none] [] h (sw_Qi (fun z h' => h0 = h' ∧ 1 ≤ z))) ?_ _ _ _ _ ?_
  · rintro h1 x_2 y_3 i_4 ⟨rfl, j5⟩ ihh1
    try dsimp only at ihh1
    refine sx_iload dX11_commonDivisor_7 rfl ?_
    refine sx_bipush dX11_commonDivisor_9 ⟨by decide, by decide, by decide⟩ ?_
    refine sx_icmp_ge (tgt := 34) dX11_commonDivisor_11 (by decide) (fun c6 => ?_) (fun c6 => ?_)
    ·
      refine sx_iconst dX11_commonDivisor_34 ⟨by decide, by decide⟩ ?_
      refine sx_iload_n dX11_commonDivisor_35 rfl ?_
      refine sx_max lm_X11_215 lw_max dX11_commonDivisor_36 (Nat.le_of_ble_eq_true rfl) ?_
      refine sy_max (fun m7 em7 fm7 gm7 => ?_)
      refine sx_ireturn dX11_commonDivisor_39 ?_
      exact ⟨_, rfl, ⟨rfl, by omega⟩⟩
    ·
      refine sx_iload_n dX11_commonDivisor_14 rfl ?_
      refine sx_if_eq (tgt := 34) dX11_commonDivisor_15 (by decide) (fun c8 => ?_) (fun c8 => ?_)
      ·
        refine sx_iconst dX11_commonDivisor_34 ⟨by decide, by decide⟩ ?_
        refine sx_iload_n dX11_commonDivisor_35 rfl ?_
        refine sx_max lm_X11_215 lw_max dX11_commonDivisor_36 (Nat.le_of_ble_eq_true rfl) ?_
        refine sy_max (fun m9 em9 fm9 gm9 => ?_)
        refine sx_ireturn dX11_commonDivisor_39 ?_
        exact ⟨_, rfl, ⟨rfl, by omega⟩⟩
      ·
        refine sx_iload_n dX11_commonDivisor_18 rfl ?_
        refine sx_iload_n dX11_commonDivisor_19 rfl ?_
        refine sx_irem dX11_commonDivisor_20 (by omega) ?_
        refine sy_top (fun v10 ev10 => ?_)
        refine sx_istore dX11_commonDivisor_21 (by decide) ?_
        refine sx_iload_n dX11_commonDivisor_23 rfl ?_
        refine sx_istore_n dX11_commonDivisor_24 (by decide) ?_
        refine sx_iload dX11_commonDivisor_25 rfl ?_
        refine sx_istore_n dX11_commonDivisor_27 (by decide) ?_
        refine sx_iinc dX11_commonDivisor_28 (by decide) rfl ?_
        rw [sw_w_id (by omega) (by omega)]
        refine sx_goto (tgt := 7) dX11_commonDivisor_31 (by decide) ?_
        refine sx_kill 5 ?_
        exact ihh1 _ _ _ _ ⟨rfl, by omega⟩ (by exact sy_dec (by omega) (by omega))
  · exact ⟨rfl, by omega⟩
set_option maxRecDepth 20000 in
set_option maxHeartbeats 4000000 in
theorem c_X11_append {G : sw_G} (d : Nat) {h0 : sw_H} (hJ : cJ h0) (n : Int) : sw_E G NH SH (d) mX11_append 0 [some (sw_r 0), some (sw_i n), none] [] h0 (sw_Qv (fun h' => cK pr0 h0 h')) := by
  have hI : cK pr0 h0 h0 := cK.refl hJ
  refine sx_bipush dX11_append_0 ⟨by decide, by decide, by decide⟩ ?_
  refine sx_istore_n dX11_append_2 (by decide) ?_
  refine sx_loop1 (fun (h : sw_H) (s : Int) => (cK pr0 h0 h) ∧ (s ≤ 24)) (fun (h : sw_H) (s : Int) => (s + 8).toNat) (fun (h : sw_H) (s : Int) => sw_E G NH SH (d) mX11_append 3 [some (sw_r 0), some (sw_i n), some (sw_i s)] [] h (sw_Qv (fun h' => cK pr0 h0 h'))) ?_ _ _ ?_
  · rintro h1 s_2 ⟨Ih1, j3⟩ ihh1
    try dsimp only at ihh1
    refine sx_iload_n dX11_append_3 rfl ?_
    refine sx_if_lt (tgt := 52) dX11_append_4 (by decide) (fun c4 => ?_) (fun c4 => ?_)
    ·
      refine sx_ret dX11_append_52 ?_
      exact ⟨rfl, Ih1⟩
    ·
      refine sx_aload_n dX11_append_7 rfl ?_
      refine sx_getI (k := 0) cl_11 fl_X11_76 dX11_append_8 s_0 (by decide) rfl (by decide) ?_
      have r5 : (0 : Int) ≤ h1 0 0 ∧ h1 0 0 ≤ 1600 := Ih1.1.1 0 0
      refine sx_sipush dX11_append_11 ⟨by decide, by decide, by decide⟩ ?_
      refine sx_icmp_ge (tgt := 52) dX11_append_14 (by decide) (fun c6 => ?_) (fun c6 => ?_)
      ·
        refine sx_ret dX11_append_52 ?_
        exact ⟨rfl, Ih1⟩
      ·
        refine sx_aload_n dX11_append_17 rfl ?_
        refine sx_getS (k := 4) (t := 33) cl_11 fl_X11_29 dX11_append_18 s_0 (by decide) rfl (by decide) ?_
        refine sx_getS (k := 0) (t := 34) cl_3 fl_X11_87 dX11_append_21 s_33 (by decide) rfl (by decide) ?_
        refine sx_getS (k := 0) (t := 35) cl_5 fl_X11_336 dX11_append_24 s_34 (by decide) rfl (by decide) ?_
        refine sx_aload_n dX11_append_27 rfl ?_
        refine sx_getI (k := 0) cl_11 fl_X11_76 dX11_append_28 s_0 (by decide) rfl (by decide) ?_
        have r7 : (0 : Int) ≤ h1 0 0 ∧ h1 0 0 ≤ 1600 := Ih1.1.1 0 0
        refine sx_iload_n dX11_append_31 rfl ?_
        refine sx_iload_n dX11_append_32 rfl ?_
        refine sx_ishr dX11_append_33 ?_
        refine sx_i2b dX11_append_34 ?_
        refine sy_bastore dX11_append_35 s_35 (by decide) (by decide) ⟨by omega, by omega⟩ (by (unfold sw_b8; omega)) (fun h8 eh8 => ?_)
        have Ih8 := Ih1.up eh8 trivial rfl rfl
        have th8_0_0 := eh8.2 (0) 0 (by omega)
        refine sx_aload_n dX11_append_36 rfl ?_
        refine sx_dupr dX11_append_37 ?_
        refine sx_getI (k := 0) cl_11 fl_X11_76 dX11_append_38 s_0 (by decide) rfl (by decide) ?_
        have r9 : (0 : Int) ≤ h8 0 0 ∧ h8 0 0 ≤ 1600 := Ih8.1.1 0 0
        refine sx_iconst dX11_append_41 ⟨by decide, by decide⟩ ?_
        refine sx_iadd dX11_append_42 ?_
        refine sy_topw (by omega) ?_
        refine sy_putI (k := 0) cl_11 fl_X11_76 dX11_append_43 s_0 (by decide) rfl (by decide) rfl rfl (fun h10 eh10 => ?_)
        have Ih10 := Ih8.up eh10 (show (0 : Int) ≤ _ ∧ _ ≤ (1600 : Int) from ⟨by omega, by omega⟩) rfl rfl
        have th10_0_0 := eh10.1
        refine sx_iinc dX11_append_46 (by decide) rfl ?_
        rw [sw_w_id (by omega) (by omega)]
        refine sx_goto (tgt := 3) dX11_append_49 (by decide) ?_
        exact ihh1 _ _ ⟨Ih10, by omega⟩ (by exact sy_dec (by omega) (by omega))
  · exact ⟨hI, by omega⟩
set_option maxRecDepth 20000 in
set_option maxHeartbeats 4000000 in
theorem c_X11_feed {G : sw_G} (d : Nat) {h0 : sw_H} (hJ : cJ h0) (y1 y2 y3 y4 y5 : Int)  : sw_E G NH SH (d + 1) mX11_feed 0 [some (sw_r 0), some (sw_i y1), some (sw_i y2), some (sw_i y3), some (sw_i y4), some (sw_i y5)] [] h0 (sw_Qi (fun z h' => cK pr1 h0 h')) := by
  have hI : cK pr1 h0 h0 := cK.refl hJ
  refine sx_aload_n dX11_feed_0 rfl ?_
  refine sx_getI (k := 0) cl_11 fl_X11_76 dX11_feed_1 s_0 (by decide) rfl (by decide) ?_
  have r1 : (0 : Int) ≤ h0 0 0 ∧ h0 0 0 ≤ 1600 := hI.1.1 0 0
  refine sx_bipush dX11_feed_4 ⟨by decide, by decide, by decide⟩ ?_
  refine sx_iadd dX11_feed_6 ?_
  refine sy_topw (by omega) ?_
  refine sx_sipush dX11_feed_7 ⟨by decide, by decide, by decide⟩ ?_
  refine sx_icmp_le (tgt := 15) dX11_feed_10 (by decide) (fun c2 => ?_) (fun c2 => ?_)
  ·
    refine sx_aload_n dX11_feed_15 rfl ?_
    refine sx_iload_n dX11_feed_16 rfl ?_
    refine sx_callVv lk_X11_79 cl_11 s_0 (by decide) dX11_feed_17 (vs := [_]) rfl rfl (Nat.le_of_ble_eq_true rfl) (Nat.le_of_ble_eq_true rfl) rfl (c_X11_append _ hI.1 _) (fun h3 ph3 => ?_)
    have Kh3 := ph3
    have Ih3 := hI.tr Kh3 sb_pr1_pr0
    refine sx_aload_n dX11_feed_20 rfl ?_
    refine sx_iload_n dX11_feed_21 rfl ?_
    refine sx_callVv lk_X11_79 cl_11 s_0 (by decide) dX11_feed_22 (vs := [_]) rfl rfl (Nat.le_of_ble_eq_true rfl) (Nat.le_of_ble_eq_true rfl) rfl (c_X11_append _ Ih3.1 _) (fun h5 ph5 => ?_)
    have Kh5 := ph5
    have Ih5 := Ih3.tr Kh5 sb_pr1_pr0
    refine sx_aload_n dX11_feed_25 rfl ?_
    refine sx_iload_n dX11_feed_26 rfl ?_
    refine sx_callVv lk_X11_79 cl_11 s_0 (by decide) dX11_feed_27 (vs := [_]) rfl rfl (Nat.le_of_ble_eq_true rfl) (Nat.le_of_ble_eq_true rfl) rfl (c_X11_append _ Ih5.1 _) (fun h7 ph7 => ?_)
    have Kh7 := ph7
    have Ih7 := Ih5.tr Kh7 sb_pr1_pr0
    refine sx_aload_n dX11_feed_30 rfl ?_
    refine sx_iload dX11_feed_31 rfl ?_
    refine sx_callVv lk_X11_79 cl_11 s_0 (by decide) dX11_feed_33 (vs := [_]) rfl rfl (Nat.le_of_ble_eq_true rfl) (Nat.le_of_ble_eq_true rfl) rfl (c_X11_append _ Ih7.1 _) (fun h9 ph9 => ?_)
    have Kh9 := ph9
    have Ih9 := Ih7.tr Kh9 sb_pr1_pr0
    refine sx_aload_n dX11_feed_36 rfl ?_
    refine sx_iload dX11_feed_37 rfl ?_
    refine sx_callVv lk_X11_79 cl_11 s_0 (by decide) dX11_feed_39 (vs := [_]) rfl rfl (Nat.le_of_ble_eq_true rfl) (Nat.le_of_ble_eq_true rfl) rfl (c_X11_append _ Ih9.1 _) (fun h11 ph11 => ?_)
    have Kh11 := ph11
    have Ih11 := Ih9.tr Kh11 sb_pr1_pr0
    refine sx_aload_n dX11_feed_42 rfl ?_
    refine sx_getI (k := 0) cl_11 fl_X11_76 dX11_feed_43 s_0 (by decide) rfl (by decide) ?_
    have r13 : (0 : Int) ≤ h11 0 0 ∧ h11 0 0 ≤ 1600 := Ih11.1.1 0 0
    refine sx_ireturn dX11_feed_46 ?_
    exact ⟨_, rfl, Ih11⟩
  ·
    refine sx_iconst dX11_feed_13 ⟨by decide, by decide⟩ ?_
    refine sx_ireturn dX11_feed_14 ?_
    exact ⟨_, rfl, hI⟩
set_option maxRecDepth 20000 in
set_option maxHeartbeats 4000000 in
theorem c_X11_end {G : sw_G} (d : Nat) {h0 : sw_H} (hJ : cJ h0) (y1 : Int)  : sw_E G NH SH (d) mX11_end 0 [some (sw_r 0), some (sw_i y1)] [] h0 (sw_Qi (fun z h' => cK pr1 h0 h')) := by
  have hI : cK pr1 h0 h0 := cK.refl hJ
  refine sx_iload_n dX11_end_0 rfl ?_
  refine sx_if_lt (tgt := 12) dX11_end_1 (by decide) (fun c1 => ?_) (fun c1 => ?_)
  ·
    refine sx_iconst dX11_end_12 ⟨by decide, by decide⟩ ?_
    refine sx_ireturn dX11_end_13 ?_
    exact ⟨_, rfl, hI⟩
  ·
    refine sx_iload_n dX11_end_4 rfl ?_
    refine sx_aload_n dX11_end_5 rfl ?_
    refine sx_getI (k := 0) cl_11 fl_X11_76 dX11_end_6 s_0 (by decide) rfl (by decide) ?_
    have r2 : (0 : Int) ≤ h0 0 0 ∧ h0 0 0 ≤ 1600 := hI.1.1 0 0
    refine sx_icmp_le (tgt := 14) dX11_end_9 (by decide) (fun c3 => ?_) (fun c3 => ?_)
    ·
      refine sx_aload_n dX11_end_14 rfl ?_
      refine sx_iload_n dX11_end_15 rfl ?_
      refine sy_putI (k := 0) cl_11 fl_X11_76 dX11_end_16 s_0 (by decide) rfl (by decide) rfl rfl (fun h4 eh4 => ?_)
      have Ih4 := hI.up eh4 (show (0 : Int) ≤ _ ∧ _ ≤ (1600 : Int) from ⟨by omega, by omega⟩) rfl rfl
      have th4_0_0 := eh4.1
      refine sx_iload_n dX11_end_19 rfl ?_
      refine sx_ireturn dX11_end_20 ?_
      exact ⟨_, rfl, Ih4⟩
    ·
      refine sx_iconst dX11_end_12 ⟨by decide, by decide⟩ ?_
      refine sx_ireturn dX11_end_13 ?_
      exact ⟨_, rfl, hI⟩
set_option maxRecDepth 20000 in
set_option maxHeartbeats 4000000 in
theorem c_X11_fault {G : sw_G} (d : Nat) {h0 : sw_H} (hJ : cJ h0) (y1 : Int)  : sw_E G NH SH (d) mX11_fault 0 [some (sw_r 0), some (sw_i y1)] [] h0 (sw_Qi (fun z h' => cK pr1 h0 h')) := by
  have hI : cK pr1 h0 h0 := cK.refl hJ
  refine sx_iload_n dX11_fault_0 rfl ?_
  refine sx_lsw (dt := 38) (ps := [(0, 28), (1, 33)]) dX11_fault_1 (by decide) (by decide) (by decide) (And.intro (fun c1 => ?_) (fun c1_0 => (And.intro (fun c1 => ?_) (fun c1_1 => ?_))))
  ·
    refine sx_aload_n dX11_fault_28 rfl ?_
    refine sx_getI (k := 13) cl_11 fl_X11_96 dX11_fault_29 s_0 (by decide) rfl (by decide) ?_
    refine sx_ireturn dX11_fault_32 ?_
    exact ⟨_, rfl, hI⟩
  ·
    refine sx_aload_n dX11_fault_33 rfl ?_
    refine sx_getI (k := 14) cl_11 fl_X11_72 dX11_fault_34 s_0 (by decide) rfl (by decide) ?_
    refine sx_ireturn dX11_fault_37 ?_
    exact ⟨_, rfl, hI⟩
  ·
    refine sx_iconst dX11_fault_38 ⟨by decide, by decide⟩ ?_
    refine sx_ireturn dX11_fault_39 ?_
    exact ⟨_, rfl, hI⟩
set_option maxRecDepth 20000 in
set_option maxHeartbeats 4000000 in
theorem c_X11_word_1 {G : sw_G} (d : Nat) {h0 : sw_H} (hJ : cJ h0) (hc : h0 0 1 = 1 ∧ h0 0 2 = 13) (y1 y2 : Int)  : sw_E G NH SH (d + 1) mX11_word 0 [some (sw_r 0), some (sw_i y1), some (sw_i y2)] [] h0 (sw_Qi (fun z h' => cK pr1 h0 h')) := by
  have hI : cK pr1 h0 h0 := cK.refl hJ
  have rw : (0 : Int) ≤ h0 1 0 ∧ h0 1 0 ≤ 6 := hI.1.1 1 0
  refine sx_aload_n dX11_word_0 rfl ?_
  refine sx_getR (k := 1) (t := 1) cl_11 fl_X11_10 dX11_word_1 s_0 (by decide) rfl (by decide) (by omega) ?_
  refine sx_iload_n dX11_word_4 rfl ?_
  refine sx_callVz lk_X11_124 cl_0 s_1 (by decide) dX11_word_5 (vs := [_]) rfl rfl (Nat.le_of_ble_eq_true rfl) (Nat.le_of_ble_eq_true rfl) rfl (c_X0_hasWord_1 _ hI.1 _) (fun x2 h1 zx2 ph1 => ?_)
  obtain ⟨rfl, w_x2⟩ := ph1
  refine sx_if_ne (tgt := 13) dX11_word_8 (by decide) (fun c3 => ?_) (fun c3 => ?_)
  ·
    refine sx_iload_n dX11_word_13 rfl ?_
    refine sx_tsw (dt := 143) (ts := [56, 78, 88, 98, 108, 118, 128]) dX11_word_14 (by decide) (by decide) (by decide) (fun c4 => ?_) (And.intro (fun c4 => ?_) (And.intro (fun c4 => ?_) (And.intro (fun c4 => ?_) (And.intro (fun c4 => ?_) (And.intro (fun c4 => ?_) (And.intro (fun c4 => ?_) (And.intro (fun c4 => ?_) trivial)))))))
    ·
      refine sx_iconst dX11_word_143 ⟨by decide, by decide⟩ ?_
      refine sx_ireturn dX11_word_144 ?_
      exact ⟨_, rfl, hI⟩
    ·
      refine sx_aload_n dX11_word_56 rfl ?_
      refine sx_getR (k := 1) (t := 1) cl_11 fl_X11_10 dX11_word_57 s_0 (by decide) rfl (by decide) (by omega) ?_
      refine sx_getS (k := 9) (t := 6) cl_0 fl_X11_128 dX11_word_60 s_1 (by decide) rfl (by decide) ?_
      refine sx_iload_n dX11_word_63 rfl ?_
      refine sx_iconst dX11_word_64 ⟨by decide, by decide⟩ ?_
      refine sx_iadd dX11_word_65 ?_
      refine sy_topw (by omega) ?_
      refine sy_iaF (F := fun z => (0 : Int) ≤ z ∧ z ≤ 60) dX11_word_66 s_6 (by decide) (by decide) ⟨by omega, by omega⟩ (hI.1.1 6 _) (fun r5 => ?_)
      refine sx_aload_n dX11_word_67 rfl ?_
      refine sx_getR (k := 1) (t := 1) cl_11 fl_X11_10 dX11_word_68 s_0 (by decide) rfl (by decide) (by omega) ?_
      refine sx_getS (k := 9) (t := 6) cl_0 fl_X11_128 dX11_word_71 s_1 (by decide) rfl (by decide) ?_
      refine sx_iload_n dX11_word_74 rfl ?_
      refine sy_iaF (F := fun z => (0 : Int) ≤ z ∧ z ≤ 60) dX11_word_75 s_6 (by decide) (by decide) ⟨by omega, by omega⟩ (hI.1.1 6 _) (fun r6 => ?_)
      refine sx_isub dX11_word_76 ?_
      refine sx_ireturn dX11_word_77 ?_
      exact ⟨_, rfl, hI⟩
    ·
      refine sx_aload_n dX11_word_78 rfl ?_
      refine sx_getR (k := 1) (t := 1) cl_11 fl_X11_10 dX11_word_79 s_0 (by decide) rfl (by decide) (by omega) ?_
      refine sx_getS (k := 10) (t := 7) cl_0 fl_X11_132 dX11_word_82 s_1 (by decide) rfl (by decide) ?_
      refine sx_iload_n dX11_word_85 rfl ?_
      refine sy_iaF (F := fun z => (0 : Int) ≤ z ∧ z ≤ 2147483647) dX11_word_86 s_7 (by decide) (by decide) ⟨by omega, by omega⟩ (hI.1.1 7 _) (fun r7 => ?_)
      refine sx_ireturn dX11_word_87 ?_
      exact ⟨_, rfl, hI⟩
    ·
      refine sx_aload_n dX11_word_88 rfl ?_
      refine sx_getR (k := 1) (t := 1) cl_11 fl_X11_10 dX11_word_89 s_0 (by decide) rfl (by decide) (by omega) ?_
      refine sx_getS (k := 11) (t := 8) cl_0 fl_X11_135 dX11_word_92 s_1 (by decide) rfl (by decide) ?_
      refine sx_iload_n dX11_word_95 rfl ?_
      refine sx_iaload dX11_word_96 s_8 (by decide) (by decide) ⟨by omega, by omega⟩ ?_
      refine sx_ireturn dX11_word_97 ?_
      exact ⟨_, rfl, hI⟩
    ·
      refine sx_aload_n dX11_word_98 rfl ?_
      refine sx_getR (k := 1) (t := 1) cl_11 fl_X11_10 dX11_word_99 s_0 (by decide) rfl (by decide) (by omega) ?_
      refine sx_getS (k := 12) (t := 9) cl_0 fl_X11_138 dX11_word_102 s_1 (by decide) rfl (by decide) ?_
      refine sx_iload_n dX11_word_105 rfl ?_
      refine sx_iaload dX11_word_106 s_9 (by decide) (by decide) ⟨by omega, by omega⟩ ?_
      refine sx_ireturn dX11_word_107 ?_
      exact ⟨_, rfl, hI⟩
    ·
      refine sx_aload_n dX11_word_108 rfl ?_
      refine sx_getR (k := 1) (t := 1) cl_11 fl_X11_10 dX11_word_109 s_0 (by decide) rfl (by decide) (by omega) ?_
      refine sx_getS (k := 13) (t := 10) cl_0 fl_X11_141 dX11_word_112 s_1 (by decide) rfl (by decide) ?_
      refine sx_iload_n dX11_word_115 rfl ?_
      refine sx_iaload dX11_word_116 s_10 (by decide) (by decide) ⟨by omega, by omega⟩ ?_
      refine sx_ireturn dX11_word_117 ?_
      exact ⟨_, rfl, hI⟩
    ·
      refine sx_aload_n dX11_word_118 rfl ?_
      refine sx_getR (k := 1) (t := 1) cl_11 fl_X11_10 dX11_word_119 s_0 (by decide) rfl (by decide) (by omega) ?_
      refine sx_getS (k := 14) (t := 11) cl_0 fl_X11_144 dX11_word_122 s_1 (by decide) rfl (by decide) ?_
      refine sx_iload_n dX11_word_125 rfl ?_
      refine sx_iaload dX11_word_126 s_11 (by decide) (by decide) ⟨by omega, by omega⟩ ?_
      refine sx_ireturn dX11_word_127 ?_
      exact ⟨_, rfl, hI⟩
    ·
      refine sx_aload_n dX11_word_128 rfl ?_
      refine sx_getS (k := 5) (t := 48) cl_11 fl_X11_36 dX11_word_129 s_0 (by decide) rfl (by decide) ?_
      refine sx_callVr lk_X11_147 cl_9 s_48 (by decide) dX11_word_132 (vs := []) rfl rfl (Nat.le_of_ble_eq_true rfl) (Nat.le_of_ble_eq_true rfl) ⟨_, rfl⟩ (c_X9_state _ hI.1) (fun x9 h8 ph8 => ?_)
      obtain ⟨Kh8, m_h8⟩ := ph8
      have Ih8 := hI.tr Kh8 sb_pr1_prL
      have th8_0_1 := Kh8.2 (0) 1 rfl
      have th8_0_2 := Kh8.2 (0) 2 rfl
      have th8_1_0 := Kh8.2 (1) 0 rfl
      have hx9m := m_h8
      obtain ⟨Sx90, Sx91, Sx92, bx9⟩ := s_St x9 hx9m
      have Bx90 : x9 < NH := show x9 < 290 by omega
      have Bx91 : x9 + 1 < NH := show x9 + 1 < 290 by omega
      have Bx92 : x9 + 2 < NH := show x9 + 2 < 290 by omega
      refine sx_getI (k := 4) cl_8 fl_X11_150 dX11_word_135 Sx90 Bx90 rfl (by decide) ?_
      refine sx_iload_n dX11_word_138 rfl ?_
      refine sx_ishr dX11_word_139 ?_
      refine sx_iconst dX11_word_140 ⟨by decide, by decide⟩ ?_
      refine sx_iand dX11_word_141 ?_
      refine sx_ireturn dX11_word_142 ?_
      exact ⟨_, rfl, Ih8⟩
  ·
    refine sx_iconst dX11_word_11 ⟨by decide, by decide⟩ ?_
    refine sx_ireturn dX11_word_12 ?_
    exact ⟨_, rfl, hI⟩
set_option maxRecDepth 20000 in
set_option maxHeartbeats 4000000 in
theorem c_X11_word_13 {G : sw_G} (d : Nat) {h0 : sw_H} (hJ : cJ h0) (hc : h0 0 1 = 13 ∧ h0 0 2 = 1) (y1 y2 : Int)  : sw_E G NH SH (d + 1) mX11_word 0 [some (sw_r 0), some (sw_i y1), some (sw_i y2)] [] h0 (sw_Qi (fun z h' => cK pr1 h0 h')) := by
  have hI : cK pr1 h0 h0 := cK.refl hJ
  have rw : (0 : Int) ≤ h0 13 0 ∧ h0 13 0 ≤ 6 := hI.1.1 13 0
  refine sx_aload_n dX11_word_0 rfl ?_
  refine sx_getR (k := 1) (t := 13) cl_11 fl_X11_10 dX11_word_1 s_0 (by decide) rfl (by decide) (by omega) ?_
  refine sx_iload_n dX11_word_4 rfl ?_
  refine sx_callVz lk_X11_124 cl_0 s_13 (by decide) dX11_word_5 (vs := [_]) rfl rfl (Nat.le_of_ble_eq_true rfl) (Nat.le_of_ble_eq_true rfl) rfl (c_X0_hasWord_13 _ hI.1 _) (fun x2 h1 zx2 ph1 => ?_)
  obtain ⟨rfl, w_x2⟩ := ph1
  refine sx_if_ne (tgt := 13) dX11_word_8 (by decide) (fun c3 => ?_) (fun c3 => ?_)
  ·
    refine sx_iload_n dX11_word_13 rfl ?_
    refine sx_tsw (dt := 143) (ts := [56, 78, 88, 98, 108, 118, 128]) dX11_word_14 (by decide) (by decide) (by decide) (fun c4 => ?_) (And.intro (fun c4 => ?_) (And.intro (fun c4 => ?_) (And.intro (fun c4 => ?_) (And.intro (fun c4 => ?_) (And.intro (fun c4 => ?_) (And.intro (fun c4 => ?_) (And.intro (fun c4 => ?_) trivial)))))))
    ·
      refine sx_iconst dX11_word_143 ⟨by decide, by decide⟩ ?_
      refine sx_ireturn dX11_word_144 ?_
      exact ⟨_, rfl, hI⟩
    ·
      refine sx_aload_n dX11_word_56 rfl ?_
      refine sx_getR (k := 1) (t := 13) cl_11 fl_X11_10 dX11_word_57 s_0 (by decide) rfl (by decide) (by omega) ?_
      refine sx_getS (k := 9) (t := 18) cl_0 fl_X11_128 dX11_word_60 s_13 (by decide) rfl (by decide) ?_
      refine sx_iload_n dX11_word_63 rfl ?_
      refine sx_iconst dX11_word_64 ⟨by decide, by decide⟩ ?_
      refine sx_iadd dX11_word_65 ?_
      refine sy_topw (by omega) ?_
      refine sy_iaF (F := fun z => (0 : Int) ≤ z ∧ z ≤ 60) dX11_word_66 s_18 (by decide) (by decide) ⟨by omega, by omega⟩ (hI.1.1 18 _) (fun r5 => ?_)
      refine sx_aload_n dX11_word_67 rfl ?_
      refine sx_getR (k := 1) (t := 13) cl_11 fl_X11_10 dX11_word_68 s_0 (by decide) rfl (by decide) (by omega) ?_
      refine sx_getS (k := 9) (t := 18) cl_0 fl_X11_128 dX11_word_71 s_13 (by decide) rfl (by decide) ?_
      refine sx_iload_n dX11_word_74 rfl ?_
      refine sy_iaF (F := fun z => (0 : Int) ≤ z ∧ z ≤ 60) dX11_word_75 s_18 (by decide) (by decide) ⟨by omega, by omega⟩ (hI.1.1 18 _) (fun r6 => ?_)
      refine sx_isub dX11_word_76 ?_
      refine sx_ireturn dX11_word_77 ?_
      exact ⟨_, rfl, hI⟩
    ·
      refine sx_aload_n dX11_word_78 rfl ?_
      refine sx_getR (k := 1) (t := 13) cl_11 fl_X11_10 dX11_word_79 s_0 (by decide) rfl (by decide) (by omega) ?_
      refine sx_getS (k := 10) (t := 19) cl_0 fl_X11_132 dX11_word_82 s_13 (by decide) rfl (by decide) ?_
      refine sx_iload_n dX11_word_85 rfl ?_
      refine sy_iaF (F := fun z => (0 : Int) ≤ z ∧ z ≤ 2147483647) dX11_word_86 s_19 (by decide) (by decide) ⟨by omega, by omega⟩ (hI.1.1 19 _) (fun r7 => ?_)
      refine sx_ireturn dX11_word_87 ?_
      exact ⟨_, rfl, hI⟩
    ·
      refine sx_aload_n dX11_word_88 rfl ?_
      refine sx_getR (k := 1) (t := 13) cl_11 fl_X11_10 dX11_word_89 s_0 (by decide) rfl (by decide) (by omega) ?_
      refine sx_getS (k := 11) (t := 20) cl_0 fl_X11_135 dX11_word_92 s_13 (by decide) rfl (by decide) ?_
      refine sx_iload_n dX11_word_95 rfl ?_
      refine sx_iaload dX11_word_96 s_20 (by decide) (by decide) ⟨by omega, by omega⟩ ?_
      refine sx_ireturn dX11_word_97 ?_
      exact ⟨_, rfl, hI⟩
    ·
      refine sx_aload_n dX11_word_98 rfl ?_
      refine sx_getR (k := 1) (t := 13) cl_11 fl_X11_10 dX11_word_99 s_0 (by decide) rfl (by decide) (by omega) ?_
      refine sx_getS (k := 12) (t := 21) cl_0 fl_X11_138 dX11_word_102 s_13 (by decide) rfl (by decide) ?_
      refine sx_iload_n dX11_word_105 rfl ?_
      refine sx_iaload dX11_word_106 s_21 (by decide) (by decide) ⟨by omega, by omega⟩ ?_
      refine sx_ireturn dX11_word_107 ?_
      exact ⟨_, rfl, hI⟩
    ·
      refine sx_aload_n dX11_word_108 rfl ?_
      refine sx_getR (k := 1) (t := 13) cl_11 fl_X11_10 dX11_word_109 s_0 (by decide) rfl (by decide) (by omega) ?_
      refine sx_getS (k := 13) (t := 22) cl_0 fl_X11_141 dX11_word_112 s_13 (by decide) rfl (by decide) ?_
      refine sx_iload_n dX11_word_115 rfl ?_
      refine sx_iaload dX11_word_116 s_22 (by decide) (by decide) ⟨by omega, by omega⟩ ?_
      refine sx_ireturn dX11_word_117 ?_
      exact ⟨_, rfl, hI⟩
    ·
      refine sx_aload_n dX11_word_118 rfl ?_
      refine sx_getR (k := 1) (t := 13) cl_11 fl_X11_10 dX11_word_119 s_0 (by decide) rfl (by decide) (by omega) ?_
      refine sx_getS (k := 14) (t := 23) cl_0 fl_X11_144 dX11_word_122 s_13 (by decide) rfl (by decide) ?_
      refine sx_iload_n dX11_word_125 rfl ?_
      refine sx_iaload dX11_word_126 s_23 (by decide) (by decide) ⟨by omega, by omega⟩ ?_
      refine sx_ireturn dX11_word_127 ?_
      exact ⟨_, rfl, hI⟩
    ·
      refine sx_aload_n dX11_word_128 rfl ?_
      refine sx_getS (k := 5) (t := 48) cl_11 fl_X11_36 dX11_word_129 s_0 (by decide) rfl (by decide) ?_
      refine sx_callVr lk_X11_147 cl_9 s_48 (by decide) dX11_word_132 (vs := []) rfl rfl (Nat.le_of_ble_eq_true rfl) (Nat.le_of_ble_eq_true rfl) ⟨_, rfl⟩ (c_X9_state _ hI.1) (fun x9 h8 ph8 => ?_)
      obtain ⟨Kh8, m_h8⟩ := ph8
      have Ih8 := hI.tr Kh8 sb_pr1_prL
      have th8_0_1 := Kh8.2 (0) 1 rfl
      have th8_0_2 := Kh8.2 (0) 2 rfl
      have th8_13_0 := Kh8.2 (13) 0 rfl
      have hx9m := m_h8
      obtain ⟨Sx90, Sx91, Sx92, bx9⟩ := s_St x9 hx9m
      have Bx90 : x9 < NH := show x9 < 290 by omega
      have Bx91 : x9 + 1 < NH := show x9 + 1 < 290 by omega
      have Bx92 : x9 + 2 < NH := show x9 + 2 < 290 by omega
      refine sx_getI (k := 4) cl_8 fl_X11_150 dX11_word_135 Sx90 Bx90 rfl (by decide) ?_
      refine sx_iload_n dX11_word_138 rfl ?_
      refine sx_ishr dX11_word_139 ?_
      refine sx_iconst dX11_word_140 ⟨by decide, by decide⟩ ?_
      refine sx_iand dX11_word_141 ?_
      refine sx_ireturn dX11_word_142 ?_
      exact ⟨_, rfl, Ih8⟩
  ·
    refine sx_iconst dX11_word_11 ⟨by decide, by decide⟩ ?_
    refine sx_ireturn dX11_word_12 ?_
    exact ⟨_, rfl, hI⟩
theorem c_X11_word {G : sw_G} (d : Nat) {h0 : sw_H} (hJ : cJ h0) (y1 y2 : Int)  : sw_E G NH SH (d + 1) mX11_word 0 [some (sw_r 0), some (sw_i y1), some (sw_i y2)] [] h0 (sw_Qi (fun z h' => cK pr1 h0 h')) := by
  rcases (show (h0 0 1 = 1 ∧ h0 0 2 = 13) ∨ (h0 0 1 = 13 ∧ h0 0 2 = 1) from hJ.2 4 (by decide)) with q | q
  · exact c_X11_word_1 d hJ q y1 y2 
  · exact c_X11_word_13 d hJ q y1 y2 
set_option maxRecDepth 20000 in
set_option maxHeartbeats 4000000 in
theorem c_X11_item_1 {G : sw_G} (d : Nat) {h0 : sw_H} (hJ : cJ h0) (hc : h0 0 1 = 1 ∧ h0 0 2 = 13) (y1 y2 y3 : Int)  : sw_E G NH SH (d + 2) mX11_item 0 [some (sw_r 0), some (sw_i y1), some (sw_i y2), some (sw_i y3), none] [] h0 (sw_Qi (fun z h' => cK pr1 h0 h')) := by
  have hI : cK pr1 h0 h0 := cK.refl hJ
  have rw : (0 : Int) ≤ h0 1 0 ∧ h0 1 0 ≤ 6 := hI.1.1 1 0
  have ri : ∀ k, (0 : Int) ≤ h0 6 k ∧ h0 6 k ≤ 60 := fun k => hI.1.1 6 k
  have ri1 := ri (y1 + 1).toNat
  have ri0 := ri y1.toNat
  refine sx_aload_n dX11_item_0 rfl ?_
  refine sx_getR (k := 1) (t := 1) cl_11 fl_X11_10 dX11_item_1 s_0 (by decide) rfl (by decide) (by omega) ?_
  refine sx_iload_n dX11_item_4 rfl ?_
  refine sx_iload_n dX11_item_5 rfl ?_
  refine sx_callVz lk_X11_153 cl_0 s_1 (by decide) dX11_item_6 (vs := [_, _]) rfl rfl (Nat.le_of_ble_eq_true rfl) (Nat.le_of_ble_eq_true rfl) rfl (c_X0_hasItem_1 _ hI.1 _ _) (fun x2 h1 zx2 ph1 => ?_)
  obtain ⟨rfl, w_x2⟩ := ph1
  refine sx_if_ne (tgt := 14) dX11_item_9 (by decide) (fun c3 => ?_) (fun c3 => ?_)
  ·
    refine sx_aload_n dX11_item_14 rfl ?_
    refine sx_getR (k := 1) (t := 1) cl_11 fl_X11_10 dX11_item_15 s_0 (by decide) rfl (by decide) (by omega) ?_
    refine sx_getS (k := 9) (t := 6) cl_0 fl_X11_128 dX11_item_18 s_1 (by decide) rfl (by decide) ?_
    refine sx_iload_n dX11_item_21 rfl ?_
    refine sy_iaF (F := fun z => (0 : Int) ≤ z ∧ z ≤ 60) dX11_item_22 s_6 (by decide) (by decide) ⟨by omega, by omega⟩ (hI.1.1 6 _) (fun r4 => ?_)
    refine sx_iload_n dX11_item_23 rfl ?_
    refine sx_iadd dX11_item_24 ?_
    refine sy_topw (by omega) ?_
    refine sy_top (fun v5 ev5 => ?_)
    refine sx_istore dX11_item_25 (by decide) ?_
    refine sx_iload_n dX11_item_27 rfl ?_
    refine sx_lsw (dt := 78) (ps := [(0, 56), (1, 67)]) dX11_item_28 (by decide) (by decide) (by decide) (And.intro (fun c6 => ?_) (fun c6_0 => (And.intro (fun c6 => ?_) (fun c6_1 => ?_))))
    ·
      refine sx_aload_n dX11_item_56 rfl ?_
      refine sx_getR (k := 1) (t := 1) cl_11 fl_X11_10 dX11_item_57 s_0 (by decide) rfl (by decide) (by omega) ?_
      refine sx_getS (k := 5) (t := 2) cl_0 fl_X11_157 dX11_item_60 s_1 (by decide) rfl (by decide) ?_
      refine sx_iload dX11_item_63 rfl ?_
      refine sx_iaload dX11_item_65 s_2 (by decide) (by decide) ⟨by omega, by omega⟩ ?_
      refine sx_ireturn dX11_item_66 ?_
      exact ⟨_, rfl, hI⟩
    ·
      refine sx_aload_n dX11_item_67 rfl ?_
      refine sx_getR (k := 1) (t := 1) cl_11 fl_X11_10 dX11_item_68 s_0 (by decide) rfl (by decide) (by omega) ?_
      refine sx_getS (k := 6) (t := 3) cl_0 fl_X11_160 dX11_item_71 s_1 (by decide) rfl (by decide) ?_
      refine sx_iload dX11_item_74 rfl ?_
      refine sx_iaload dX11_item_76 s_3 (by decide) (by decide) ⟨by omega, by omega⟩ ?_
      refine sx_ireturn dX11_item_77 ?_
      exact ⟨_, rfl, hI⟩
    ·
      refine sx_iconst dX11_item_78 ⟨by decide, by decide⟩ ?_
      refine sx_ireturn dX11_item_79 ?_
      exact ⟨_, rfl, hI⟩
  ·
    refine sx_iconst dX11_item_12 ⟨by decide, by decide⟩ ?_
    refine sx_ireturn dX11_item_13 ?_
    exact ⟨_, rfl, hI⟩
set_option maxRecDepth 20000 in
set_option maxHeartbeats 4000000 in
theorem c_X11_item_13 {G : sw_G} (d : Nat) {h0 : sw_H} (hJ : cJ h0) (hc : h0 0 1 = 13 ∧ h0 0 2 = 1) (y1 y2 y3 : Int)  : sw_E G NH SH (d + 2) mX11_item 0 [some (sw_r 0), some (sw_i y1), some (sw_i y2), some (sw_i y3), none] [] h0 (sw_Qi (fun z h' => cK pr1 h0 h')) := by
  have hI : cK pr1 h0 h0 := cK.refl hJ
  have rw : (0 : Int) ≤ h0 13 0 ∧ h0 13 0 ≤ 6 := hI.1.1 13 0
  have ri : ∀ k, (0 : Int) ≤ h0 18 k ∧ h0 18 k ≤ 60 := fun k => hI.1.1 18 k
  have ri1 := ri (y1 + 1).toNat
  have ri0 := ri y1.toNat
  refine sx_aload_n dX11_item_0 rfl ?_
  refine sx_getR (k := 1) (t := 13) cl_11 fl_X11_10 dX11_item_1 s_0 (by decide) rfl (by decide) (by omega) ?_
  refine sx_iload_n dX11_item_4 rfl ?_
  refine sx_iload_n dX11_item_5 rfl ?_
  refine sx_callVz lk_X11_153 cl_0 s_13 (by decide) dX11_item_6 (vs := [_, _]) rfl rfl (Nat.le_of_ble_eq_true rfl) (Nat.le_of_ble_eq_true rfl) rfl (c_X0_hasItem_13 _ hI.1 _ _) (fun x2 h1 zx2 ph1 => ?_)
  obtain ⟨rfl, w_x2⟩ := ph1
  refine sx_if_ne (tgt := 14) dX11_item_9 (by decide) (fun c3 => ?_) (fun c3 => ?_)
  ·
    refine sx_aload_n dX11_item_14 rfl ?_
    refine sx_getR (k := 1) (t := 13) cl_11 fl_X11_10 dX11_item_15 s_0 (by decide) rfl (by decide) (by omega) ?_
    refine sx_getS (k := 9) (t := 18) cl_0 fl_X11_128 dX11_item_18 s_13 (by decide) rfl (by decide) ?_
    refine sx_iload_n dX11_item_21 rfl ?_
    refine sy_iaF (F := fun z => (0 : Int) ≤ z ∧ z ≤ 60) dX11_item_22 s_18 (by decide) (by decide) ⟨by omega, by omega⟩ (hI.1.1 18 _) (fun r4 => ?_)
    refine sx_iload_n dX11_item_23 rfl ?_
    refine sx_iadd dX11_item_24 ?_
    refine sy_topw (by omega) ?_
    refine sy_top (fun v5 ev5 => ?_)
    refine sx_istore dX11_item_25 (by decide) ?_
    refine sx_iload_n dX11_item_27 rfl ?_
    refine sx_lsw (dt := 78) (ps := [(0, 56), (1, 67)]) dX11_item_28 (by decide) (by decide) (by decide) (And.intro (fun c6 => ?_) (fun c6_0 => (And.intro (fun c6 => ?_) (fun c6_1 => ?_))))
    ·
      refine sx_aload_n dX11_item_56 rfl ?_
      refine sx_getR (k := 1) (t := 13) cl_11 fl_X11_10 dX11_item_57 s_0 (by decide) rfl (by decide) (by omega) ?_
      refine sx_getS (k := 5) (t := 14) cl_0 fl_X11_157 dX11_item_60 s_13 (by decide) rfl (by decide) ?_
      refine sx_iload dX11_item_63 rfl ?_
      refine sx_iaload dX11_item_65 s_14 (by decide) (by decide) ⟨by omega, by omega⟩ ?_
      refine sx_ireturn dX11_item_66 ?_
      exact ⟨_, rfl, hI⟩
    ·
      refine sx_aload_n dX11_item_67 rfl ?_
      refine sx_getR (k := 1) (t := 13) cl_11 fl_X11_10 dX11_item_68 s_0 (by decide) rfl (by decide) (by omega) ?_
      refine sx_getS (k := 6) (t := 15) cl_0 fl_X11_160 dX11_item_71 s_13 (by decide) rfl (by decide) ?_
      refine sx_iload dX11_item_74 rfl ?_
      refine sx_iaload dX11_item_76 s_15 (by decide) (by decide) ⟨by omega, by omega⟩ ?_
      refine sx_ireturn dX11_item_77 ?_
      exact ⟨_, rfl, hI⟩
    ·
      refine sx_iconst dX11_item_78 ⟨by decide, by decide⟩ ?_
      refine sx_ireturn dX11_item_79 ?_
      exact ⟨_, rfl, hI⟩
  ·
    refine sx_iconst dX11_item_12 ⟨by decide, by decide⟩ ?_
    refine sx_ireturn dX11_item_13 ?_
    exact ⟨_, rfl, hI⟩
theorem c_X11_item {G : sw_G} (d : Nat) {h0 : sw_H} (hJ : cJ h0) (y1 y2 y3 : Int)  : sw_E G NH SH (d + 2) mX11_item 0 [some (sw_r 0), some (sw_i y1), some (sw_i y2), some (sw_i y3), none] [] h0 (sw_Qi (fun z h' => cK pr1 h0 h')) := by
  rcases (show (h0 0 1 = 1 ∧ h0 0 2 = 13) ∨ (h0 0 1 = 13 ∧ h0 0 2 = 1) from hJ.2 4 (by decide)) with q | q
  · exact c_X11_item_1 d hJ q y1 y2 y3 
  · exact c_X11_item_13 d hJ q y1 y2 y3 
set_option maxRecDepth 20000 in
set_option maxHeartbeats 4000000 in
theorem c_X11_lay {G : sw_G} (d : Nat) {h0 : sw_H} (hJ : cJ h0) (y1 : Int)  : sw_E G NH SH (d + 3) mX11_lay 0 [some (sw_r 0), some (sw_i y1), none] [] h0 (sw_Qi (fun z h' => cK pr1 h0 h')) := by
  have hI : cK pr1 h0 h0 := cK.refl hJ
  refine sx_iload_n dX11_lay_0 rfl ?_
  refine sx_if_lt (tgt := 26) dX11_lay_1 (by decide) (fun c1 => ?_) (fun c1 => ?_)
  ·
    refine sx_iconst dX11_lay_26 ⟨by decide, by decide⟩ ?_
    refine sx_ireturn dX11_lay_27 ?_
    exact ⟨_, rfl, hI⟩
  ·
    refine sx_iload_n dX11_lay_4 rfl ?_
    refine sx_sipush dX11_lay_5 ⟨by decide, by decide, by decide⟩ ?_
    refine sx_icmp_gt (tgt := 26) dX11_lay_8 (by decide) (fun c2 => ?_) (fun c2 => ?_)
    ·
      refine sx_iconst dX11_lay_26 ⟨by decide, by decide⟩ ?_
      refine sx_ireturn dX11_lay_27 ?_
      exact ⟨_, rfl, hI⟩
    ·
      refine sx_aload_n dX11_lay_11 rfl ?_
      refine sx_getS (k := 5) (t := 48) cl_11 fl_X11_36 dX11_lay_12 s_0 (by decide) rfl (by decide) ?_
      refine sx_callVr lk_X11_147 cl_9 s_48 (by decide) dX11_lay_15 (vs := []) rfl rfl (Nat.le_of_ble_eq_true rfl) (Nat.le_of_ble_eq_true rfl) ⟨_, rfl⟩ (c_X9_state _ hI.1) (fun x4 h3 ph3 => ?_)
      obtain ⟨Kh3, m_h3⟩ := ph3
      have Ih3 := hI.tr Kh3 sb_pr1_prL
      have hx4m := m_h3
      obtain ⟨Sx40, Sx41, Sx42, bx4⟩ := s_St x4 hx4m
      have Bx40 : x4 < NH := show x4 < 290 by omega
      have Bx41 : x4 + 1 < NH := show x4 + 1 < 290 by omega
      have Bx42 : x4 + 2 < NH := show x4 + 2 < 290 by omega
      refine sx_getI (k := 1) cl_8 fl_X11_163 dX11_lay_18 Sx40 Bx40 rfl (by decide) ?_
      have r5 : (0 : Int) ≤ h3 (x4) 1 ∧ h3 (x4) 1 ≤ 24 := (okc_of (St_ok1 x4 hx4m).1) ▸ Ih3.1.1 (x4) 1
      refine sx_bipush dX11_lay_21 ⟨by decide, by decide, by decide⟩ ?_
      refine sx_icmp_lt (tgt := 28) dX11_lay_23 (by decide) (fun c6 => ?_) (fun c6 => ?_)
      ·
        refine sx_aload_n dX11_lay_28 rfl ?_
        refine sx_getS (k := 5) (t := 48) cl_11 fl_X11_36 dX11_lay_29 s_0 (by decide) rfl (by decide) ?_
        refine sx_callVr lk_X11_166 cl_9 s_48 (by decide) dX11_lay_32 (vs := []) rfl rfl (Nat.le_of_ble_eq_true rfl) (Nat.le_of_ble_eq_true rfl) ⟨_, rfl⟩ (c_X9_begin _ Ih3.1) (fun x8 h7 ph7 => ?_)
        obtain ⟨Kh7, m_h7⟩ := ph7
        have Ih7 := Ih3.tr Kh7 sb_pr1_prL
        have hx8m := m_h7
        obtain ⟨Sx80, Sx81, Sx82, bx8⟩ := s_St x8 hx8m
        have Bx80 : x8 < NH := show x8 < 290 by omega
        have Bx81 : x8 + 1 < NH := show x8 + 1 < 290 by omega
        have Bx82 : x8 + 2 < NH := show x8 + 2 < 290 by omega
        refine sx_astore_n dX11_lay_35 (by decide) ?_
        refine sx_aload_n dX11_lay_36 rfl ?_
        refine sx_iload_n dX11_lay_37 rfl ?_
        refine sx_callVv lk_X11_168 cl_8 Sx80 Bx80 dX11_lay_38 (vs := [_]) rfl rfl (Nat.le_of_ble_eq_true rfl) (Nat.le_of_ble_eq_true rfl) rfl (c_X8_add _ Ih7.1 (x8) hx8m _) (fun h9 ph9 => ?_)
        have Kh9 := ph9
        have Ih9 := Ih7.tr Kh9 sb_pr1_prS
        refine sx_aload_n dX11_lay_41 rfl ?_
        refine sx_getI (k := 1) cl_8 fl_X11_163 dX11_lay_42 Sx80 Bx80 rfl (by decide) ?_
        have r11 : (0 : Int) ≤ h9 (x8) 1 ∧ h9 (x8) 1 ≤ 24 := (okc_of (St_ok1 x8 hx8m).1) ▸ Ih9.1.1 (x8) 1
        refine sx_ireturn dX11_lay_45 ?_
        exact ⟨_, rfl, Ih9⟩
      ·
        refine sx_iconst dX11_lay_26 ⟨by decide, by decide⟩ ?_
        refine sx_ireturn dX11_lay_27 ?_
        exact ⟨_, rfl, Ih3⟩
set_option maxRecDepth 20000 in
set_option maxHeartbeats 4000000 in
theorem c_X11_run {G : sw_G} (d : Nat) {h0 : sw_H} (hJ : cJ h0) (y1 : Int)  : sw_E G NH SH (d + 3) mX11_run 0 [some (sw_r 0), some (sw_i y1), none] [] h0 (sw_Qi (fun z h' => cK pr1 h0 h')) := by
  have hI : cK pr1 h0 h0 := cK.refl hJ
  refine sx_iload_n dX11_run_0 rfl ?_
  refine sx_if_lt (tgt := 24) dX11_run_1 (by decide) (fun c1 => ?_) (fun c1 => ?_)
  ·
    refine sx_iconst dX11_run_24 ⟨by decide, by decide⟩ ?_
    refine sx_ireturn dX11_run_25 ?_
    exact ⟨_, rfl, hI⟩
  ·
    refine sx_iload_n dX11_run_4 rfl ?_
    refine sx_bipush dX11_run_5 ⟨by decide, by decide, by decide⟩ ?_
    refine sx_icmp_ge (tgt := 24) dX11_run_7 (by decide) (fun c2 => ?_) (fun c2 => ?_)
    ·
      refine sx_iconst dX11_run_24 ⟨by decide, by decide⟩ ?_
      refine sx_ireturn dX11_run_25 ?_
      exact ⟨_, rfl, hI⟩
    ·
      refine sx_aload_n dX11_run_10 rfl ?_
      refine sx_getS (k := 5) (t := 48) cl_11 fl_X11_36 dX11_run_11 s_0 (by decide) rfl (by decide) ?_
      refine sx_callVr lk_X11_147 cl_9 s_48 (by decide) dX11_run_14 (vs := []) rfl rfl (Nat.le_of_ble_eq_true rfl) (Nat.le_of_ble_eq_true rfl) ⟨_, rfl⟩ (c_X9_state _ hI.1) (fun x4 h3 ph3 => ?_)
      obtain ⟨Kh3, m_h3⟩ := ph3
      have Ih3 := hI.tr Kh3 sb_pr1_prL
      have hx4m := m_h3
      obtain ⟨Sx40, Sx41, Sx42, bx4⟩ := s_St x4 hx4m
      have Bx40 : x4 < NH := show x4 < 290 by omega
      have Bx41 : x4 + 1 < NH := show x4 + 1 < 290 by omega
      have Bx42 : x4 + 2 < NH := show x4 + 2 < 290 by omega
      refine sx_iload_n dX11_run_17 rfl ?_
      refine sx_callVz lk_X11_171 cl_8 Sx40 Bx40 dX11_run_18 (vs := [_]) rfl rfl (Nat.le_of_ble_eq_true rfl) (Nat.le_of_ble_eq_true rfl) rfl (c_X8_canByHand _ Ih3.1 (x4) hx4m _ (by omega)) (fun x6 h5 zx6 ph5 => ?_)
      have Kh5 := ph5
      have Ih5 := Ih3.tr Kh5 sb_pr1_prS
      refine sx_if_ne (tgt := 26) dX11_run_21 (by decide) (fun c7 => ?_) (fun c7 => ?_)
      ·
        refine sx_aload_n dX11_run_26 rfl ?_
        refine sx_getS (k := 5) (t := 48) cl_11 fl_X11_36 dX11_run_27 s_0 (by decide) rfl (by decide) ?_
        refine sx_callVr lk_X11_166 cl_9 s_48 (by decide) dX11_run_30 (vs := []) rfl rfl (Nat.le_of_ble_eq_true rfl) (Nat.le_of_ble_eq_true rfl) ⟨_, rfl⟩ (c_X9_begin _ Ih5.1) (fun x9 h8 ph8 => ?_)
        obtain ⟨Kh8, m_h8⟩ := ph8
        have Ih8 := Ih5.tr Kh8 sb_pr1_prL
        have hx9m := m_h8
        obtain ⟨Sx90, Sx91, Sx92, bx9⟩ := s_St x9 hx9m
        have Bx90 : x9 < NH := show x9 < 290 by omega
        have Bx91 : x9 + 1 < NH := show x9 + 1 < 290 by omega
        have Bx92 : x9 + 2 < NH := show x9 + 2 < 290 by omega
        refine sx_astore_n dX11_run_33 (by decide) ?_
        refine sx_aload_n dX11_run_34 rfl ?_
        refine sx_iload_n dX11_run_35 rfl ?_
        refine sx_callVv lk_X11_174 cl_8 Sx90 Bx90 dX11_run_36 (vs := [_]) rfl rfl (Nat.le_of_ble_eq_true rfl) (Nat.le_of_ble_eq_true rfl) rfl (c_X8_perform _ Ih8.1 (x9) hx9m _) (fun h10 ph10 => ?_)
        have Kh10 := ph10
        have Ih10 := Ih8.tr Kh10 sb_pr1_prS
        refine sx_aload_n dX11_run_39 rfl ?_
        refine sx_getI (k := 1) cl_8 fl_X11_163 dX11_run_40 Sx90 Bx90 rfl (by decide) ?_
        have r12 : (0 : Int) ≤ h10 (x9) 1 ∧ h10 (x9) 1 ≤ 24 := (okc_of (St_ok1 x9 hx9m).1) ▸ Ih10.1.1 (x9) 1
        refine sx_ireturn dX11_run_43 ?_
        exact ⟨_, rfl, Ih10⟩
      ·
        refine sx_iconst dX11_run_24 ⟨by decide, by decide⟩ ?_
        refine sx_ireturn dX11_run_25 ?_
        exact ⟨_, rfl, Ih5⟩
set_option maxRecDepth 20000 in
set_option maxHeartbeats 4000000 in
theorem c_X11_call_1 {G : sw_G} (d : Nat) {h0 : sw_H} (hJ : cJ h0) (hc : h0 0 1 = 1 ∧ h0 0 2 = 13) (y1 : Int)  : sw_E G NH SH (d + 18) mX11_call 0 [some (sw_r 0), some (sw_i y1), none, none] [] h0 (sw_Qi (fun z h' => cK pr1 h0 h')) := by
  have hI : cK pr1 h0 h0 := cK.refl hJ
  have rw : (0 : Int) ≤ h0 1 0 ∧ h0 1 0 ≤ 6 := hI.1.1 1 0
  refine sx_aload_n dX11_call_0 rfl ?_
  refine sx_getR (k := 1) (t := 1) cl_11 fl_X11_10 dX11_call_1 s_0 (by decide) rfl (by decide) (by omega) ?_
  refine sx_iload_n dX11_call_4 rfl ?_
  refine sx_callVz lk_X11_124 cl_0 s_1 (by decide) dX11_call_5 (vs := [_]) rfl rfl (Nat.le_of_ble_eq_true rfl) (Nat.le_of_ble_eq_true rfl) rfl (c_X0_hasWord_1 _ hI.1 _) (fun x2 h1 zx2 ph1 => ?_)
  obtain ⟨rfl, w_x2⟩ := ph1
  refine sx_if_ne (tgt := 13) dX11_call_8 (by decide) (fun c3 => ?_) (fun c3 => ?_)
  ·
    refine sx_aload_n dX11_call_13 rfl ?_
    refine sx_getS (k := 5) (t := 48) cl_11 fl_X11_36 dX11_call_14 s_0 (by decide) rfl (by decide) ?_
    refine sx_callVr lk_X11_147 cl_9 s_48 (by decide) dX11_call_17 (vs := []) rfl rfl (Nat.le_of_ble_eq_true rfl) (Nat.le_of_ble_eq_true rfl) ⟨_, rfl⟩ (c_X9_state _ hI.1) (fun x5 h4 ph4 => ?_)
    obtain ⟨Kh4, m_h4⟩ := ph4
    have Ih4 := hI.tr Kh4 sb_pr1_prL
    have th4_0_1 := Kh4.2 (0) 1 rfl
    have th4_0_2 := Kh4.2 (0) 2 rfl
    have th4_1_0 := Kh4.2 (1) 0 rfl
    have hx5m := m_h4
    obtain ⟨Sx50, Sx51, Sx52, bx5⟩ := s_St x5 hx5m
    have Bx50 : x5 < NH := show x5 < 290 by omega
    have Bx51 : x5 + 1 < NH := show x5 + 1 < 290 by omega
    have Bx52 : x5 + 2 < NH := show x5 + 2 < 290 by omega
    refine sx_getI (k := 1) cl_8 fl_X11_163 dX11_call_20 Sx50 Bx50 rfl (by decide) ?_
    have r6 : (0 : Int) ≤ h4 (x5) 1 ∧ h4 (x5) 1 ≤ 24 := (okc_of (St_ok1 x5 hx5m).1) ▸ Ih4.1.1 (x5) 1
    refine sy_top (fun v7 ev7 => ?_)
    refine sx_istore_n dX11_call_23 (by decide) ?_
    refine sx_iload_n dX11_call_24 rfl ?_
    refine sx_aload_n dX11_call_25 rfl ?_
    refine sx_getR (k := 1) (t := 1) cl_11 fl_X11_10 dX11_call_26 s_0 (by decide) rfl (by decide) (by omega) ?_
    refine sx_getS (k := 10) (t := 7) cl_0 fl_X11_132 dX11_call_29 s_1 (by decide) rfl (by decide) ?_
    refine sx_iload_n dX11_call_32 rfl ?_
    refine sy_iaF (F := fun z => (0 : Int) ≤ z ∧ z ≤ 2147483647) dX11_call_33 s_7 (by decide) (by decide) ⟨by omega, by omega⟩ (Ih4.1.1 7 _) (fun r8 => ?_)
    refine sx_icmp_lt (tgt := 53) dX11_call_34 (by decide) (fun c9 => ?_) (fun c9 => ?_)
    ·
      refine sx_iconst dX11_call_53 ⟨by decide, by decide⟩ ?_
      refine sx_ireturn dX11_call_54 ?_
      exact ⟨_, rfl, Ih4⟩
    ·
      refine sx_iload_n dX11_call_37 rfl ?_
      refine sx_aload_n dX11_call_38 rfl ?_
      refine sx_getR (k := 1) (t := 1) cl_11 fl_X11_10 dX11_call_39 s_0 (by decide) rfl (by decide) (by omega) ?_
      refine sx_getS (k := 12) (t := 9) cl_0 fl_X11_138 dX11_call_42 s_1 (by decide) rfl (by decide) ?_
      refine sx_iload_n dX11_call_45 rfl ?_
      refine sx_iaload dX11_call_46 s_9 (by decide) (by decide) ⟨by omega, by omega⟩ ?_
      refine sx_iadd dX11_call_47 ?_
      refine sx_bipush dX11_call_48 ⟨by decide, by decide, by decide⟩ ?_
      refine sx_icmp_le (tgt := 55) dX11_call_50 (by decide) (fun c10 => ?_) (fun c10 => ?_)
      ·
        refine sx_aload_n dX11_call_55 rfl ?_
        refine sx_getS (k := 5) (t := 48) cl_11 fl_X11_36 dX11_call_56 s_0 (by decide) rfl (by decide) ?_
        refine sx_callVr lk_X11_166 cl_9 s_48 (by decide) dX11_call_59 (vs := []) rfl rfl (Nat.le_of_ble_eq_true rfl) (Nat.le_of_ble_eq_true rfl) ⟨_, rfl⟩ (c_X9_begin _ Ih4.1) (fun x12 h11 ph11 => ?_)
        obtain ⟨Kh11, m_h11⟩ := ph11
        have Ih11 := Ih4.tr Kh11 sb_pr1_prL
        have th11_0_1 := Kh11.2 (0) 1 rfl
        have th11_0_2 := Kh11.2 (0) 2 rfl
        have th11_1_0 := Kh11.2 (1) 0 rfl
        have hx12m := m_h11
        obtain ⟨Sx120, Sx121, Sx122, bx12⟩ := s_St x12 hx12m
        have Bx120 : x12 < NH := show x12 < 290 by omega
        have Bx121 : x12 + 1 < NH := show x12 + 1 < 290 by omega
        have Bx122 : x12 + 2 < NH := show x12 + 2 < 290 by omega
        refine sx_astore_n dX11_call_62 (by decide) ?_
        refine sx_aload_n dX11_call_63 rfl ?_
        refine sx_getS (k := 3) (t := 25) cl_11 fl_X11_22 dX11_call_64 s_0 (by decide) rfl (by decide) ?_
        refine sx_aload_n dX11_call_67 rfl ?_
        refine sx_getR (k := 1) (t := 1) cl_11 fl_X11_10 dX11_call_68 s_0 (by decide) rfl (by decide) (by omega) ?_
        refine sx_aload_n dX11_call_71 rfl ?_
        refine sx_iload_n dX11_call_72 rfl ?_
        refine sx_callVv lk_X11_177 cl_4 s_25 (by decide) dX11_call_73 (vs := [_, _, _]) rfl rfl (Nat.le_of_ble_eq_true rfl) (Nat.le_of_ble_eq_true rfl) rfl (c_X4_doWord_25_1 _ Ih11.1 (x12) hx12m _ (by omega)) (fun h13 ph13 => ?_)
        have Kh13 := ph13
        have Ih13 := Ih11.tr Kh13 sb_pr1_prD
        have th13_0_1 := Kh13.2 (0) 1 rfl
        have th13_0_2 := Kh13.2 (0) 2 rfl
        have th13_1_0 := Kh13.2 (1) 0 rfl
        refine sx_aload_n dX11_call_76 rfl ?_
        refine sx_getI (k := 1) cl_8 fl_X11_163 dX11_call_77 Sx120 Bx120 rfl (by decide) ?_
        have r15 : (0 : Int) ≤ h13 (x12) 1 ∧ h13 (x12) 1 ≤ 24 := (okc_of (St_ok1 x12 hx12m).1) ▸ Ih13.1.1 (x12) 1
        refine sx_ireturn dX11_call_80 ?_
        exact ⟨_, rfl, Ih13⟩
      ·
        refine sx_iconst dX11_call_53 ⟨by decide, by decide⟩ ?_
        refine sx_ireturn dX11_call_54 ?_
        exact ⟨_, rfl, Ih4⟩
  ·
    refine sx_iconst dX11_call_11 ⟨by decide, by decide⟩ ?_
    refine sx_ireturn dX11_call_12 ?_
    exact ⟨_, rfl, hI⟩
set_option maxRecDepth 20000 in
set_option maxHeartbeats 4000000 in
theorem c_X11_call_13 {G : sw_G} (d : Nat) {h0 : sw_H} (hJ : cJ h0) (hc : h0 0 1 = 13 ∧ h0 0 2 = 1) (y1 : Int)  : sw_E G NH SH (d + 18) mX11_call 0 [some (sw_r 0), some (sw_i y1), none, none] [] h0 (sw_Qi (fun z h' => cK pr1 h0 h')) := by
  have hI : cK pr1 h0 h0 := cK.refl hJ
  have rw : (0 : Int) ≤ h0 13 0 ∧ h0 13 0 ≤ 6 := hI.1.1 13 0
  refine sx_aload_n dX11_call_0 rfl ?_
  refine sx_getR (k := 1) (t := 13) cl_11 fl_X11_10 dX11_call_1 s_0 (by decide) rfl (by decide) (by omega) ?_
  refine sx_iload_n dX11_call_4 rfl ?_
  refine sx_callVz lk_X11_124 cl_0 s_13 (by decide) dX11_call_5 (vs := [_]) rfl rfl (Nat.le_of_ble_eq_true rfl) (Nat.le_of_ble_eq_true rfl) rfl (c_X0_hasWord_13 _ hI.1 _) (fun x2 h1 zx2 ph1 => ?_)
  obtain ⟨rfl, w_x2⟩ := ph1
  refine sx_if_ne (tgt := 13) dX11_call_8 (by decide) (fun c3 => ?_) (fun c3 => ?_)
  ·
    refine sx_aload_n dX11_call_13 rfl ?_
    refine sx_getS (k := 5) (t := 48) cl_11 fl_X11_36 dX11_call_14 s_0 (by decide) rfl (by decide) ?_
    refine sx_callVr lk_X11_147 cl_9 s_48 (by decide) dX11_call_17 (vs := []) rfl rfl (Nat.le_of_ble_eq_true rfl) (Nat.le_of_ble_eq_true rfl) ⟨_, rfl⟩ (c_X9_state _ hI.1) (fun x5 h4 ph4 => ?_)
    obtain ⟨Kh4, m_h4⟩ := ph4
    have Ih4 := hI.tr Kh4 sb_pr1_prL
    have th4_0_1 := Kh4.2 (0) 1 rfl
    have th4_0_2 := Kh4.2 (0) 2 rfl
    have th4_13_0 := Kh4.2 (13) 0 rfl
    have hx5m := m_h4
    obtain ⟨Sx50, Sx51, Sx52, bx5⟩ := s_St x5 hx5m
    have Bx50 : x5 < NH := show x5 < 290 by omega
    have Bx51 : x5 + 1 < NH := show x5 + 1 < 290 by omega
    have Bx52 : x5 + 2 < NH := show x5 + 2 < 290 by omega
    refine sx_getI (k := 1) cl_8 fl_X11_163 dX11_call_20 Sx50 Bx50 rfl (by decide) ?_
    have r6 : (0 : Int) ≤ h4 (x5) 1 ∧ h4 (x5) 1 ≤ 24 := (okc_of (St_ok1 x5 hx5m).1) ▸ Ih4.1.1 (x5) 1
    refine sy_top (fun v7 ev7 => ?_)
    refine sx_istore_n dX11_call_23 (by decide) ?_
    refine sx_iload_n dX11_call_24 rfl ?_
    refine sx_aload_n dX11_call_25 rfl ?_
    refine sx_getR (k := 1) (t := 13) cl_11 fl_X11_10 dX11_call_26 s_0 (by decide) rfl (by decide) (by omega) ?_
    refine sx_getS (k := 10) (t := 19) cl_0 fl_X11_132 dX11_call_29 s_13 (by decide) rfl (by decide) ?_
    refine sx_iload_n dX11_call_32 rfl ?_
    refine sy_iaF (F := fun z => (0 : Int) ≤ z ∧ z ≤ 2147483647) dX11_call_33 s_19 (by decide) (by decide) ⟨by omega, by omega⟩ (Ih4.1.1 19 _) (fun r8 => ?_)
    refine sx_icmp_lt (tgt := 53) dX11_call_34 (by decide) (fun c9 => ?_) (fun c9 => ?_)
    ·
      refine sx_iconst dX11_call_53 ⟨by decide, by decide⟩ ?_
      refine sx_ireturn dX11_call_54 ?_
      exact ⟨_, rfl, Ih4⟩
    ·
      refine sx_iload_n dX11_call_37 rfl ?_
      refine sx_aload_n dX11_call_38 rfl ?_
      refine sx_getR (k := 1) (t := 13) cl_11 fl_X11_10 dX11_call_39 s_0 (by decide) rfl (by decide) (by omega) ?_
      refine sx_getS (k := 12) (t := 21) cl_0 fl_X11_138 dX11_call_42 s_13 (by decide) rfl (by decide) ?_
      refine sx_iload_n dX11_call_45 rfl ?_
      refine sx_iaload dX11_call_46 s_21 (by decide) (by decide) ⟨by omega, by omega⟩ ?_
      refine sx_iadd dX11_call_47 ?_
      refine sx_bipush dX11_call_48 ⟨by decide, by decide, by decide⟩ ?_
      refine sx_icmp_le (tgt := 55) dX11_call_50 (by decide) (fun c10 => ?_) (fun c10 => ?_)
      ·
        refine sx_aload_n dX11_call_55 rfl ?_
        refine sx_getS (k := 5) (t := 48) cl_11 fl_X11_36 dX11_call_56 s_0 (by decide) rfl (by decide) ?_
        refine sx_callVr lk_X11_166 cl_9 s_48 (by decide) dX11_call_59 (vs := []) rfl rfl (Nat.le_of_ble_eq_true rfl) (Nat.le_of_ble_eq_true rfl) ⟨_, rfl⟩ (c_X9_begin _ Ih4.1) (fun x12 h11 ph11 => ?_)
        obtain ⟨Kh11, m_h11⟩ := ph11
        have Ih11 := Ih4.tr Kh11 sb_pr1_prL
        have th11_0_1 := Kh11.2 (0) 1 rfl
        have th11_0_2 := Kh11.2 (0) 2 rfl
        have th11_13_0 := Kh11.2 (13) 0 rfl
        have hx12m := m_h11
        obtain ⟨Sx120, Sx121, Sx122, bx12⟩ := s_St x12 hx12m
        have Bx120 : x12 < NH := show x12 < 290 by omega
        have Bx121 : x12 + 1 < NH := show x12 + 1 < 290 by omega
        have Bx122 : x12 + 2 < NH := show x12 + 2 < 290 by omega
        refine sx_astore_n dX11_call_62 (by decide) ?_
        refine sx_aload_n dX11_call_63 rfl ?_
        refine sx_getS (k := 3) (t := 25) cl_11 fl_X11_22 dX11_call_64 s_0 (by decide) rfl (by decide) ?_
        refine sx_aload_n dX11_call_67 rfl ?_
        refine sx_getR (k := 1) (t := 13) cl_11 fl_X11_10 dX11_call_68 s_0 (by decide) rfl (by decide) (by omega) ?_
        refine sx_aload_n dX11_call_71 rfl ?_
        refine sx_iload_n dX11_call_72 rfl ?_
        refine sx_callVv lk_X11_177 cl_4 s_25 (by decide) dX11_call_73 (vs := [_, _, _]) rfl rfl (Nat.le_of_ble_eq_true rfl) (Nat.le_of_ble_eq_true rfl) rfl (c_X4_doWord_25_13 _ Ih11.1 (x12) hx12m _ (by omega)) (fun h13 ph13 => ?_)
        have Kh13 := ph13
        have Ih13 := Ih11.tr Kh13 sb_pr1_prD
        have th13_0_1 := Kh13.2 (0) 1 rfl
        have th13_0_2 := Kh13.2 (0) 2 rfl
        have th13_13_0 := Kh13.2 (13) 0 rfl
        refine sx_aload_n dX11_call_76 rfl ?_
        refine sx_getI (k := 1) cl_8 fl_X11_163 dX11_call_77 Sx120 Bx120 rfl (by decide) ?_
        have r15 : (0 : Int) ≤ h13 (x12) 1 ∧ h13 (x12) 1 ≤ 24 := (okc_of (St_ok1 x12 hx12m).1) ▸ Ih13.1.1 (x12) 1
        refine sx_ireturn dX11_call_80 ?_
        exact ⟨_, rfl, Ih13⟩
      ·
        refine sx_iconst dX11_call_53 ⟨by decide, by decide⟩ ?_
        refine sx_ireturn dX11_call_54 ?_
        exact ⟨_, rfl, Ih4⟩
  ·
    refine sx_iconst dX11_call_11 ⟨by decide, by decide⟩ ?_
    refine sx_ireturn dX11_call_12 ?_
    exact ⟨_, rfl, hI⟩
theorem c_X11_call {G : sw_G} (d : Nat) {h0 : sw_H} (hJ : cJ h0) (y1 : Int)  : sw_E G NH SH (d + 18) mX11_call 0 [some (sw_r 0), some (sw_i y1), none, none] [] h0 (sw_Qi (fun z h' => cK pr1 h0 h')) := by
  rcases (show (h0 0 1 = 1 ∧ h0 0 2 = 13) ∨ (h0 0 1 = 13 ∧ h0 0 2 = 1) from hJ.2 4 (by decide)) with q | q
  · exact c_X11_call_1 d hJ q y1 
  · exact c_X11_call_13 d hJ q y1 
set_option maxRecDepth 20000 in
set_option maxHeartbeats 4000000 in
theorem c_X11_clear {G : sw_G} (d : Nat) {h0 : sw_H} (hJ : cJ h0)  : sw_E G NH SH (d + 3) mX11_clear 0 [some (sw_r 0), none] [] h0 (sw_Qi (fun z h' => cK pr1 h0 h')) := by
  have hI : cK pr1 h0 h0 := cK.refl hJ
  refine sx_aload_n dX11_clear_0 rfl ?_
  refine sx_getS (k := 5) (t := 48) cl_11 fl_X11_36 dX11_clear_1 s_0 (by decide) rfl (by decide) ?_
  refine sx_callVr lk_X11_147 cl_9 s_48 (by decide) dX11_clear_4 (vs := []) rfl rfl (Nat.le_of_ble_eq_true rfl) (Nat.le_of_ble_eq_true rfl) ⟨_, rfl⟩ (c_X9_state _ hI.1) (fun x2 h1 ph1 => ?_)
  obtain ⟨Kh1, m_h1⟩ := ph1
  have Ih1 := hI.tr Kh1 sb_pr1_prL
  have hx2m := m_h1
  obtain ⟨Sx20, Sx21, Sx22, bx2⟩ := s_St x2 hx2m
  have Bx20 : x2 < NH := show x2 < 290 by omega
  have Bx21 : x2 + 1 < NH := show x2 + 1 < 290 by omega
  have Bx22 : x2 + 2 < NH := show x2 + 2 < 290 by omega
  refine sx_getI (k := 1) cl_8 fl_X11_163 dX11_clear_7 Sx20 Bx20 rfl (by decide) ?_
  have r3 : (0 : Int) ≤ h1 (x2) 1 ∧ h1 (x2) 1 ≤ 24 := (okc_of (St_ok1 x2 hx2m).1) ▸ Ih1.1.1 (x2) 1
  refine sx_aload_n dX11_clear_10 rfl ?_
  refine sx_getS (k := 5) (t := 48) cl_11 fl_X11_36 dX11_clear_11 s_0 (by decide) rfl (by decide) ?_
  refine sx_callVr lk_X11_147 cl_9 s_48 (by decide) dX11_clear_14 (vs := []) rfl rfl (Nat.le_of_ble_eq_true rfl) (Nat.le_of_ble_eq_true rfl) ⟨_, rfl⟩ (c_X9_state _ Ih1.1) (fun x5 h4 ph4 => ?_)
  obtain ⟨Kh4, m_h4⟩ := ph4
  have Ih4 := Ih1.tr Kh4 sb_pr1_prL
  have hx5m := m_h4
  obtain ⟨Sx50, Sx51, Sx52, bx5⟩ := s_St x5 hx5m
  have Bx50 : x5 < NH := show x5 < 290 by omega
  have Bx51 : x5 + 1 < NH := show x5 + 1 < 290 by omega
  have Bx52 : x5 + 2 < NH := show x5 + 2 < 290 by omega
  refine sx_getI (k := 3) cl_8 fl_X11_181 dX11_clear_17 Sx50 Bx50 rfl (by decide) ?_
  have r6 : (0 : Int) ≤ h4 (x5) 3 ∧ h4 (x5) 3 ≤ 42 := (okc_of (St_ok1 x5 hx5m).2.1) ▸ Ih4.1.1 (x5) 3
  refine sx_iadd dX11_clear_20 ?_
  refine sy_topw (by omega) ?_
  refine sy_top (fun v7 ev7 => ?_)
  refine sx_istore_n dX11_clear_21 (by decide) ?_
  refine sx_iload_n dX11_clear_22 rfl ?_
  refine sx_if_ne (tgt := 28) dX11_clear_23 (by decide) (fun c8 => ?_) (fun c8 => ?_)
  ·
    refine sx_aload_n dX11_clear_28 rfl ?_
    refine sx_getS (k := 5) (t := 48) cl_11 fl_X11_36 dX11_clear_29 s_0 (by decide) rfl (by decide) ?_
    refine sx_callVr lk_X11_166 cl_9 s_48 (by decide) dX11_clear_32 (vs := []) rfl rfl (Nat.le_of_ble_eq_true rfl) (Nat.le_of_ble_eq_true rfl) ⟨_, rfl⟩ (c_X9_begin _ Ih4.1) (fun x10 h9 ph9 => ?_)
    obtain ⟨Kh9, m_h9⟩ := ph9
    have Ih9 := Ih4.tr Kh9 sb_pr1_prL
    have hx10m := m_h9
    obtain ⟨Sx100, Sx101, Sx102, bx10⟩ := s_St x10 hx10m
    have Bx100 : x10 < NH := show x10 < 290 by omega
    have Bx101 : x10 + 1 < NH := show x10 + 1 < 290 by omega
    have Bx102 : x10 + 2 < NH := show x10 + 2 < 290 by omega
    refine sx_callVv lk_X11_184 cl_8 Sx100 Bx100 dX11_clear_35 (vs := []) rfl rfl (Nat.le_of_ble_eq_true rfl) (Nat.le_of_ble_eq_true rfl) rfl (c_X8_dropAll _ Ih9.1 (x10) hx10m) (fun h11 ph11 => ?_)
    have Kh11 := ph11
    have Ih11 := Ih9.tr Kh11 sb_pr1_prS
    refine sx_iload_n dX11_clear_38 rfl ?_
    refine sx_ireturn dX11_clear_39 ?_
    exact ⟨_, rfl, Ih11⟩
  ·
    refine sx_iconst dX11_clear_26 ⟨by decide, by decide⟩ ?_
    refine sx_ireturn dX11_clear_27 ?_
    exact ⟨_, rfl, Ih4⟩
set_option maxRecDepth 20000 in
set_option maxHeartbeats 4000000 in
theorem c_X11_inline_1 {G : sw_G} (d : Nat) {h0 : sw_H} (hJ : cJ h0) (hc : h0 0 1 = 1 ∧ h0 0 2 = 13) (y1 : Int)  : sw_E G NH SH (d + 3) mX11_inline 0 [some (sw_r 0), some (sw_i y1), none] [] h0 (sw_Qi (fun z h' => cK pr1 h0 h')) := by
  have hI : cK pr1 h0 h0 := cK.refl hJ
  have rw : (0 : Int) ≤ h0 1 0 ∧ h0 1 0 ≤ 6 := hI.1.1 1 0
  refine sx_aload_n dX11_inline_0 rfl ?_
  refine sx_getR (k := 1) (t := 1) cl_11 fl_X11_10 dX11_inline_1 s_0 (by decide) rfl (by decide) (by omega) ?_
  refine sx_iload_n dX11_inline_4 rfl ?_
  refine sx_callVz lk_X11_124 cl_0 s_1 (by decide) dX11_inline_5 (vs := [_]) rfl rfl (Nat.le_of_ble_eq_true rfl) (Nat.le_of_ble_eq_true rfl) rfl (c_X0_hasWord_1 _ hI.1 _) (fun x2 h1 zx2 ph1 => ?_)
  obtain ⟨rfl, w_x2⟩ := ph1
  refine sx_if_ne (tgt := 13) dX11_inline_8 (by decide) (fun c3 => ?_) (fun c3 => ?_)
  ·
    refine sx_aload_n dX11_inline_13 rfl ?_
    refine sx_getS (k := 5) (t := 48) cl_11 fl_X11_36 dX11_inline_14 s_0 (by decide) rfl (by decide) ?_
    refine sx_callVr lk_X11_166 cl_9 s_48 (by decide) dX11_inline_17 (vs := []) rfl rfl (Nat.le_of_ble_eq_true rfl) (Nat.le_of_ble_eq_true rfl) ⟨_, rfl⟩ (c_X9_begin _ hI.1) (fun x5 h4 ph4 => ?_)
    obtain ⟨Kh4, m_h4⟩ := ph4
    have Ih4 := hI.tr Kh4 sb_pr1_prL
    have th4_0_1 := Kh4.2 (0) 1 rfl
    have th4_0_2 := Kh4.2 (0) 2 rfl
    have th4_1_0 := Kh4.2 (1) 0 rfl
    have hx5m := m_h4
    obtain ⟨Sx50, Sx51, Sx52, bx5⟩ := s_St x5 hx5m
    have Bx50 : x5 < NH := show x5 < 290 by omega
    have Bx51 : x5 + 1 < NH := show x5 + 1 < 290 by omega
    have Bx52 : x5 + 2 < NH := show x5 + 2 < 290 by omega
    refine sx_astore_n dX11_inline_20 (by decide) ?_
    refine sx_aload_n dX11_inline_21 rfl ?_
    refine sx_dupr dX11_inline_22 ?_
    refine sx_getI (k := 4) cl_8 fl_X11_150 dX11_inline_23 Sx50 Bx50 rfl (by decide) ?_
    refine sx_iconst dX11_inline_26 ⟨by decide, by decide⟩ ?_
    refine sx_iload_n dX11_inline_27 rfl ?_
    refine sx_ishl dX11_inline_28 ?_
    refine sx_ixor dX11_inline_29 ?_
    refine sy_putI (k := 4) cl_8 fl_X11_150 dX11_inline_30 Sx50 Bx50 rfl (by decide) rfl rfl (fun h6 eh6 => ?_)
    have Ih6 := Ih4.up eh6 (okc_no (St_ok1 x5 hx5m).2.2.1) (St_sp x5 hx5m _).1.1 (prf_of sb_pr1_prS (St_sp x5 hx5m _).2.1)
    have th6_0_1 := eh6.2 (0) 1 (by omega)
    have th6_0_2 := eh6.2 (0) 2 (by omega)
    have th6_1_0 := eh6.2 (1) 0 (by omega)
    refine sx_aload_n dX11_inline_33 rfl ?_
    refine sx_getI (k := 4) cl_8 fl_X11_150 dX11_inline_34 Sx50 Bx50 rfl (by decide) ?_
    refine sx_ireturn dX11_inline_37 ?_
    exact ⟨_, rfl, Ih6⟩
  ·
    refine sx_iconst dX11_inline_11 ⟨by decide, by decide⟩ ?_
    refine sx_ireturn dX11_inline_12 ?_
    exact ⟨_, rfl, hI⟩
set_option maxRecDepth 20000 in
set_option maxHeartbeats 4000000 in
theorem c_X11_inline_13 {G : sw_G} (d : Nat) {h0 : sw_H} (hJ : cJ h0) (hc : h0 0 1 = 13 ∧ h0 0 2 = 1) (y1 : Int)  : sw_E G NH SH (d + 3) mX11_inline 0 [some (sw_r 0), some (sw_i y1), none] [] h0 (sw_Qi (fun z h' => cK pr1 h0 h')) := by
  have hI : cK pr1 h0 h0 := cK.refl hJ
  have rw : (0 : Int) ≤ h0 13 0 ∧ h0 13 0 ≤ 6 := hI.1.1 13 0
  refine sx_aload_n dX11_inline_0 rfl ?_
  refine sx_getR (k := 1) (t := 13) cl_11 fl_X11_10 dX11_inline_1 s_0 (by decide) rfl (by decide) (by omega) ?_
  refine sx_iload_n dX11_inline_4 rfl ?_
  refine sx_callVz lk_X11_124 cl_0 s_13 (by decide) dX11_inline_5 (vs := [_]) rfl rfl (Nat.le_of_ble_eq_true rfl) (Nat.le_of_ble_eq_true rfl) rfl (c_X0_hasWord_13 _ hI.1 _) (fun x2 h1 zx2 ph1 => ?_)
  obtain ⟨rfl, w_x2⟩ := ph1
  refine sx_if_ne (tgt := 13) dX11_inline_8 (by decide) (fun c3 => ?_) (fun c3 => ?_)
  ·
    refine sx_aload_n dX11_inline_13 rfl ?_
    refine sx_getS (k := 5) (t := 48) cl_11 fl_X11_36 dX11_inline_14 s_0 (by decide) rfl (by decide) ?_
    refine sx_callVr lk_X11_166 cl_9 s_48 (by decide) dX11_inline_17 (vs := []) rfl rfl (Nat.le_of_ble_eq_true rfl) (Nat.le_of_ble_eq_true rfl) ⟨_, rfl⟩ (c_X9_begin _ hI.1) (fun x5 h4 ph4 => ?_)
    obtain ⟨Kh4, m_h4⟩ := ph4
    have Ih4 := hI.tr Kh4 sb_pr1_prL
    have th4_0_1 := Kh4.2 (0) 1 rfl
    have th4_0_2 := Kh4.2 (0) 2 rfl
    have th4_13_0 := Kh4.2 (13) 0 rfl
    have hx5m := m_h4
    obtain ⟨Sx50, Sx51, Sx52, bx5⟩ := s_St x5 hx5m
    have Bx50 : x5 < NH := show x5 < 290 by omega
    have Bx51 : x5 + 1 < NH := show x5 + 1 < 290 by omega
    have Bx52 : x5 + 2 < NH := show x5 + 2 < 290 by omega
    refine sx_astore_n dX11_inline_20 (by decide) ?_
    refine sx_aload_n dX11_inline_21 rfl ?_
    refine sx_dupr dX11_inline_22 ?_
    refine sx_getI (k := 4) cl_8 fl_X11_150 dX11_inline_23 Sx50 Bx50 rfl (by decide) ?_
    refine sx_iconst dX11_inline_26 ⟨by decide, by decide⟩ ?_
    refine sx_iload_n dX11_inline_27 rfl ?_
    refine sx_ishl dX11_inline_28 ?_
    refine sx_ixor dX11_inline_29 ?_
    refine sy_putI (k := 4) cl_8 fl_X11_150 dX11_inline_30 Sx50 Bx50 rfl (by decide) rfl rfl (fun h6 eh6 => ?_)
    have Ih6 := Ih4.up eh6 (okc_no (St_ok1 x5 hx5m).2.2.1) (St_sp x5 hx5m _).1.1 (prf_of sb_pr1_prS (St_sp x5 hx5m _).2.1)
    have th6_0_1 := eh6.2 (0) 1 (by omega)
    have th6_0_2 := eh6.2 (0) 2 (by omega)
    have th6_13_0 := eh6.2 (13) 0 (by omega)
    refine sx_aload_n dX11_inline_33 rfl ?_
    refine sx_getI (k := 4) cl_8 fl_X11_150 dX11_inline_34 Sx50 Bx50 rfl (by decide) ?_
    refine sx_ireturn dX11_inline_37 ?_
    exact ⟨_, rfl, Ih6⟩
  ·
    refine sx_iconst dX11_inline_11 ⟨by decide, by decide⟩ ?_
    refine sx_ireturn dX11_inline_12 ?_
    exact ⟨_, rfl, hI⟩
theorem c_X11_inline {G : sw_G} (d : Nat) {h0 : sw_H} (hJ : cJ h0) (y1 : Int)  : sw_E G NH SH (d + 3) mX11_inline 0 [some (sw_r 0), some (sw_i y1), none] [] h0 (sw_Qi (fun z h' => cK pr1 h0 h')) := by
  rcases (show (h0 0 1 = 1 ∧ h0 0 2 = 13) ∨ (h0 0 1 = 13 ∧ h0 0 2 = 1) from hJ.2 4 (by decide)) with q | q
  · exact c_X11_inline_1 d hJ q y1 
  · exact c_X11_inline_13 d hJ q y1 
set_option maxRecDepth 20000 in
set_option maxHeartbeats 4000000 in
theorem c_X11_flip_1 {G : sw_G} (d : Nat) {h0 : sw_H} (hJ : cJ h0) (hc : h0 0 1 = 1 ∧ h0 0 2 = 13)  : sw_E G NH SH (d + 3) mX11_flip 0 [some (sw_r 0)] [] h0 (sw_Qi (fun z h' => cK pr1 h0 h')) := by
  have hI : cK pr1 h0 h0 := cK.refl hJ
  have rw : (0 : Int) ≤ h0 1 0 ∧ h0 1 0 ≤ 6 := hI.1.1 1 0
  refine sx_aload_n dX11_flip_0 rfl ?_
  refine sx_getS (k := 5) (t := 48) cl_11 fl_X11_36 dX11_flip_1 s_0 (by decide) rfl (by decide) ?_
  refine sx_callVr lk_X11_166 cl_9 s_48 (by decide) dX11_flip_4 (vs := []) rfl rfl (Nat.le_of_ble_eq_true rfl) (Nat.le_of_ble_eq_true rfl) ⟨_, rfl⟩ (c_X9_begin _ hI.1) (fun x2 h1 ph1 => ?_)
  obtain ⟨Kh1, m_h1⟩ := ph1
  have Ih1 := hI.tr Kh1 sb_pr1_prL
  have th1_0_1 := Kh1.2 (0) 1 rfl
  have th1_0_2 := Kh1.2 (0) 2 rfl
  have th1_1_0 := Kh1.2 (1) 0 rfl
  have hx2m := m_h1
  obtain ⟨Sx20, Sx21, Sx22, bx2⟩ := s_St x2 hx2m
  have Bx20 : x2 < NH := show x2 < 290 by omega
  have Bx21 : x2 + 1 < NH := show x2 + 1 < 290 by omega
  have Bx22 : x2 + 2 < NH := show x2 + 2 < 290 by omega
  refine sx_aload_n dX11_flip_7 rfl ?_
  refine sx_getR (k := 1) (t := 1) cl_11 fl_X11_10 dX11_flip_8 s_0 (by decide) rfl (by decide) (by omega) ?_
  refine sx_getI (k := 3) cl_0 fl_X11_187 dX11_flip_11 s_1 (by decide) rfl (by decide) ?_
  refine sx_callVi lk_X11_190 cl_8 Sx20 Bx20 dX11_flip_14 (vs := [_]) rfl rfl (Nat.le_of_ble_eq_true rfl) (Nat.le_of_ble_eq_true rfl) rfl (c_X8_turnBit _ Ih1.1 (x2) hx2m _) (fun x4 h3 ph3 => ?_)
  have Kh3 := ph3
  have Ih3 := Ih1.tr Kh3 sb_pr1_prS
  have th3_0_1 := Kh3.2 (0) 1 rfl
  have th3_0_2 := Kh3.2 (0) 2 rfl
  have th3_1_0 := Kh3.2 (1) 0 rfl
  refine sx_ireturn dX11_flip_17 ?_
  exact ⟨_, rfl, Ih3⟩
set_option maxRecDepth 20000 in
set_option maxHeartbeats 4000000 in
theorem c_X11_flip_13 {G : sw_G} (d : Nat) {h0 : sw_H} (hJ : cJ h0) (hc : h0 0 1 = 13 ∧ h0 0 2 = 1)  : sw_E G NH SH (d + 3) mX11_flip 0 [some (sw_r 0)] [] h0 (sw_Qi (fun z h' => cK pr1 h0 h')) := by
  have hI : cK pr1 h0 h0 := cK.refl hJ
  have rw : (0 : Int) ≤ h0 13 0 ∧ h0 13 0 ≤ 6 := hI.1.1 13 0
  refine sx_aload_n dX11_flip_0 rfl ?_
  refine sx_getS (k := 5) (t := 48) cl_11 fl_X11_36 dX11_flip_1 s_0 (by decide) rfl (by decide) ?_
  refine sx_callVr lk_X11_166 cl_9 s_48 (by decide) dX11_flip_4 (vs := []) rfl rfl (Nat.le_of_ble_eq_true rfl) (Nat.le_of_ble_eq_true rfl) ⟨_, rfl⟩ (c_X9_begin _ hI.1) (fun x2 h1 ph1 => ?_)
  obtain ⟨Kh1, m_h1⟩ := ph1
  have Ih1 := hI.tr Kh1 sb_pr1_prL
  have th1_0_1 := Kh1.2 (0) 1 rfl
  have th1_0_2 := Kh1.2 (0) 2 rfl
  have th1_13_0 := Kh1.2 (13) 0 rfl
  have hx2m := m_h1
  obtain ⟨Sx20, Sx21, Sx22, bx2⟩ := s_St x2 hx2m
  have Bx20 : x2 < NH := show x2 < 290 by omega
  have Bx21 : x2 + 1 < NH := show x2 + 1 < 290 by omega
  have Bx22 : x2 + 2 < NH := show x2 + 2 < 290 by omega
  refine sx_aload_n dX11_flip_7 rfl ?_
  refine sx_getR (k := 1) (t := 13) cl_11 fl_X11_10 dX11_flip_8 s_0 (by decide) rfl (by decide) (by omega) ?_
  refine sx_getI (k := 3) cl_0 fl_X11_187 dX11_flip_11 s_13 (by decide) rfl (by decide) ?_
  refine sx_callVi lk_X11_190 cl_8 Sx20 Bx20 dX11_flip_14 (vs := [_]) rfl rfl (Nat.le_of_ble_eq_true rfl) (Nat.le_of_ble_eq_true rfl) rfl (c_X8_turnBit _ Ih1.1 (x2) hx2m _) (fun x4 h3 ph3 => ?_)
  have Kh3 := ph3
  have Ih3 := Ih1.tr Kh3 sb_pr1_prS
  have th3_0_1 := Kh3.2 (0) 1 rfl
  have th3_0_2 := Kh3.2 (0) 2 rfl
  have th3_13_0 := Kh3.2 (13) 0 rfl
  refine sx_ireturn dX11_flip_17 ?_
  exact ⟨_, rfl, Ih3⟩
theorem c_X11_flip {G : sw_G} (d : Nat) {h0 : sw_H} (hJ : cJ h0)  : sw_E G NH SH (d + 3) mX11_flip 0 [some (sw_r 0)] [] h0 (sw_Qi (fun z h' => cK pr1 h0 h')) := by
  rcases (show (h0 0 1 = 1 ∧ h0 0 2 = 13) ∨ (h0 0 1 = 13 ∧ h0 0 2 = 1) from hJ.2 4 (by decide)) with q | q
  · exact c_X11_flip_1 d hJ q  
  · exact c_X11_flip_13 d hJ q  
set_option maxRecDepth 20000 in
set_option maxHeartbeats 4000000 in
theorem c_X11_undo {G : sw_G} (d : Nat) {h0 : sw_H} (hJ : cJ h0)  : sw_E G NH SH (d + 1) mX11_undo 0 [some (sw_r 0)] [] h0 (sw_Qz (fun z h' => cK pr1 h0 h')) := by
  have hI : cK pr1 h0 h0 := cK.refl hJ
  refine sx_aload_n dX11_undo_0 rfl ?_
  refine sx_getS (k := 5) (t := 48) cl_11 fl_X11_36 dX11_undo_1 s_0 (by decide) rfl (by decide) ?_
  refine sx_callVz lk_X11_194 cl_9 s_48 (by decide) dX11_undo_4 (vs := []) rfl rfl (Nat.le_of_ble_eq_true rfl) (Nat.le_of_ble_eq_true rfl) rfl (c_X9_stepBack _ hI.1) (fun x2 h1 zx2 ph1 => ?_)
  have Kh1 := ph1
  have Ih1 := hI.tr Kh1 sb_pr1_prL
  refine sx_ireturn dX11_undo_7 ?_
  exact ⟨_, rfl, by omega, Ih1⟩
set_option maxRecDepth 20000 in
set_option maxHeartbeats 4000000 in
theorem c_X11_redo {G : sw_G} (d : Nat) {h0 : sw_H} (hJ : cJ h0)  : sw_E G NH SH (d + 1) mX11_redo 0 [some (sw_r 0)] [] h0 (sw_Qz (fun z h' => cK pr1 h0 h')) := by
  have hI : cK pr1 h0 h0 := cK.refl hJ
  refine sx_aload_n dX11_redo_0 rfl ?_
  refine sx_getS (k := 5) (t := 48) cl_11 fl_X11_36 dX11_redo_1 s_0 (by decide) rfl (by decide) ?_
  refine sx_callVz lk_X11_198 cl_9 s_48 (by decide) dX11_redo_4 (vs := []) rfl rfl (Nat.le_of_ble_eq_true rfl) (Nat.le_of_ble_eq_true rfl) rfl (c_X9_stepOn _ hI.1) (fun x2 h1 zx2 ph1 => ?_)
  have Kh1 := ph1
  have Ih1 := hI.tr Kh1 sb_pr1_prL
  refine sx_ireturn dX11_redo_7 ?_
  exact ⟨_, rfl, by omega, Ih1⟩
set_option maxRecDepth 20000 in
set_option maxHeartbeats 4000000 in
theorem c_X11_cell {G : sw_G} (d : Nat) {h0 : sw_H} (hJ : cJ h0) (y1 : Int)  : sw_E G NH SH (d + 1) mX11_cell 0 [some (sw_r 0), some (sw_i y1)] [] h0 (sw_Qi (fun z h' => cK pr1 h0 h')) := by
  have hI : cK pr1 h0 h0 := cK.refl hJ
  refine sx_aload_n dX11_cell_0 rfl ?_
  refine sx_getS (k := 5) (t := 48) cl_11 fl_X11_36 dX11_cell_1 s_0 (by decide) rfl (by decide) ?_
  refine sx_callVr lk_X11_147 cl_9 s_48 (by decide) dX11_cell_4 (vs := []) rfl rfl (Nat.le_of_ble_eq_true rfl) (Nat.le_of_ble_eq_true rfl) ⟨_, rfl⟩ (c_X9_state _ hI.1) (fun x2 h1 ph1 => ?_)
  obtain ⟨Kh1, m_h1⟩ := ph1
  have Ih1 := hI.tr Kh1 sb_pr1_prL
  have hx2m := m_h1
  obtain ⟨Sx20, Sx21, Sx22, bx2⟩ := s_St x2 hx2m
  have Bx20 : x2 < NH := show x2 < 290 by omega
  have Bx21 : x2 + 1 < NH := show x2 + 1 < 290 by omega
  have Bx22 : x2 + 2 < NH := show x2 + 2 < 290 by omega
  refine sx_iload_n dX11_cell_7 rfl ?_
  refine sx_callVi lk_X11_201 cl_8 Sx20 Bx20 dX11_cell_8 (vs := [_]) rfl rfl (Nat.le_of_ble_eq_true rfl) (Nat.le_of_ble_eq_true rfl) rfl (c_X8_cellAt _ Ih1.1 (x2) hx2m _) (fun x4 h3 ph3 => ?_)
  have Kh3 := ph3
  have Ih3 := Ih1.tr Kh3 sb_pr1_prS
  refine sx_ireturn dX11_cell_11 ?_
  exact ⟨_, rfl, Ih3⟩
set_option maxRecDepth 20000 in
set_option maxHeartbeats 4000000 in
theorem c_X11_put {G : sw_G} (d : Nat) {h0 : sw_H} (hJ : cJ h0) (y1 : Int)  : sw_E G NH SH (d + 1) mX11_put 0 [some (sw_r 0), some (sw_i y1)] [] h0 (sw_Qi (fun z h' => cK pr1 h0 h')) := by
  have hI : cK pr1 h0 h0 := cK.refl hJ
  refine sx_aload_n dX11_put_0 rfl ?_
  refine sx_getS (k := 5) (t := 48) cl_11 fl_X11_36 dX11_put_1 s_0 (by decide) rfl (by decide) ?_
  refine sx_callVr lk_X11_147 cl_9 s_48 (by decide) dX11_put_4 (vs := []) rfl rfl (Nat.le_of_ble_eq_true rfl) (Nat.le_of_ble_eq_true rfl) ⟨_, rfl⟩ (c_X9_state _ hI.1) (fun x2 h1 ph1 => ?_)
  obtain ⟨Kh1, m_h1⟩ := ph1
  have Ih1 := hI.tr Kh1 sb_pr1_prL
  have hx2m := m_h1
  obtain ⟨Sx20, Sx21, Sx22, bx2⟩ := s_St x2 hx2m
  have Bx20 : x2 < NH := show x2 < 290 by omega
  have Bx21 : x2 + 1 < NH := show x2 + 1 < 290 by omega
  have Bx22 : x2 + 2 < NH := show x2 + 2 < 290 by omega
  refine sx_iload_n dX11_put_7 rfl ?_
  refine sx_callVi lk_X11_204 cl_8 Sx20 Bx20 dX11_put_8 (vs := [_]) rfl rfl (Nat.le_of_ble_eq_true rfl) (Nat.le_of_ble_eq_true rfl) rfl (c_X8_putAt _ Ih1.1 (x2) hx2m _) (fun x4 h3 ph3 => ?_)
  have Kh3 := ph3
  have Ih3 := Ih1.tr Kh3 sb_pr1_prS
  refine sx_ireturn dX11_put_11 ?_
  exact ⟨_, rfl, Ih3⟩
set_option maxRecDepth 20000 in
set_option maxHeartbeats 4000000 in
theorem c_X11_comes_1 {G : sw_G} (d : Nat) {h0 : sw_H} (hJ : cJ h0) (hc : h0 0 1 = 1 ∧ h0 0 2 = 13) (y1 y2 y3 y4 y5 : Int)  : sw_E G NH SH (d + 18) mX11_comes 0 [some (sw_r 0), some (sw_i y1), some (sw_i y2), some (sw_i y3), some (sw_i y4), some (sw_i y5)] [] h0 (sw_Qi (fun z h' => cK pr1 h0 h')) := by
  have hI : cK pr1 h0 h0 := cK.refl hJ
  have rw : (0 : Int) ≤ h0 1 0 ∧ h0 1 0 ≤ 6 := hI.1.1 1 0
  refine sx_aload_n dX11_comes_0 rfl ?_
  refine sx_getR (k := 1) (t := 1) cl_11 fl_X11_10 dX11_comes_1 s_0 (by decide) rfl (by decide) (by omega) ?_
  refine sx_iload_n dX11_comes_4 rfl ?_
  refine sx_callVz lk_X11_124 cl_0 s_1 (by decide) dX11_comes_5 (vs := [_]) rfl rfl (Nat.le_of_ble_eq_true rfl) (Nat.le_of_ble_eq_true rfl) rfl (c_X0_hasWord_1 _ hI.1 _) (fun x2 h1 zx2 ph1 => ?_)
  obtain ⟨rfl, w_x2⟩ := ph1
  refine sx_if_eq (tgt := 24) dX11_comes_8 (by decide) (fun c3 => ?_) (fun c3 => ?_)
  ·
    refine sx_iconst dX11_comes_24 ⟨by decide, by decide⟩ ?_
    refine sx_ireturn dX11_comes_25 ?_
    exact ⟨_, rfl, hI⟩
  ·
    refine sx_aload_n dX11_comes_11 rfl ?_
    refine sx_getR (k := 1) (t := 1) cl_11 fl_X11_10 dX11_comes_12 s_0 (by decide) rfl (by decide) (by omega) ?_
    refine sx_getS (k := 10) (t := 7) cl_0 fl_X11_132 dX11_comes_15 s_1 (by decide) rfl (by decide) ?_
    refine sx_iload_n dX11_comes_18 rfl ?_
    refine sy_iaF (F := fun z => (0 : Int) ≤ z ∧ z ≤ 2147483647) dX11_comes_19 s_7 (by decide) (by decide) ⟨by omega, by omega⟩ (hI.1.1 7 _) (fun r4 => ?_)
    refine sx_iconst dX11_comes_20 ⟨by decide, by decide⟩ ?_
    refine sx_icmp_le (tgt := 26) dX11_comes_21 (by decide) (fun c5 => ?_) (fun c5 => ?_)
    ·
      refine sx_aload_n dX11_comes_26 rfl ?_
      refine sx_getS (k := 8) (t := 174) cl_11 fl_X11_47 dX11_comes_27 s_0 (by decide) rfl (by decide) ?_
      refine sx_iload_n dX11_comes_30 rfl ?_
      refine sx_iload_n dX11_comes_31 rfl ?_
      refine sx_iload dX11_comes_32 rfl ?_
      refine sx_callVv lk_X11_207 cl_8 s_174 (by decide) dX11_comes_34 (vs := [_, _, _]) rfl rfl (Nat.le_of_ble_eq_true rfl) (Nat.le_of_ble_eq_true rfl) rfl (c_X8_beginWith _ hI.1 (174) (by decide) _ _ _) (fun h6 ph6 => ?_)
      have Kh6 := ph6
      have Ih6 := hI.tr Kh6 sb_pr1_prS
      have th6_0_1 := Kh6.2 (0) 1 rfl
      have th6_0_2 := Kh6.2 (0) 2 rfl
      have th6_1_0 := Kh6.2 (1) 0 rfl
      refine sx_aload_n dX11_comes_37 rfl ?_
      refine sx_getS (k := 3) (t := 25) cl_11 fl_X11_22 dX11_comes_38 s_0 (by decide) rfl (by decide) ?_
      refine sx_aload_n dX11_comes_41 rfl ?_
      refine sx_getR (k := 1) (t := 1) cl_11 fl_X11_10 dX11_comes_42 s_0 (by decide) rfl (by decide) (by omega) ?_
      refine sx_aload_n dX11_comes_45 rfl ?_
      refine sx_getS (k := 8) (t := 174) cl_11 fl_X11_47 dX11_comes_46 s_0 (by decide) rfl (by decide) ?_
      refine sx_iload_n dX11_comes_49 rfl ?_
      refine sx_callVv lk_X11_177 cl_4 s_25 (by decide) dX11_comes_50 (vs := [_, _, _]) rfl rfl (Nat.le_of_ble_eq_true rfl) (Nat.le_of_ble_eq_true rfl) rfl (c_X4_doWord_25_1 _ Ih6.1 (174) (by decide) _ (by omega)) (fun h8 ph8 => ?_)
      have Kh8 := ph8
      have Ih8 := Ih6.tr Kh8 sb_pr1_prD
      have th8_0_1 := Kh8.2 (0) 1 rfl
      have th8_0_2 := Kh8.2 (0) 2 rfl
      have th8_1_0 := Kh8.2 (1) 0 rfl
      refine sx_aload_n dX11_comes_53 rfl ?_
      refine sx_getS (k := 8) (t := 174) cl_11 fl_X11_47 dX11_comes_54 s_0 (by decide) rfl (by decide) ?_
      refine sx_iload dX11_comes_57 rfl ?_
      refine sx_callVi lk_X11_201 cl_8 s_174 (by decide) dX11_comes_59 (vs := [_]) rfl rfl (Nat.le_of_ble_eq_true rfl) (Nat.le_of_ble_eq_true rfl) rfl (c_X8_cellAt _ Ih8.1 (174) (by decide) _) (fun x11 h10 ph10 => ?_)
      have Kh10 := ph10
      have Ih10 := Ih8.tr Kh10 sb_pr1_prS
      have th10_0_1 := Kh10.2 (0) 1 rfl
      have th10_0_2 := Kh10.2 (0) 2 rfl
      have th10_1_0 := Kh10.2 (1) 0 rfl
      refine sx_ireturn dX11_comes_62 ?_
      exact ⟨_, rfl, Ih10⟩
    ·
      refine sx_iconst dX11_comes_24 ⟨by decide, by decide⟩ ?_
      refine sx_ireturn dX11_comes_25 ?_
      exact ⟨_, rfl, hI⟩
set_option maxRecDepth 20000 in
set_option maxHeartbeats 4000000 in
theorem c_X11_comes_13 {G : sw_G} (d : Nat) {h0 : sw_H} (hJ : cJ h0) (hc : h0 0 1 = 13 ∧ h0 0 2 = 1) (y1 y2 y3 y4 y5 : Int)  : sw_E G NH SH (d + 18) mX11_comes 0 [some (sw_r 0), some (sw_i y1), some (sw_i y2), some (sw_i y3), some (sw_i y4), some (sw_i y5)] [] h0 (sw_Qi (fun z h' => cK pr1 h0 h')) := by
  have hI : cK pr1 h0 h0 := cK.refl hJ
  have rw : (0 : Int) ≤ h0 13 0 ∧ h0 13 0 ≤ 6 := hI.1.1 13 0
  refine sx_aload_n dX11_comes_0 rfl ?_
  refine sx_getR (k := 1) (t := 13) cl_11 fl_X11_10 dX11_comes_1 s_0 (by decide) rfl (by decide) (by omega) ?_
  refine sx_iload_n dX11_comes_4 rfl ?_
  refine sx_callVz lk_X11_124 cl_0 s_13 (by decide) dX11_comes_5 (vs := [_]) rfl rfl (Nat.le_of_ble_eq_true rfl) (Nat.le_of_ble_eq_true rfl) rfl (c_X0_hasWord_13 _ hI.1 _) (fun x2 h1 zx2 ph1 => ?_)
  obtain ⟨rfl, w_x2⟩ := ph1
  refine sx_if_eq (tgt := 24) dX11_comes_8 (by decide) (fun c3 => ?_) (fun c3 => ?_)
  ·
    refine sx_iconst dX11_comes_24 ⟨by decide, by decide⟩ ?_
    refine sx_ireturn dX11_comes_25 ?_
    exact ⟨_, rfl, hI⟩
  ·
    refine sx_aload_n dX11_comes_11 rfl ?_
    refine sx_getR (k := 1) (t := 13) cl_11 fl_X11_10 dX11_comes_12 s_0 (by decide) rfl (by decide) (by omega) ?_
    refine sx_getS (k := 10) (t := 19) cl_0 fl_X11_132 dX11_comes_15 s_13 (by decide) rfl (by decide) ?_
    refine sx_iload_n dX11_comes_18 rfl ?_
    refine sy_iaF (F := fun z => (0 : Int) ≤ z ∧ z ≤ 2147483647) dX11_comes_19 s_19 (by decide) (by decide) ⟨by omega, by omega⟩ (hI.1.1 19 _) (fun r4 => ?_)
    refine sx_iconst dX11_comes_20 ⟨by decide, by decide⟩ ?_
    refine sx_icmp_le (tgt := 26) dX11_comes_21 (by decide) (fun c5 => ?_) (fun c5 => ?_)
    ·
      refine sx_aload_n dX11_comes_26 rfl ?_
      refine sx_getS (k := 8) (t := 174) cl_11 fl_X11_47 dX11_comes_27 s_0 (by decide) rfl (by decide) ?_
      refine sx_iload_n dX11_comes_30 rfl ?_
      refine sx_iload_n dX11_comes_31 rfl ?_
      refine sx_iload dX11_comes_32 rfl ?_
      refine sx_callVv lk_X11_207 cl_8 s_174 (by decide) dX11_comes_34 (vs := [_, _, _]) rfl rfl (Nat.le_of_ble_eq_true rfl) (Nat.le_of_ble_eq_true rfl) rfl (c_X8_beginWith _ hI.1 (174) (by decide) _ _ _) (fun h6 ph6 => ?_)
      have Kh6 := ph6
      have Ih6 := hI.tr Kh6 sb_pr1_prS
      have th6_0_1 := Kh6.2 (0) 1 rfl
      have th6_0_2 := Kh6.2 (0) 2 rfl
      have th6_13_0 := Kh6.2 (13) 0 rfl
      refine sx_aload_n dX11_comes_37 rfl ?_
      refine sx_getS (k := 3) (t := 25) cl_11 fl_X11_22 dX11_comes_38 s_0 (by decide) rfl (by decide) ?_
      refine sx_aload_n dX11_comes_41 rfl ?_
      refine sx_getR (k := 1) (t := 13) cl_11 fl_X11_10 dX11_comes_42 s_0 (by decide) rfl (by decide) (by omega) ?_
      refine sx_aload_n dX11_comes_45 rfl ?_
      refine sx_getS (k := 8) (t := 174) cl_11 fl_X11_47 dX11_comes_46 s_0 (by decide) rfl (by decide) ?_
      refine sx_iload_n dX11_comes_49 rfl ?_
      refine sx_callVv lk_X11_177 cl_4 s_25 (by decide) dX11_comes_50 (vs := [_, _, _]) rfl rfl (Nat.le_of_ble_eq_true rfl) (Nat.le_of_ble_eq_true rfl) rfl (c_X4_doWord_25_13 _ Ih6.1 (174) (by decide) _ (by omega)) (fun h8 ph8 => ?_)
      have Kh8 := ph8
      have Ih8 := Ih6.tr Kh8 sb_pr1_prD
      have th8_0_1 := Kh8.2 (0) 1 rfl
      have th8_0_2 := Kh8.2 (0) 2 rfl
      have th8_13_0 := Kh8.2 (13) 0 rfl
      refine sx_aload_n dX11_comes_53 rfl ?_
      refine sx_getS (k := 8) (t := 174) cl_11 fl_X11_47 dX11_comes_54 s_0 (by decide) rfl (by decide) ?_
      refine sx_iload dX11_comes_57 rfl ?_
      refine sx_callVi lk_X11_201 cl_8 s_174 (by decide) dX11_comes_59 (vs := [_]) rfl rfl (Nat.le_of_ble_eq_true rfl) (Nat.le_of_ble_eq_true rfl) rfl (c_X8_cellAt _ Ih8.1 (174) (by decide) _) (fun x11 h10 ph10 => ?_)
      have Kh10 := ph10
      have Ih10 := Ih8.tr Kh10 sb_pr1_prS
      have th10_0_1 := Kh10.2 (0) 1 rfl
      have th10_0_2 := Kh10.2 (0) 2 rfl
      have th10_13_0 := Kh10.2 (13) 0 rfl
      refine sx_ireturn dX11_comes_62 ?_
      exact ⟨_, rfl, Ih10⟩
    ·
      refine sx_iconst dX11_comes_24 ⟨by decide, by decide⟩ ?_
      refine sx_ireturn dX11_comes_25 ?_
      exact ⟨_, rfl, hI⟩
theorem c_X11_comes {G : sw_G} (d : Nat) {h0 : sw_H} (hJ : cJ h0) (y1 y2 y3 y4 y5 : Int)  : sw_E G NH SH (d + 18) mX11_comes 0 [some (sw_r 0), some (sw_i y1), some (sw_i y2), some (sw_i y3), some (sw_i y4), some (sw_i y5)] [] h0 (sw_Qi (fun z h' => cK pr1 h0 h')) := by
  rcases (show (h0 0 1 = 1 ∧ h0 0 2 = 13) ∨ (h0 0 1 = 13 ∧ h0 0 2 = 1) from hJ.2 4 (by decide)) with q | q
  · exact c_X11_comes_1 d hJ q y1 y2 y3 y4 y5 
  · exact c_X11_comes_13 d hJ q y1 y2 y3 y4 y5 
set_option maxRecDepth 20000 in
set_option maxHeartbeats 4000000 in
theorem c_X11_alike_1 {G : sw_G} (d : Nat) {h0 : sw_H} (hJ : cJ h0) (hc : h0 0 1 = 1 ∧ h0 0 2 = 13) (y1 y2 : Int)  : sw_E G NH SH (d + 19) mX11_alike 0 [some (sw_r 0), some (sw_i y1), some (sw_i y2)] [] h0 (sw_Qi (fun z h' => cK pr1 h0 h')) := by
  have hI : cK pr1 h0 h0 := cK.refl hJ
  have rw : (0 : Int) ≤ h0 1 0 ∧ h0 1 0 ≤ 6 := hI.1.1 1 0
  refine sx_aload_n dX11_alike_0 rfl ?_
  refine sx_getR (k := 1) (t := 1) cl_11 fl_X11_10 dX11_alike_1 s_0 (by decide) rfl (by decide) (by omega) ?_
  refine sx_iload_n dX11_alike_4 rfl ?_
  refine sx_callVz lk_X11_124 cl_0 s_1 (by decide) dX11_alike_5 (vs := [_]) rfl rfl (Nat.le_of_ble_eq_true rfl) (Nat.le_of_ble_eq_true rfl) rfl (c_X0_hasWord_1 _ hI.1 _) (fun x2 h1 zx2 ph1 => ?_)
  obtain ⟨rfl, w_x2⟩ := ph1
  refine sx_if_eq (tgt := 22) dX11_alike_8 (by decide) (fun c3 => ?_) (fun c3 => ?_)
  ·
    refine sx_iconst dX11_alike_22 ⟨by decide, by decide⟩ ?_
    refine sx_ireturn dX11_alike_23 ?_
    exact ⟨_, rfl, hI⟩
  ·
    refine sx_aload_n dX11_alike_11 rfl ?_
    refine sx_getR (k := 1) (t := 1) cl_11 fl_X11_10 dX11_alike_12 s_0 (by decide) rfl (by decide) (by omega) ?_
    refine sx_iload_n dX11_alike_15 rfl ?_
    refine sx_callVz lk_X11_124 cl_0 s_1 (by decide) dX11_alike_16 (vs := [_]) rfl rfl (Nat.le_of_ble_eq_true rfl) (Nat.le_of_ble_eq_true rfl) rfl (c_X0_hasWord_1 _ hI.1 _) (fun x5 h4 zx5 ph4 => ?_)
    obtain ⟨rfl, w_x5⟩ := ph4
    refine sx_if_ne (tgt := 24) dX11_alike_19 (by decide) (fun c6 => ?_) (fun c6 => ?_)
    ·
      refine sx_aload_n dX11_alike_24 rfl ?_
      refine sx_getS (k := 3) (t := 25) cl_11 fl_X11_22 dX11_alike_25 s_0 (by decide) rfl (by decide) ?_
      refine sx_aload_n dX11_alike_28 rfl ?_
      refine sx_getR (k := 1) (t := 1) cl_11 fl_X11_10 dX11_alike_29 s_0 (by decide) rfl (by decide) (by omega) ?_
      refine sx_iload_n dX11_alike_32 rfl ?_
      refine sx_iload_n dX11_alike_33 rfl ?_
      refine sx_callVi lk_X11_211 cl_4 s_25 (by decide) dX11_alike_34 (vs := [_, _, _]) rfl rfl (Nat.le_of_ble_eq_true rfl) (Nat.le_of_ble_eq_true rfl) rfl (c_X4_firstDifference_25_1 _ hI.1 _ _ (by omega) (by omega)) (fun x8 h7 ph7 => ?_)
      have Kh7 := ph7
      have Ih7 := hI.tr Kh7 sb_pr1_prD
      have th7_0_1 := Kh7.2 (0) 1 rfl
      have th7_0_2 := Kh7.2 (0) 2 rfl
      have th7_1_0 := Kh7.2 (1) 0 rfl
      refine sx_iconst dX11_alike_37 ⟨by decide, by decide⟩ ?_
      refine sx_icmp_ne (tgt := 45) dX11_alike_38 (by decide) (fun c9 => ?_) (fun c9 => ?_)
      ·
        refine sx_iconst dX11_alike_45 ⟨by decide, by decide⟩ ?_
        refine sx_ireturn dX11_alike_46 ?_
        exact ⟨_, rfl, Ih7⟩
      ·
        refine sx_iconst dX11_alike_41 ⟨by decide, by decide⟩ ?_
        refine sx_goto (tgt := 46) dX11_alike_42 (by decide) ?_
        refine sx_ireturn dX11_alike_46 ?_
        exact ⟨_, rfl, Ih7⟩
    ·
      refine sx_iconst dX11_alike_22 ⟨by decide, by decide⟩ ?_
      refine sx_ireturn dX11_alike_23 ?_
      exact ⟨_, rfl, hI⟩
set_option maxRecDepth 20000 in
set_option maxHeartbeats 4000000 in
theorem c_X11_alike_13 {G : sw_G} (d : Nat) {h0 : sw_H} (hJ : cJ h0) (hc : h0 0 1 = 13 ∧ h0 0 2 = 1) (y1 y2 : Int)  : sw_E G NH SH (d + 19) mX11_alike 0 [some (sw_r 0), some (sw_i y1), some (sw_i y2)] [] h0 (sw_Qi (fun z h' => cK pr1 h0 h')) := by
  have hI : cK pr1 h0 h0 := cK.refl hJ
  have rw : (0 : Int) ≤ h0 13 0 ∧ h0 13 0 ≤ 6 := hI.1.1 13 0
  refine sx_aload_n dX11_alike_0 rfl ?_
  refine sx_getR (k := 1) (t := 13) cl_11 fl_X11_10 dX11_alike_1 s_0 (by decide) rfl (by decide) (by omega) ?_
  refine sx_iload_n dX11_alike_4 rfl ?_
  refine sx_callVz lk_X11_124 cl_0 s_13 (by decide) dX11_alike_5 (vs := [_]) rfl rfl (Nat.le_of_ble_eq_true rfl) (Nat.le_of_ble_eq_true rfl) rfl (c_X0_hasWord_13 _ hI.1 _) (fun x2 h1 zx2 ph1 => ?_)
  obtain ⟨rfl, w_x2⟩ := ph1
  refine sx_if_eq (tgt := 22) dX11_alike_8 (by decide) (fun c3 => ?_) (fun c3 => ?_)
  ·
    refine sx_iconst dX11_alike_22 ⟨by decide, by decide⟩ ?_
    refine sx_ireturn dX11_alike_23 ?_
    exact ⟨_, rfl, hI⟩
  ·
    refine sx_aload_n dX11_alike_11 rfl ?_
    refine sx_getR (k := 1) (t := 13) cl_11 fl_X11_10 dX11_alike_12 s_0 (by decide) rfl (by decide) (by omega) ?_
    refine sx_iload_n dX11_alike_15 rfl ?_
    refine sx_callVz lk_X11_124 cl_0 s_13 (by decide) dX11_alike_16 (vs := [_]) rfl rfl (Nat.le_of_ble_eq_true rfl) (Nat.le_of_ble_eq_true rfl) rfl (c_X0_hasWord_13 _ hI.1 _) (fun x5 h4 zx5 ph4 => ?_)
    obtain ⟨rfl, w_x5⟩ := ph4
    refine sx_if_ne (tgt := 24) dX11_alike_19 (by decide) (fun c6 => ?_) (fun c6 => ?_)
    ·
      refine sx_aload_n dX11_alike_24 rfl ?_
      refine sx_getS (k := 3) (t := 25) cl_11 fl_X11_22 dX11_alike_25 s_0 (by decide) rfl (by decide) ?_
      refine sx_aload_n dX11_alike_28 rfl ?_
      refine sx_getR (k := 1) (t := 13) cl_11 fl_X11_10 dX11_alike_29 s_0 (by decide) rfl (by decide) (by omega) ?_
      refine sx_iload_n dX11_alike_32 rfl ?_
      refine sx_iload_n dX11_alike_33 rfl ?_
      refine sx_callVi lk_X11_211 cl_4 s_25 (by decide) dX11_alike_34 (vs := [_, _, _]) rfl rfl (Nat.le_of_ble_eq_true rfl) (Nat.le_of_ble_eq_true rfl) rfl (c_X4_firstDifference_25_13 _ hI.1 _ _ (by omega) (by omega)) (fun x8 h7 ph7 => ?_)
      have Kh7 := ph7
      have Ih7 := hI.tr Kh7 sb_pr1_prD
      have th7_0_1 := Kh7.2 (0) 1 rfl
      have th7_0_2 := Kh7.2 (0) 2 rfl
      have th7_13_0 := Kh7.2 (13) 0 rfl
      refine sx_iconst dX11_alike_37 ⟨by decide, by decide⟩ ?_
      refine sx_icmp_ne (tgt := 45) dX11_alike_38 (by decide) (fun c9 => ?_) (fun c9 => ?_)
      ·
        refine sx_iconst dX11_alike_45 ⟨by decide, by decide⟩ ?_
        refine sx_ireturn dX11_alike_46 ?_
        exact ⟨_, rfl, Ih7⟩
      ·
        refine sx_iconst dX11_alike_41 ⟨by decide, by decide⟩ ?_
        refine sx_goto (tgt := 46) dX11_alike_42 (by decide) ?_
        refine sx_ireturn dX11_alike_46 ?_
        exact ⟨_, rfl, Ih7⟩
    ·
      refine sx_iconst dX11_alike_22 ⟨by decide, by decide⟩ ?_
      refine sx_ireturn dX11_alike_23 ?_
      exact ⟨_, rfl, hI⟩
theorem c_X11_alike {G : sw_G} (d : Nat) {h0 : sw_H} (hJ : cJ h0) (y1 y2 : Int)  : sw_E G NH SH (d + 19) mX11_alike 0 [some (sw_r 0), some (sw_i y1), some (sw_i y2)] [] h0 (sw_Qi (fun z h' => cK pr1 h0 h')) := by
  rcases (show (h0 0 1 = 1 ∧ h0 0 2 = 13) ∨ (h0 0 1 = 13 ∧ h0 0 2 = 1) from hJ.2 4 (by decide)) with q | q
  · exact c_X11_alike_1 d hJ q y1 y2 
  · exact c_X11_alike_13 d hJ q y1 y2 
set_option maxRecDepth 20000 in
set_option maxHeartbeats 4000000 in
theorem c_X11_differs_1 {G : sw_G} (d : Nat) {h0 : sw_H} (hJ : cJ h0) (hc : h0 0 1 = 1 ∧ h0 0 2 = 13) (y1 y2 : Int)  : sw_E G NH SH (d + 19) mX11_differs 0 [some (sw_r 0), some (sw_i y1), some (sw_i y2)] [] h0 (sw_Qi (fun z h' => cK pr1 h0 h')) := by
  have hI : cK pr1 h0 h0 := cK.refl hJ
  have rw : (0 : Int) ≤ h0 1 0 ∧ h0 1 0 ≤ 6 := hI.1.1 1 0
  refine sx_aload_n dX11_differs_0 rfl ?_
  refine sx_getR (k := 1) (t := 1) cl_11 fl_X11_10 dX11_differs_1 s_0 (by decide) rfl (by decide) (by omega) ?_
  refine sx_iload_n dX11_differs_4 rfl ?_
  refine sx_callVz lk_X11_124 cl_0 s_1 (by decide) dX11_differs_5 (vs := [_]) rfl rfl (Nat.le_of_ble_eq_true rfl) (Nat.le_of_ble_eq_true rfl) rfl (c_X0_hasWord_1 _ hI.1 _) (fun x2 h1 zx2 ph1 => ?_)
  obtain ⟨rfl, w_x2⟩ := ph1
  refine sx_if_eq (tgt := 22) dX11_differs_8 (by decide) (fun c3 => ?_) (fun c3 => ?_)
  ·
    refine sx_iconst dX11_differs_22 ⟨by decide, by decide⟩ ?_
    refine sx_ireturn dX11_differs_23 ?_
    exact ⟨_, rfl, hI⟩
  ·
    refine sx_aload_n dX11_differs_11 rfl ?_
    refine sx_getR (k := 1) (t := 1) cl_11 fl_X11_10 dX11_differs_12 s_0 (by decide) rfl (by decide) (by omega) ?_
    refine sx_iload_n dX11_differs_15 rfl ?_
    refine sx_callVz lk_X11_124 cl_0 s_1 (by decide) dX11_differs_16 (vs := [_]) rfl rfl (Nat.le_of_ble_eq_true rfl) (Nat.le_of_ble_eq_true rfl) rfl (c_X0_hasWord_1 _ hI.1 _) (fun x5 h4 zx5 ph4 => ?_)
    obtain ⟨rfl, w_x5⟩ := ph4
    refine sx_if_ne (tgt := 24) dX11_differs_19 (by decide) (fun c6 => ?_) (fun c6 => ?_)
    ·
      refine sx_iconst dX11_differs_24 ⟨by decide, by decide⟩ ?_
      refine sx_aload_n dX11_differs_25 rfl ?_
      refine sx_getS (k := 3) (t := 25) cl_11 fl_X11_22 dX11_differs_26 s_0 (by decide) rfl (by decide) ?_
      refine sx_aload_n dX11_differs_29 rfl ?_
      refine sx_getR (k := 1) (t := 1) cl_11 fl_X11_10 dX11_differs_30 s_0 (by decide) rfl (by decide) (by omega) ?_
      refine sx_iload_n dX11_differs_33 rfl ?_
      refine sx_iload_n dX11_differs_34 rfl ?_
      refine sx_callVi lk_X11_211 cl_4 s_25 (by decide) dX11_differs_35 (vs := [_, _, _]) rfl rfl (Nat.le_of_ble_eq_true rfl) (Nat.le_of_ble_eq_true rfl) rfl (c_X4_firstDifference_25_1 _ hI.1 _ _ (by omega) (by omega)) (fun x8 h7 ph7 => ?_)
      have Kh7 := ph7
      have Ih7 := hI.tr Kh7 sb_pr1_prD
      have th7_0_1 := Kh7.2 (0) 1 rfl
      have th7_0_2 := Kh7.2 (0) 2 rfl
      have th7_1_0 := Kh7.2 (1) 0 rfl
      refine sx_max lm_X11_215 lw_max dX11_differs_38 (Nat.le_of_ble_eq_true rfl) ?_
      refine sy_max (fun m9 em9 fm9 gm9 => ?_)
      refine sx_ireturn dX11_differs_41 ?_
      exact ⟨_, rfl, Ih7⟩
    ·
      refine sx_iconst dX11_differs_22 ⟨by decide, by decide⟩ ?_
      refine sx_ireturn dX11_differs_23 ?_
      exact ⟨_, rfl, hI⟩
set_option maxRecDepth 20000 in
set_option maxHeartbeats 4000000 in
theorem c_X11_differs_13 {G : sw_G} (d : Nat) {h0 : sw_H} (hJ : cJ h0) (hc : h0 0 1 = 13 ∧ h0 0 2 = 1) (y1 y2 : Int)  : sw_E G NH SH (d + 19) mX11_differs 0 [some (sw_r 0), some (sw_i y1), some (sw_i y2)] [] h0 (sw_Qi (fun z h' => cK pr1 h0 h')) := by
  have hI : cK pr1 h0 h0 := cK.refl hJ
  have rw : (0 : Int) ≤ h0 13 0 ∧ h0 13 0 ≤ 6 := hI.1.1 13 0
  refine sx_aload_n dX11_differs_0 rfl ?_
  refine sx_getR (k := 1) (t := 13) cl_11 fl_X11_10 dX11_differs_1 s_0 (by decide) rfl (by decide) (by omega) ?_
  refine sx_iload_n dX11_differs_4 rfl ?_
  refine sx_callVz lk_X11_124 cl_0 s_13 (by decide) dX11_differs_5 (vs := [_]) rfl rfl (Nat.le_of_ble_eq_true rfl) (Nat.le_of_ble_eq_true rfl) rfl (c_X0_hasWord_13 _ hI.1 _) (fun x2 h1 zx2 ph1 => ?_)
  obtain ⟨rfl, w_x2⟩ := ph1
  refine sx_if_eq (tgt := 22) dX11_differs_8 (by decide) (fun c3 => ?_) (fun c3 => ?_)
  ·
    refine sx_iconst dX11_differs_22 ⟨by decide, by decide⟩ ?_
    refine sx_ireturn dX11_differs_23 ?_
    exact ⟨_, rfl, hI⟩
  ·
    refine sx_aload_n dX11_differs_11 rfl ?_
    refine sx_getR (k := 1) (t := 13) cl_11 fl_X11_10 dX11_differs_12 s_0 (by decide) rfl (by decide) (by omega) ?_
    refine sx_iload_n dX11_differs_15 rfl ?_
    refine sx_callVz lk_X11_124 cl_0 s_13 (by decide) dX11_differs_16 (vs := [_]) rfl rfl (Nat.le_of_ble_eq_true rfl) (Nat.le_of_ble_eq_true rfl) rfl (c_X0_hasWord_13 _ hI.1 _) (fun x5 h4 zx5 ph4 => ?_)
    obtain ⟨rfl, w_x5⟩ := ph4
    refine sx_if_ne (tgt := 24) dX11_differs_19 (by decide) (fun c6 => ?_) (fun c6 => ?_)
    ·
      refine sx_iconst dX11_differs_24 ⟨by decide, by decide⟩ ?_
      refine sx_aload_n dX11_differs_25 rfl ?_
      refine sx_getS (k := 3) (t := 25) cl_11 fl_X11_22 dX11_differs_26 s_0 (by decide) rfl (by decide) ?_
      refine sx_aload_n dX11_differs_29 rfl ?_
      refine sx_getR (k := 1) (t := 13) cl_11 fl_X11_10 dX11_differs_30 s_0 (by decide) rfl (by decide) (by omega) ?_
      refine sx_iload_n dX11_differs_33 rfl ?_
      refine sx_iload_n dX11_differs_34 rfl ?_
      refine sx_callVi lk_X11_211 cl_4 s_25 (by decide) dX11_differs_35 (vs := [_, _, _]) rfl rfl (Nat.le_of_ble_eq_true rfl) (Nat.le_of_ble_eq_true rfl) rfl (c_X4_firstDifference_25_13 _ hI.1 _ _ (by omega) (by omega)) (fun x8 h7 ph7 => ?_)
      have Kh7 := ph7
      have Ih7 := hI.tr Kh7 sb_pr1_prD
      have th7_0_1 := Kh7.2 (0) 1 rfl
      have th7_0_2 := Kh7.2 (0) 2 rfl
      have th7_13_0 := Kh7.2 (13) 0 rfl
      refine sx_max lm_X11_215 lw_max dX11_differs_38 (Nat.le_of_ble_eq_true rfl) ?_
      refine sy_max (fun m9 em9 fm9 gm9 => ?_)
      refine sx_ireturn dX11_differs_41 ?_
      exact ⟨_, rfl, Ih7⟩
    ·
      refine sx_iconst dX11_differs_22 ⟨by decide, by decide⟩ ?_
      refine sx_ireturn dX11_differs_23 ?_
      exact ⟨_, rfl, hI⟩
theorem c_X11_differs {G : sw_G} (d : Nat) {h0 : sw_H} (hJ : cJ h0) (y1 y2 : Int)  : sw_E G NH SH (d + 19) mX11_differs 0 [some (sw_r 0), some (sw_i y1), some (sw_i y2)] [] h0 (sw_Qi (fun z h' => cK pr1 h0 h')) := by
  rcases (show (h0 0 1 = 1 ∧ h0 0 2 = 13) ∨ (h0 0 1 = 13 ∧ h0 0 2 = 1) from hJ.2 4 (by decide)) with q | q
  · exact c_X11_differs_1 d hJ q y1 y2 
  · exact c_X11_differs_13 d hJ q y1 y2 
set_option maxRecDepth 20000 in
set_option maxHeartbeats 4000000 in
theorem c_X11_shortest {G : sw_G} (d : Nat) {h0 : sw_H} (hJ : cJ h0) (y1 y2 : Int)  : sw_E G NH SH (d + 5) mX11_shortest 0 [some (sw_r 0), some (sw_i y1), some (sw_i y2)] [] h0 (sw_Qi (fun z h' => cK pr1 h0 h')) := by
  have hI : cK pr1 h0 h0 := cK.refl hJ
  refine sx_aload_n dX11_shortest_0 rfl ?_
  refine sx_getS (k := 10) (t := 182) cl_11 fl_X11_61 dX11_shortest_1 s_0 (by decide) rfl (by decide) ?_
  refine sx_iload_n dX11_shortest_4 rfl ?_
  refine sx_aload_n dX11_shortest_5 rfl ?_
  refine sx_getS (k := 10) (t := 182) cl_11 fl_X11_61 dX11_shortest_6 s_0 (by decide) rfl (by decide) ?_
  refine sx_iload_n dX11_shortest_9 rfl ?_
  refine sx_iload_n dX11_shortest_10 rfl ?_
  refine sx_callVi lk_X11_221 cl_6 s_182 (by decide) dX11_shortest_11 (vs := [_, _]) rfl rfl (Nat.le_of_ble_eq_true rfl) (Nat.le_of_ble_eq_true rfl) rfl (c_X6_rowOf _ hI.1 _ _) (fun x2 h1 ph1 => ?_)
  obtain ⟨rfl, s_x2⟩ := ph1
  refine sx_callVi lk_X11_224 cl_6 s_182 (by decide) dX11_shortest_14 (vs := [_, _]) rfl rfl (Nat.le_of_ble_eq_true rfl) (Nat.le_of_ble_eq_true rfl) rfl (c_X6_findShortest _ hI.1 _ _ (by omega)) (fun x4 h3 ph3 => ?_)
  have Kh3 := ph3
  have Ih3 := hI.tr Kh3 sb_pr1_prH
  refine sx_ireturn dX11_shortest_17 ?_
  exact ⟨_, rfl, Ih3⟩
set_option maxRecDepth 20000 in
set_option maxHeartbeats 4000000 in
theorem c_X11_cheapest_1 {G : sw_G} (d : Nat) {h0 : sw_H} (hJ : cJ h0) (hc : h0 0 1 = 1 ∧ h0 0 2 = 13) (y1 y2 : Int)  : sw_E G NH SH (d + 5) mX11_cheapest 0 [some (sw_r 0), some (sw_i y1), some (sw_i y2)] [] h0 (sw_Qi (fun z h' => cK pr1 h0 h')) := by
  have hI : cK pr1 h0 h0 := cK.refl hJ
  have rw : (0 : Int) ≤ h0 1 0 ∧ h0 1 0 ≤ 6 := hI.1.1 1 0
  refine sx_aload_n dX11_cheapest_0 rfl ?_
  refine sx_getS (k := 10) (t := 182) cl_11 fl_X11_61 dX11_cheapest_1 s_0 (by decide) rfl (by decide) ?_
  refine sx_iload_n dX11_cheapest_4 rfl ?_
  refine sx_aload_n dX11_cheapest_5 rfl ?_
  refine sx_getS (k := 10) (t := 182) cl_11 fl_X11_61 dX11_cheapest_6 s_0 (by decide) rfl (by decide) ?_
  refine sx_iload_n dX11_cheapest_9 rfl ?_
  refine sx_iload_n dX11_cheapest_10 rfl ?_
  refine sx_callVi lk_X11_221 cl_6 s_182 (by decide) dX11_cheapest_11 (vs := [_, _]) rfl rfl (Nat.le_of_ble_eq_true rfl) (Nat.le_of_ble_eq_true rfl) rfl (c_X6_rowOf _ hI.1 _ _) (fun x2 h1 ph1 => ?_)
  obtain ⟨rfl, s_x2⟩ := ph1
  refine sx_aload_n dX11_cheapest_14 rfl ?_
  refine sx_getR (k := 1) (t := 1) cl_11 fl_X11_10 dX11_cheapest_15 s_0 (by decide) rfl (by decide) (by omega) ?_
  refine sx_getS (k := 15) (t := 12) cl_0 fl_X11_227 dX11_cheapest_18 s_1 (by decide) rfl (by decide) ?_
  refine sx_callVi lk_X11_230 cl_6 s_182 (by decide) dX11_cheapest_21 (vs := [_, _, _]) rfl rfl (Nat.le_of_ble_eq_true rfl) (Nat.le_of_ble_eq_true rfl) rfl (c_X6_findCheapest_1 _ hI.1 _ _ (by omega)) (fun x4 h3 ph3 => ?_)
  have Kh3 := ph3
  have Ih3 := hI.tr Kh3 sb_pr1_prH
  have th3_0_1 := Kh3.2 (0) 1 rfl
  have th3_0_2 := Kh3.2 (0) 2 rfl
  have th3_1_0 := Kh3.2 (1) 0 rfl
  refine sx_ireturn dX11_cheapest_24 ?_
  exact ⟨_, rfl, Ih3⟩
set_option maxRecDepth 20000 in
set_option maxHeartbeats 4000000 in
theorem c_X11_cheapest_13 {G : sw_G} (d : Nat) {h0 : sw_H} (hJ : cJ h0) (hc : h0 0 1 = 13 ∧ h0 0 2 = 1) (y1 y2 : Int)  : sw_E G NH SH (d + 5) mX11_cheapest 0 [some (sw_r 0), some (sw_i y1), some (sw_i y2)] [] h0 (sw_Qi (fun z h' => cK pr1 h0 h')) := by
  have hI : cK pr1 h0 h0 := cK.refl hJ
  have rw : (0 : Int) ≤ h0 13 0 ∧ h0 13 0 ≤ 6 := hI.1.1 13 0
  refine sx_aload_n dX11_cheapest_0 rfl ?_
  refine sx_getS (k := 10) (t := 182) cl_11 fl_X11_61 dX11_cheapest_1 s_0 (by decide) rfl (by decide) ?_
  refine sx_iload_n dX11_cheapest_4 rfl ?_
  refine sx_aload_n dX11_cheapest_5 rfl ?_
  refine sx_getS (k := 10) (t := 182) cl_11 fl_X11_61 dX11_cheapest_6 s_0 (by decide) rfl (by decide) ?_
  refine sx_iload_n dX11_cheapest_9 rfl ?_
  refine sx_iload_n dX11_cheapest_10 rfl ?_
  refine sx_callVi lk_X11_221 cl_6 s_182 (by decide) dX11_cheapest_11 (vs := [_, _]) rfl rfl (Nat.le_of_ble_eq_true rfl) (Nat.le_of_ble_eq_true rfl) rfl (c_X6_rowOf _ hI.1 _ _) (fun x2 h1 ph1 => ?_)
  obtain ⟨rfl, s_x2⟩ := ph1
  refine sx_aload_n dX11_cheapest_14 rfl ?_
  refine sx_getR (k := 1) (t := 13) cl_11 fl_X11_10 dX11_cheapest_15 s_0 (by decide) rfl (by decide) (by omega) ?_
  refine sx_getS (k := 15) (t := 24) cl_0 fl_X11_227 dX11_cheapest_18 s_13 (by decide) rfl (by decide) ?_
  refine sx_callVi lk_X11_230 cl_6 s_182 (by decide) dX11_cheapest_21 (vs := [_, _, _]) rfl rfl (Nat.le_of_ble_eq_true rfl) (Nat.le_of_ble_eq_true rfl) rfl (c_X6_findCheapest_13 _ hI.1 _ _ (by omega)) (fun x4 h3 ph3 => ?_)
  have Kh3 := ph3
  have Ih3 := hI.tr Kh3 sb_pr1_prH
  have th3_0_1 := Kh3.2 (0) 1 rfl
  have th3_0_2 := Kh3.2 (0) 2 rfl
  have th3_13_0 := Kh3.2 (13) 0 rfl
  refine sx_ireturn dX11_cheapest_24 ?_
  exact ⟨_, rfl, Ih3⟩
theorem c_X11_cheapest {G : sw_G} (d : Nat) {h0 : sw_H} (hJ : cJ h0) (y1 y2 : Int)  : sw_E G NH SH (d + 5) mX11_cheapest 0 [some (sw_r 0), some (sw_i y1), some (sw_i y2)] [] h0 (sw_Qi (fun z h' => cK pr1 h0 h')) := by
  rcases (show (h0 0 1 = 1 ∧ h0 0 2 = 13) ∨ (h0 0 1 = 13 ∧ h0 0 2 = 1) from hJ.2 4 (by decide)) with q | q
  · exact c_X11_cheapest_1 d hJ q y1 y2 
  · exact c_X11_cheapest_13 d hJ q y1 y2 
set_option maxRecDepth 20000 in
set_option maxHeartbeats 4000000 in
theorem c_X11_shuffled {G : sw_G} (d : Nat) {h0 : sw_H} (hJ : cJ h0) (y1 y2 : Int)  : sw_E G NH SH (d + 3) mX11_shuffled 0 [some (sw_r 0), some (sw_i y1), some (sw_i y2)] [] h0 (sw_Qi (fun z h' => cK pr1 h0 h')) := by
  have hI : cK pr1 h0 h0 := cK.refl hJ
  refine sx_aload_n dX11_shuffled_0 rfl ?_
  refine sx_getS (k := 10) (t := 182) cl_11 fl_X11_61 dX11_shuffled_1 s_0 (by decide) rfl (by decide) ?_
  refine sx_iload_n dX11_shuffled_4 rfl ?_
  refine sx_iload_n dX11_shuffled_5 rfl ?_
  refine sx_callVi lk_X11_234 cl_6 s_182 (by decide) dX11_shuffled_6 (vs := [_, _]) rfl rfl (Nat.le_of_ble_eq_true rfl) (Nat.le_of_ble_eq_true rfl) rfl (c_X6_follow _ hI.1 _ _) (fun x2 h1 ph1 => ?_)
  subst ph1
  refine sx_ireturn dX11_shuffled_9 ?_
  exact ⟨_, rfl, hI⟩
set_option maxRecDepth 20000 in
set_option maxHeartbeats 4000000 in
theorem c_X11_tidy_1 {G : sw_G} (d : Nat) {h0 : sw_H} (hJ : cJ h0) (hc : h0 0 1 = 1 ∧ h0 0 2 = 13) (y1 : Int)  : sw_E G NH SH (d + 5) mX11_tidy 0 [some (sw_r 0), some (sw_i y1)] [] h0 (sw_Qi (fun z h' => cK pr1 h0 h')) := by
  have hI : cK pr1 h0 h0 := cK.refl hJ
  have rw : (0 : Int) ≤ h0 1 0 ∧ h0 1 0 ≤ 6 := hI.1.1 1 0
  refine sx_aload_n dX11_tidy_0 rfl ?_
  refine sx_getR (k := 1) (t := 1) cl_11 fl_X11_10 dX11_tidy_1 s_0 (by decide) rfl (by decide) (by omega) ?_
  refine sx_iload_n dX11_tidy_4 rfl ?_
  refine sx_callVz lk_X11_124 cl_0 s_1 (by decide) dX11_tidy_5 (vs := [_]) rfl rfl (Nat.le_of_ble_eq_true rfl) (Nat.le_of_ble_eq_true rfl) rfl (c_X0_hasWord_1 _ hI.1 _) (fun x2 h1 zx2 ph1 => ?_)
  obtain ⟨rfl, w_x2⟩ := ph1
  refine sx_if_eq (tgt := 26) dX11_tidy_8 (by decide) (fun c3 => ?_) (fun c3 => ?_)
  ·
    refine sx_iconst dX11_tidy_26 ⟨by decide, by decide⟩ ?_
    refine sx_ireturn dX11_tidy_27 ?_
    exact ⟨_, rfl, hI⟩
  ·
    refine sx_aload_n dX11_tidy_11 rfl ?_
    refine sx_getS (k := 10) (t := 182) cl_11 fl_X11_61 dX11_tidy_12 s_0 (by decide) rfl (by decide) ?_
    refine sx_aload_n dX11_tidy_15 rfl ?_
    refine sx_getR (k := 1) (t := 1) cl_11 fl_X11_10 dX11_tidy_16 s_0 (by decide) rfl (by decide) (by omega) ?_
    refine sx_iload_n dX11_tidy_19 rfl ?_
    refine sx_callVi lk_X11_237 cl_6 s_182 (by decide) dX11_tidy_20 (vs := [_, _]) rfl rfl (Nat.le_of_ble_eq_true rfl) (Nat.le_of_ble_eq_true rfl) rfl (c_X6_saved_1 _ hI.1 _ (by omega)) (fun x5 h4 ph4 => ?_)
    have Kh4 := ph4
    have Ih4 := hI.tr Kh4 sb_pr1_prH
    have th4_0_1 := Kh4.2 (0) 1 rfl
    have th4_0_2 := Kh4.2 (0) 2 rfl
    have th4_1_0 := Kh4.2 (1) 0 rfl
    refine sx_goto (tgt := 27) dX11_tidy_23 (by decide) ?_
    refine sx_ireturn dX11_tidy_27 ?_
    exact ⟨_, rfl, Ih4⟩
set_option maxRecDepth 20000 in
set_option maxHeartbeats 4000000 in
theorem c_X11_tidy_13 {G : sw_G} (d : Nat) {h0 : sw_H} (hJ : cJ h0) (hc : h0 0 1 = 13 ∧ h0 0 2 = 1) (y1 : Int)  : sw_E G NH SH (d + 5) mX11_tidy 0 [some (sw_r 0), some (sw_i y1)] [] h0 (sw_Qi (fun z h' => cK pr1 h0 h')) := by
  have hI : cK pr1 h0 h0 := cK.refl hJ
  have rw : (0 : Int) ≤ h0 13 0 ∧ h0 13 0 ≤ 6 := hI.1.1 13 0
  refine sx_aload_n dX11_tidy_0 rfl ?_
  refine sx_getR (k := 1) (t := 13) cl_11 fl_X11_10 dX11_tidy_1 s_0 (by decide) rfl (by decide) (by omega) ?_
  refine sx_iload_n dX11_tidy_4 rfl ?_
  refine sx_callVz lk_X11_124 cl_0 s_13 (by decide) dX11_tidy_5 (vs := [_]) rfl rfl (Nat.le_of_ble_eq_true rfl) (Nat.le_of_ble_eq_true rfl) rfl (c_X0_hasWord_13 _ hI.1 _) (fun x2 h1 zx2 ph1 => ?_)
  obtain ⟨rfl, w_x2⟩ := ph1
  refine sx_if_eq (tgt := 26) dX11_tidy_8 (by decide) (fun c3 => ?_) (fun c3 => ?_)
  ·
    refine sx_iconst dX11_tidy_26 ⟨by decide, by decide⟩ ?_
    refine sx_ireturn dX11_tidy_27 ?_
    exact ⟨_, rfl, hI⟩
  ·
    refine sx_aload_n dX11_tidy_11 rfl ?_
    refine sx_getS (k := 10) (t := 182) cl_11 fl_X11_61 dX11_tidy_12 s_0 (by decide) rfl (by decide) ?_
    refine sx_aload_n dX11_tidy_15 rfl ?_
    refine sx_getR (k := 1) (t := 13) cl_11 fl_X11_10 dX11_tidy_16 s_0 (by decide) rfl (by decide) (by omega) ?_
    refine sx_iload_n dX11_tidy_19 rfl ?_
    refine sx_callVi lk_X11_237 cl_6 s_182 (by decide) dX11_tidy_20 (vs := [_, _]) rfl rfl (Nat.le_of_ble_eq_true rfl) (Nat.le_of_ble_eq_true rfl) rfl (c_X6_saved_13 _ hI.1 _ (by omega)) (fun x5 h4 ph4 => ?_)
    have Kh4 := ph4
    have Ih4 := hI.tr Kh4 sb_pr1_prH
    have th4_0_1 := Kh4.2 (0) 1 rfl
    have th4_0_2 := Kh4.2 (0) 2 rfl
    have th4_13_0 := Kh4.2 (13) 0 rfl
    refine sx_goto (tgt := 27) dX11_tidy_23 (by decide) ?_
    refine sx_ireturn dX11_tidy_27 ?_
    exact ⟨_, rfl, Ih4⟩
theorem c_X11_tidy {G : sw_G} (d : Nat) {h0 : sw_H} (hJ : cJ h0) (y1 : Int)  : sw_E G NH SH (d + 5) mX11_tidy 0 [some (sw_r 0), some (sw_i y1)] [] h0 (sw_Qi (fun z h' => cK pr1 h0 h')) := by
  rcases (show (h0 0 1 = 1 ∧ h0 0 2 = 13) ∨ (h0 0 1 = 13 ∧ h0 0 2 = 1) from hJ.2 4 (by decide)) with q | q
  · exact c_X11_tidy_1 d hJ q y1 
  · exact c_X11_tidy_13 d hJ q y1 
set_option maxRecDepth 20000 in
set_option maxHeartbeats 4000000 in
theorem c_X11_takes_1 {G : sw_G} (d : Nat) {h0 : sw_H} (hJ : cJ h0) (hc : h0 0 1 = 1 ∧ h0 0 2 = 13) (y1 y2 : Int)  : sw_E G NH SH (d + 1) mX11_takes 0 [some (sw_r 0), some (sw_i y1), some (sw_i y2)] [] h0 (sw_Qi (fun z h' => cK pr1 h0 h')) := by
  have hI : cK pr1 h0 h0 := cK.refl hJ
  have rw : (0 : Int) ≤ h0 1 0 ∧ h0 1 0 ≤ 6 := hI.1.1 1 0
  refine sx_iload_n dX11_takes_0 rfl ?_
  refine sx_callSz lk_X11_241 dX11_takes_1 (vs := [_]) rfl rfl (Nat.le_of_ble_eq_true rfl) (Nat.le_of_ble_eq_true rfl) rfl (c_X11_isForm _ hI.1 _) (fun x2 h1 zx2 ph1 => ?_)
  obtain ⟨rfl, w_x2⟩ := ph1
  refine sx_if_eq (tgt := 17) dX11_takes_4 (by decide) (fun c3 => ?_) (fun c3 => ?_)
  ·
    refine sx_iconst dX11_takes_17 ⟨by decide, by decide⟩ ?_
    refine sx_ireturn dX11_takes_18 ?_
    exact ⟨_, rfl, hI⟩
  ·
    refine sx_iload_n dX11_takes_7 rfl ?_
    refine sx_if_lt (tgt := 17) dX11_takes_8 (by decide) (fun c4 => ?_) (fun c4 => ?_)
    ·
      refine sx_iconst dX11_takes_17 ⟨by decide, by decide⟩ ?_
      refine sx_ireturn dX11_takes_18 ?_
      exact ⟨_, rfl, hI⟩
    ·
      refine sx_iload_n dX11_takes_11 rfl ?_
      refine sx_bipush dX11_takes_12 ⟨by decide, by decide, by decide⟩ ?_
      refine sx_icmp_lt (tgt := 19) dX11_takes_14 (by decide) (fun c5 => ?_) (fun c5 => ?_)
      ·
        refine sx_aload_n dX11_takes_19 rfl ?_
        refine sx_getR (k := 1) (t := 1) cl_11 fl_X11_10 dX11_takes_20 s_0 (by decide) rfl (by decide) (by omega) ?_
        refine sx_getS (k := 15) (t := 12) cl_0 fl_X11_227 dX11_takes_23 s_1 (by decide) rfl (by decide) ?_
        refine sx_iload_n dX11_takes_26 rfl ?_
        refine sx_bipush dX11_takes_27 ⟨by decide, by decide, by decide⟩ ?_
        refine sx_imul dX11_takes_29 ?_
        refine sy_topw (by omega) ?_
        refine sx_iload_n dX11_takes_30 rfl ?_
        refine sx_iadd dX11_takes_31 ?_
        refine sy_topw (by omega) ?_
        refine sx_iaload dX11_takes_32 s_12 (by decide) (by decide) ⟨by omega, by omega⟩ ?_
        refine sx_ireturn dX11_takes_33 ?_
        exact ⟨_, rfl, hI⟩
      ·
        refine sx_iconst dX11_takes_17 ⟨by decide, by decide⟩ ?_
        refine sx_ireturn dX11_takes_18 ?_
        exact ⟨_, rfl, hI⟩
set_option maxRecDepth 20000 in
set_option maxHeartbeats 4000000 in
theorem c_X11_takes_13 {G : sw_G} (d : Nat) {h0 : sw_H} (hJ : cJ h0) (hc : h0 0 1 = 13 ∧ h0 0 2 = 1) (y1 y2 : Int)  : sw_E G NH SH (d + 1) mX11_takes 0 [some (sw_r 0), some (sw_i y1), some (sw_i y2)] [] h0 (sw_Qi (fun z h' => cK pr1 h0 h')) := by
  have hI : cK pr1 h0 h0 := cK.refl hJ
  have rw : (0 : Int) ≤ h0 13 0 ∧ h0 13 0 ≤ 6 := hI.1.1 13 0
  refine sx_iload_n dX11_takes_0 rfl ?_
  refine sx_callSz lk_X11_241 dX11_takes_1 (vs := [_]) rfl rfl (Nat.le_of_ble_eq_true rfl) (Nat.le_of_ble_eq_true rfl) rfl (c_X11_isForm _ hI.1 _) (fun x2 h1 zx2 ph1 => ?_)
  obtain ⟨rfl, w_x2⟩ := ph1
  refine sx_if_eq (tgt := 17) dX11_takes_4 (by decide) (fun c3 => ?_) (fun c3 => ?_)
  ·
    refine sx_iconst dX11_takes_17 ⟨by decide, by decide⟩ ?_
    refine sx_ireturn dX11_takes_18 ?_
    exact ⟨_, rfl, hI⟩
  ·
    refine sx_iload_n dX11_takes_7 rfl ?_
    refine sx_if_lt (tgt := 17) dX11_takes_8 (by decide) (fun c4 => ?_) (fun c4 => ?_)
    ·
      refine sx_iconst dX11_takes_17 ⟨by decide, by decide⟩ ?_
      refine sx_ireturn dX11_takes_18 ?_
      exact ⟨_, rfl, hI⟩
    ·
      refine sx_iload_n dX11_takes_11 rfl ?_
      refine sx_bipush dX11_takes_12 ⟨by decide, by decide, by decide⟩ ?_
      refine sx_icmp_lt (tgt := 19) dX11_takes_14 (by decide) (fun c5 => ?_) (fun c5 => ?_)
      ·
        refine sx_aload_n dX11_takes_19 rfl ?_
        refine sx_getR (k := 1) (t := 13) cl_11 fl_X11_10 dX11_takes_20 s_0 (by decide) rfl (by decide) (by omega) ?_
        refine sx_getS (k := 15) (t := 24) cl_0 fl_X11_227 dX11_takes_23 s_13 (by decide) rfl (by decide) ?_
        refine sx_iload_n dX11_takes_26 rfl ?_
        refine sx_bipush dX11_takes_27 ⟨by decide, by decide, by decide⟩ ?_
        refine sx_imul dX11_takes_29 ?_
        refine sy_topw (by omega) ?_
        refine sx_iload_n dX11_takes_30 rfl ?_
        refine sx_iadd dX11_takes_31 ?_
        refine sy_topw (by omega) ?_
        refine sx_iaload dX11_takes_32 s_24 (by decide) (by decide) ⟨by omega, by omega⟩ ?_
        refine sx_ireturn dX11_takes_33 ?_
        exact ⟨_, rfl, hI⟩
      ·
        refine sx_iconst dX11_takes_17 ⟨by decide, by decide⟩ ?_
        refine sx_ireturn dX11_takes_18 ?_
        exact ⟨_, rfl, hI⟩
theorem c_X11_takes {G : sw_G} (d : Nat) {h0 : sw_H} (hJ : cJ h0) (y1 y2 : Int)  : sw_E G NH SH (d + 1) mX11_takes 0 [some (sw_r 0), some (sw_i y1), some (sw_i y2)] [] h0 (sw_Qi (fun z h' => cK pr1 h0 h')) := by
  rcases (show (h0 0 1 = 1 ∧ h0 0 2 = 13) ∨ (h0 0 1 = 13 ∧ h0 0 2 = 1) from hJ.2 4 (by decide)) with q | q
  · exact c_X11_takes_1 d hJ q y1 y2 
  · exact c_X11_takes_13 d hJ q y1 y2 
set_option maxRecDepth 20000 in
set_option maxHeartbeats 4000000 in
theorem c_X11_time_1 {G : sw_G} (d : Nat) {h0 : sw_H} (hJ : cJ h0) (hc : h0 0 1 = 1 ∧ h0 0 2 = 13) (y1 y2 : Int)  : sw_E G NH SH (d + 3) mX11_time 0 [some (sw_r 0), some (sw_i y1), some (sw_i y2)] [] h0 (sw_Qi (fun z h' => cK pr1 h0 h')) := by
  have hI : cK pr1 h0 h0 := cK.refl hJ
  have rw : (0 : Int) ≤ h0 1 0 ∧ h0 1 0 ≤ 6 := hI.1.1 1 0
  refine sx_aload_n dX11_time_0 rfl ?_
  refine sx_getR (k := 1) (t := 1) cl_11 fl_X11_10 dX11_time_1 s_0 (by decide) rfl (by decide) (by omega) ?_
  refine sx_iload_n dX11_time_4 rfl ?_
  refine sx_callVz lk_X11_124 cl_0 s_1 (by decide) dX11_time_5 (vs := [_]) rfl rfl (Nat.le_of_ble_eq_true rfl) (Nat.le_of_ble_eq_true rfl) rfl (c_X0_hasWord_1 _ hI.1 _) (fun x2 h1 zx2 ph1 => ?_)
  obtain ⟨rfl, w_x2⟩ := ph1
  refine sx_if_eq (tgt := 18) dX11_time_8 (by decide) (fun c3 => ?_) (fun c3 => ?_)
  ·
    refine sx_iconst dX11_time_18 ⟨by decide, by decide⟩ ?_
    refine sx_ireturn dX11_time_19 ?_
    exact ⟨_, rfl, hI⟩
  ·
    refine sx_iload_n dX11_time_11 rfl ?_
    refine sx_callSz lk_X11_241 dX11_time_12 (vs := [_]) rfl rfl (Nat.le_of_ble_eq_true rfl) (Nat.le_of_ble_eq_true rfl) rfl (c_X11_isForm _ hI.1 _) (fun x5 h4 zx5 ph4 => ?_)
    obtain ⟨rfl, w_x5⟩ := ph4
    refine sx_if_ne (tgt := 20) dX11_time_15 (by decide) (fun c6 => ?_) (fun c6 => ?_)
    ·
      refine sx_aload_n dX11_time_20 rfl ?_
      refine sx_getS (k := 9) (t := 177) cl_11 fl_X11_54 dX11_time_21 s_0 (by decide) rfl (by decide) ?_
      refine sx_aload_n dX11_time_24 rfl ?_
      refine sx_getR (k := 1) (t := 1) cl_11 fl_X11_10 dX11_time_25 s_0 (by decide) rfl (by decide) (by omega) ?_
      refine sx_iload_n dX11_time_28 rfl ?_
      refine sx_callVv lk_X11_244 cl_1 s_177 (by decide) dX11_time_29 (vs := [_, _]) rfl rfl (Nat.le_of_ble_eq_true rfl) (Nat.le_of_ble_eq_true rfl) rfl (c_X1_priceByForm_1 _ hI.1 _ (by omega)) (fun h7 ph7 => ?_)
      have Kh7 := ph7
      have Ih7 := hI.tr Kh7 sb_pr1_prK
      have th7_0_1 := Kh7.2 (0) 1 rfl
      have th7_0_2 := Kh7.2 (0) 2 rfl
      have th7_1_0 := Kh7.2 (1) 0 rfl
      refine sx_aload_n dX11_time_32 rfl ?_
      refine sx_getS (k := 9) (t := 177) cl_11 fl_X11_54 dX11_time_33 s_0 (by decide) rfl (by decide) ?_
      refine sx_aload_n dX11_time_36 rfl ?_
      refine sx_getR (k := 1) (t := 1) cl_11 fl_X11_10 dX11_time_37 s_0 (by decide) rfl (by decide) (by omega) ?_
      refine sx_aload_n dX11_time_40 rfl ?_
      refine sx_getS (k := 5) (t := 48) cl_11 fl_X11_36 dX11_time_41 s_0 (by decide) rfl (by decide) ?_
      refine sx_callVr lk_X11_147 cl_9 s_48 (by decide) dX11_time_44 (vs := []) rfl rfl (Nat.le_of_ble_eq_true rfl) (Nat.le_of_ble_eq_true rfl) ⟨_, rfl⟩ (c_X9_state _ Ih7.1) (fun x10 h9 ph9 => ?_)
      obtain ⟨Kh9, m_h9⟩ := ph9
      have Ih9 := Ih7.tr Kh9 sb_pr1_prL
      have th9_0_1 := Kh9.2 (0) 1 rfl
      have th9_0_2 := Kh9.2 (0) 2 rfl
      have th9_1_0 := Kh9.2 (1) 0 rfl
      have hx10m := m_h9
      obtain ⟨Sx100, Sx101, Sx102, bx10⟩ := s_St x10 hx10m
      have Bx100 : x10 < NH := show x10 < 290 by omega
      have Bx101 : x10 + 1 < NH := show x10 + 1 < 290 by omega
      have Bx102 : x10 + 2 < NH := show x10 + 2 < 290 by omega
      refine sx_getI (k := 4) cl_8 fl_X11_150 dX11_time_47 Sx100 Bx100 rfl (by decide) ?_
      refine sx_iload_n dX11_time_50 rfl ?_
      refine sx_callVi lk_X11_248 cl_1 s_177 (by decide) dX11_time_51 (vs := [_, _, _]) rfl rfl (Nat.le_of_ble_eq_true rfl) (Nat.le_of_ble_eq_true rfl) rfl (c_X1_timeOf_1 _ Ih9.1 _ _ (by omega)) (fun x12 h11 ph11 => ?_)
      have Kh11 := ph11
      have Ih11 := Ih9.tr Kh11 sb_pr1_prK
      have th11_0_1 := Kh11.2 (0) 1 rfl
      have th11_0_2 := Kh11.2 (0) 2 rfl
      have th11_1_0 := Kh11.2 (1) 0 rfl
      refine sx_ireturn dX11_time_54 ?_
      exact ⟨_, rfl, Ih11⟩
    ·
      refine sx_iconst dX11_time_18 ⟨by decide, by decide⟩ ?_
      refine sx_ireturn dX11_time_19 ?_
      exact ⟨_, rfl, hI⟩
set_option maxRecDepth 20000 in
set_option maxHeartbeats 4000000 in
theorem c_X11_time_13 {G : sw_G} (d : Nat) {h0 : sw_H} (hJ : cJ h0) (hc : h0 0 1 = 13 ∧ h0 0 2 = 1) (y1 y2 : Int)  : sw_E G NH SH (d + 3) mX11_time 0 [some (sw_r 0), some (sw_i y1), some (sw_i y2)] [] h0 (sw_Qi (fun z h' => cK pr1 h0 h')) := by
  have hI : cK pr1 h0 h0 := cK.refl hJ
  have rw : (0 : Int) ≤ h0 13 0 ∧ h0 13 0 ≤ 6 := hI.1.1 13 0
  refine sx_aload_n dX11_time_0 rfl ?_
  refine sx_getR (k := 1) (t := 13) cl_11 fl_X11_10 dX11_time_1 s_0 (by decide) rfl (by decide) (by omega) ?_
  refine sx_iload_n dX11_time_4 rfl ?_
  refine sx_callVz lk_X11_124 cl_0 s_13 (by decide) dX11_time_5 (vs := [_]) rfl rfl (Nat.le_of_ble_eq_true rfl) (Nat.le_of_ble_eq_true rfl) rfl (c_X0_hasWord_13 _ hI.1 _) (fun x2 h1 zx2 ph1 => ?_)
  obtain ⟨rfl, w_x2⟩ := ph1
  refine sx_if_eq (tgt := 18) dX11_time_8 (by decide) (fun c3 => ?_) (fun c3 => ?_)
  ·
    refine sx_iconst dX11_time_18 ⟨by decide, by decide⟩ ?_
    refine sx_ireturn dX11_time_19 ?_
    exact ⟨_, rfl, hI⟩
  ·
    refine sx_iload_n dX11_time_11 rfl ?_
    refine sx_callSz lk_X11_241 dX11_time_12 (vs := [_]) rfl rfl (Nat.le_of_ble_eq_true rfl) (Nat.le_of_ble_eq_true rfl) rfl (c_X11_isForm _ hI.1 _) (fun x5 h4 zx5 ph4 => ?_)
    obtain ⟨rfl, w_x5⟩ := ph4
    refine sx_if_ne (tgt := 20) dX11_time_15 (by decide) (fun c6 => ?_) (fun c6 => ?_)
    ·
      refine sx_aload_n dX11_time_20 rfl ?_
      refine sx_getS (k := 9) (t := 177) cl_11 fl_X11_54 dX11_time_21 s_0 (by decide) rfl (by decide) ?_
      refine sx_aload_n dX11_time_24 rfl ?_
      refine sx_getR (k := 1) (t := 13) cl_11 fl_X11_10 dX11_time_25 s_0 (by decide) rfl (by decide) (by omega) ?_
      refine sx_iload_n dX11_time_28 rfl ?_
      refine sx_callVv lk_X11_244 cl_1 s_177 (by decide) dX11_time_29 (vs := [_, _]) rfl rfl (Nat.le_of_ble_eq_true rfl) (Nat.le_of_ble_eq_true rfl) rfl (c_X1_priceByForm_13 _ hI.1 _ (by omega)) (fun h7 ph7 => ?_)
      have Kh7 := ph7
      have Ih7 := hI.tr Kh7 sb_pr1_prK
      have th7_0_1 := Kh7.2 (0) 1 rfl
      have th7_0_2 := Kh7.2 (0) 2 rfl
      have th7_13_0 := Kh7.2 (13) 0 rfl
      refine sx_aload_n dX11_time_32 rfl ?_
      refine sx_getS (k := 9) (t := 177) cl_11 fl_X11_54 dX11_time_33 s_0 (by decide) rfl (by decide) ?_
      refine sx_aload_n dX11_time_36 rfl ?_
      refine sx_getR (k := 1) (t := 13) cl_11 fl_X11_10 dX11_time_37 s_0 (by decide) rfl (by decide) (by omega) ?_
      refine sx_aload_n dX11_time_40 rfl ?_
      refine sx_getS (k := 5) (t := 48) cl_11 fl_X11_36 dX11_time_41 s_0 (by decide) rfl (by decide) ?_
      refine sx_callVr lk_X11_147 cl_9 s_48 (by decide) dX11_time_44 (vs := []) rfl rfl (Nat.le_of_ble_eq_true rfl) (Nat.le_of_ble_eq_true rfl) ⟨_, rfl⟩ (c_X9_state _ Ih7.1) (fun x10 h9 ph9 => ?_)
      obtain ⟨Kh9, m_h9⟩ := ph9
      have Ih9 := Ih7.tr Kh9 sb_pr1_prL
      have th9_0_1 := Kh9.2 (0) 1 rfl
      have th9_0_2 := Kh9.2 (0) 2 rfl
      have th9_13_0 := Kh9.2 (13) 0 rfl
      have hx10m := m_h9
      obtain ⟨Sx100, Sx101, Sx102, bx10⟩ := s_St x10 hx10m
      have Bx100 : x10 < NH := show x10 < 290 by omega
      have Bx101 : x10 + 1 < NH := show x10 + 1 < 290 by omega
      have Bx102 : x10 + 2 < NH := show x10 + 2 < 290 by omega
      refine sx_getI (k := 4) cl_8 fl_X11_150 dX11_time_47 Sx100 Bx100 rfl (by decide) ?_
      refine sx_iload_n dX11_time_50 rfl ?_
      refine sx_callVi lk_X11_248 cl_1 s_177 (by decide) dX11_time_51 (vs := [_, _, _]) rfl rfl (Nat.le_of_ble_eq_true rfl) (Nat.le_of_ble_eq_true rfl) rfl (c_X1_timeOf_13 _ Ih9.1 _ _ (by omega)) (fun x12 h11 ph11 => ?_)
      have Kh11 := ph11
      have Ih11 := Ih9.tr Kh11 sb_pr1_prK
      have th11_0_1 := Kh11.2 (0) 1 rfl
      have th11_0_2 := Kh11.2 (0) 2 rfl
      have th11_13_0 := Kh11.2 (13) 0 rfl
      refine sx_ireturn dX11_time_54 ?_
      exact ⟨_, rfl, Ih11⟩
    ·
      refine sx_iconst dX11_time_18 ⟨by decide, by decide⟩ ?_
      refine sx_ireturn dX11_time_19 ?_
      exact ⟨_, rfl, hI⟩
theorem c_X11_time {G : sw_G} (d : Nat) {h0 : sw_H} (hJ : cJ h0) (y1 y2 : Int)  : sw_E G NH SH (d + 3) mX11_time 0 [some (sw_r 0), some (sw_i y1), some (sw_i y2)] [] h0 (sw_Qi (fun z h' => cK pr1 h0 h')) := by
  rcases (show (h0 0 1 = 1 ∧ h0 0 2 = 13) ∨ (h0 0 1 = 13 ∧ h0 0 2 = 1) from hJ.2 4 (by decide)) with q | q
  · exact c_X11_time_1 d hJ q y1 y2 
  · exact c_X11_time_13 d hJ q y1 y2 
set_option maxRecDepth 20000 in
set_option maxHeartbeats 4000000 in
theorem c_X11_room_1 {G : sw_G} (d : Nat) {h0 : sw_H} (hJ : cJ h0) (hc : h0 0 1 = 1 ∧ h0 0 2 = 13) (y1 y2 : Int)  : sw_E G NH SH (d + 2) mX11_room 0 [some (sw_r 0), some (sw_i y1), some (sw_i y2)] [] h0 (sw_Qi (fun z h' => cK pr1 h0 h')) := by
  have hI : cK pr1 h0 h0 := cK.refl hJ
  have rw : (0 : Int) ≤ h0 1 0 ∧ h0 1 0 ≤ 6 := hI.1.1 1 0
  refine sx_aload_n dX11_room_0 rfl ?_
  refine sx_getR (k := 1) (t := 1) cl_11 fl_X11_10 dX11_room_1 s_0 (by decide) rfl (by decide) (by omega) ?_
  refine sx_iload_n dX11_room_4 rfl ?_
  refine sx_callVz lk_X11_124 cl_0 s_1 (by decide) dX11_room_5 (vs := [_]) rfl rfl (Nat.le_of_ble_eq_true rfl) (Nat.le_of_ble_eq_true rfl) rfl (c_X0_hasWord_1 _ hI.1 _) (fun x2 h1 zx2 ph1 => ?_)
  obtain ⟨rfl, w_x2⟩ := ph1
  refine sx_if_eq (tgt := 18) dX11_room_8 (by decide) (fun c3 => ?_) (fun c3 => ?_)
  ·
    refine sx_iconst dX11_room_18 ⟨by decide, by decide⟩ ?_
    refine sx_ireturn dX11_room_19 ?_
    exact ⟨_, rfl, hI⟩
  ·
    refine sx_iload_n dX11_room_11 rfl ?_
    refine sx_callSz lk_X11_241 dX11_room_12 (vs := [_]) rfl rfl (Nat.le_of_ble_eq_true rfl) (Nat.le_of_ble_eq_true rfl) rfl (c_X11_isForm _ hI.1 _) (fun x5 h4 zx5 ph4 => ?_)
    obtain ⟨rfl, w_x5⟩ := ph4
    refine sx_if_ne (tgt := 20) dX11_room_15 (by decide) (fun c6 => ?_) (fun c6 => ?_)
    ·
      refine sx_aload_n dX11_room_20 rfl ?_
      refine sx_getS (k := 9) (t := 177) cl_11 fl_X11_54 dX11_room_21 s_0 (by decide) rfl (by decide) ?_
      refine sx_aload_n dX11_room_24 rfl ?_
      refine sx_getR (k := 1) (t := 1) cl_11 fl_X11_10 dX11_room_25 s_0 (by decide) rfl (by decide) (by omega) ?_
      refine sx_aload_n dX11_room_28 rfl ?_
      refine sx_getS (k := 5) (t := 48) cl_11 fl_X11_36 dX11_room_29 s_0 (by decide) rfl (by decide) ?_
      refine sx_callVr lk_X11_147 cl_9 s_48 (by decide) dX11_room_32 (vs := []) rfl rfl (Nat.le_of_ble_eq_true rfl) (Nat.le_of_ble_eq_true rfl) ⟨_, rfl⟩ (c_X9_state _ hI.1) (fun x8 h7 ph7 => ?_)
      obtain ⟨Kh7, m_h7⟩ := ph7
      have Ih7 := hI.tr Kh7 sb_pr1_prL
      have th7_0_1 := Kh7.2 (0) 1 rfl
      have th7_0_2 := Kh7.2 (0) 2 rfl
      have th7_1_0 := Kh7.2 (1) 0 rfl
      have hx8m := m_h7
      obtain ⟨Sx80, Sx81, Sx82, bx8⟩ := s_St x8 hx8m
      have Bx80 : x8 < NH := show x8 < 290 by omega
      have Bx81 : x8 + 1 < NH := show x8 + 1 < 290 by omega
      have Bx82 : x8 + 2 < NH := show x8 + 2 < 290 by omega
      refine sx_getI (k := 4) cl_8 fl_X11_150 dX11_room_35 Sx80 Bx80 rfl (by decide) ?_
      refine sx_iload_n dX11_room_38 rfl ?_
      refine sx_iload_n dX11_room_39 rfl ?_
      refine sx_callVi lk_X11_251 cl_1 s_177 (by decide) dX11_room_40 (vs := [_, _, _, _]) rfl rfl (Nat.le_of_ble_eq_true rfl) (Nat.le_of_ble_eq_true rfl) rfl (c_X1_roomOf_1 _ Ih7.1 _ _ _ (by omega)) (fun x10 h9 ph9 => ?_)
      have Kh9 := ph9
      have Ih9 := Ih7.tr Kh9 sb_pr1_prK
      have th9_0_1 := Kh9.2 (0) 1 rfl
      have th9_0_2 := Kh9.2 (0) 2 rfl
      have th9_1_0 := Kh9.2 (1) 0 rfl
      refine sx_ireturn dX11_room_43 ?_
      exact ⟨_, rfl, Ih9⟩
    ·
      refine sx_iconst dX11_room_18 ⟨by decide, by decide⟩ ?_
      refine sx_ireturn dX11_room_19 ?_
      exact ⟨_, rfl, hI⟩
set_option maxRecDepth 20000 in
set_option maxHeartbeats 4000000 in
theorem c_X11_room_13 {G : sw_G} (d : Nat) {h0 : sw_H} (hJ : cJ h0) (hc : h0 0 1 = 13 ∧ h0 0 2 = 1) (y1 y2 : Int)  : sw_E G NH SH (d + 2) mX11_room 0 [some (sw_r 0), some (sw_i y1), some (sw_i y2)] [] h0 (sw_Qi (fun z h' => cK pr1 h0 h')) := by
  have hI : cK pr1 h0 h0 := cK.refl hJ
  have rw : (0 : Int) ≤ h0 13 0 ∧ h0 13 0 ≤ 6 := hI.1.1 13 0
  refine sx_aload_n dX11_room_0 rfl ?_
  refine sx_getR (k := 1) (t := 13) cl_11 fl_X11_10 dX11_room_1 s_0 (by decide) rfl (by decide) (by omega) ?_
  refine sx_iload_n dX11_room_4 rfl ?_
  refine sx_callVz lk_X11_124 cl_0 s_13 (by decide) dX11_room_5 (vs := [_]) rfl rfl (Nat.le_of_ble_eq_true rfl) (Nat.le_of_ble_eq_true rfl) rfl (c_X0_hasWord_13 _ hI.1 _) (fun x2 h1 zx2 ph1 => ?_)
  obtain ⟨rfl, w_x2⟩ := ph1
  refine sx_if_eq (tgt := 18) dX11_room_8 (by decide) (fun c3 => ?_) (fun c3 => ?_)
  ·
    refine sx_iconst dX11_room_18 ⟨by decide, by decide⟩ ?_
    refine sx_ireturn dX11_room_19 ?_
    exact ⟨_, rfl, hI⟩
  ·
    refine sx_iload_n dX11_room_11 rfl ?_
    refine sx_callSz lk_X11_241 dX11_room_12 (vs := [_]) rfl rfl (Nat.le_of_ble_eq_true rfl) (Nat.le_of_ble_eq_true rfl) rfl (c_X11_isForm _ hI.1 _) (fun x5 h4 zx5 ph4 => ?_)
    obtain ⟨rfl, w_x5⟩ := ph4
    refine sx_if_ne (tgt := 20) dX11_room_15 (by decide) (fun c6 => ?_) (fun c6 => ?_)
    ·
      refine sx_aload_n dX11_room_20 rfl ?_
      refine sx_getS (k := 9) (t := 177) cl_11 fl_X11_54 dX11_room_21 s_0 (by decide) rfl (by decide) ?_
      refine sx_aload_n dX11_room_24 rfl ?_
      refine sx_getR (k := 1) (t := 13) cl_11 fl_X11_10 dX11_room_25 s_0 (by decide) rfl (by decide) (by omega) ?_
      refine sx_aload_n dX11_room_28 rfl ?_
      refine sx_getS (k := 5) (t := 48) cl_11 fl_X11_36 dX11_room_29 s_0 (by decide) rfl (by decide) ?_
      refine sx_callVr lk_X11_147 cl_9 s_48 (by decide) dX11_room_32 (vs := []) rfl rfl (Nat.le_of_ble_eq_true rfl) (Nat.le_of_ble_eq_true rfl) ⟨_, rfl⟩ (c_X9_state _ hI.1) (fun x8 h7 ph7 => ?_)
      obtain ⟨Kh7, m_h7⟩ := ph7
      have Ih7 := hI.tr Kh7 sb_pr1_prL
      have th7_0_1 := Kh7.2 (0) 1 rfl
      have th7_0_2 := Kh7.2 (0) 2 rfl
      have th7_13_0 := Kh7.2 (13) 0 rfl
      have hx8m := m_h7
      obtain ⟨Sx80, Sx81, Sx82, bx8⟩ := s_St x8 hx8m
      have Bx80 : x8 < NH := show x8 < 290 by omega
      have Bx81 : x8 + 1 < NH := show x8 + 1 < 290 by omega
      have Bx82 : x8 + 2 < NH := show x8 + 2 < 290 by omega
      refine sx_getI (k := 4) cl_8 fl_X11_150 dX11_room_35 Sx80 Bx80 rfl (by decide) ?_
      refine sx_iload_n dX11_room_38 rfl ?_
      refine sx_iload_n dX11_room_39 rfl ?_
      refine sx_callVi lk_X11_251 cl_1 s_177 (by decide) dX11_room_40 (vs := [_, _, _, _]) rfl rfl (Nat.le_of_ble_eq_true rfl) (Nat.le_of_ble_eq_true rfl) rfl (c_X1_roomOf_13 _ Ih7.1 _ _ _ (by omega)) (fun x10 h9 ph9 => ?_)
      have Kh9 := ph9
      have Ih9 := Ih7.tr Kh9 sb_pr1_prK
      have th9_0_1 := Kh9.2 (0) 1 rfl
      have th9_0_2 := Kh9.2 (0) 2 rfl
      have th9_13_0 := Kh9.2 (13) 0 rfl
      refine sx_ireturn dX11_room_43 ?_
      exact ⟨_, rfl, Ih9⟩
    ·
      refine sx_iconst dX11_room_18 ⟨by decide, by decide⟩ ?_
      refine sx_ireturn dX11_room_19 ?_
      exact ⟨_, rfl, hI⟩
theorem c_X11_room {G : sw_G} (d : Nat) {h0 : sw_H} (hJ : cJ h0) (y1 y2 : Int)  : sw_E G NH SH (d + 2) mX11_room 0 [some (sw_r 0), some (sw_i y1), some (sw_i y2)] [] h0 (sw_Qi (fun z h' => cK pr1 h0 h')) := by
  rcases (show (h0 0 1 = 1 ∧ h0 0 2 = 13) ∨ (h0 0 1 = 13 ∧ h0 0 2 = 1) from hJ.2 4 (by decide)) with q | q
  · exact c_X11_room_1 d hJ q y1 y2 
  · exact c_X11_room_13 d hJ q y1 y2 
set_option maxRecDepth 20000 in
set_option maxHeartbeats 4000000 in
theorem c_X11_best_1 {G : sw_G} (d : Nat) {h0 : sw_H} (hJ : cJ h0) (hc : h0 0 1 = 1 ∧ h0 0 2 = 13) (y1 : Int)  : sw_E G NH SH (d + 4) mX11_best 0 [some (sw_r 0), some (sw_i y1)] [] h0 (sw_Qi (fun z h' => cK pr1 h0 h')) := by
  have hI : cK pr1 h0 h0 := cK.refl hJ
  have rw : (0 : Int) ≤ h0 1 0 ∧ h0 1 0 ≤ 6 := hI.1.1 1 0
  refine sx_aload_n dX11_best_0 rfl ?_
  refine sx_getR (k := 1) (t := 1) cl_11 fl_X11_10 dX11_best_1 s_0 (by decide) rfl (by decide) (by omega) ?_
  refine sx_iload_n dX11_best_4 rfl ?_
  refine sx_callVz lk_X11_124 cl_0 s_1 (by decide) dX11_best_5 (vs := [_]) rfl rfl (Nat.le_of_ble_eq_true rfl) (Nat.le_of_ble_eq_true rfl) rfl (c_X0_hasWord_1 _ hI.1 _) (fun x2 h1 zx2 ph1 => ?_)
  obtain ⟨rfl, w_x2⟩ := ph1
  refine sx_if_eq (tgt := 36) dX11_best_8 (by decide) (fun c3 => ?_) (fun c3 => ?_)
  ·
    refine sx_iconst dX11_best_36 ⟨by decide, by decide⟩ ?_
    refine sx_ireturn dX11_best_37 ?_
    exact ⟨_, rfl, hI⟩
  ·
    refine sx_aload_n dX11_best_11 rfl ?_
    refine sx_getS (k := 9) (t := 177) cl_11 fl_X11_54 dX11_best_12 s_0 (by decide) rfl (by decide) ?_
    refine sx_aload_n dX11_best_15 rfl ?_
    refine sx_getR (k := 1) (t := 1) cl_11 fl_X11_10 dX11_best_16 s_0 (by decide) rfl (by decide) (by omega) ?_
    refine sx_aload_n dX11_best_19 rfl ?_
    refine sx_getS (k := 5) (t := 48) cl_11 fl_X11_36 dX11_best_20 s_0 (by decide) rfl (by decide) ?_
    refine sx_callVr lk_X11_147 cl_9 s_48 (by decide) dX11_best_23 (vs := []) rfl rfl (Nat.le_of_ble_eq_true rfl) (Nat.le_of_ble_eq_true rfl) ⟨_, rfl⟩ (c_X9_state _ hI.1) (fun x5 h4 ph4 => ?_)
    obtain ⟨Kh4, m_h4⟩ := ph4
    have Ih4 := hI.tr Kh4 sb_pr1_prL
    have th4_0_1 := Kh4.2 (0) 1 rfl
    have th4_0_2 := Kh4.2 (0) 2 rfl
    have th4_1_0 := Kh4.2 (1) 0 rfl
    have hx5m := m_h4
    obtain ⟨Sx50, Sx51, Sx52, bx5⟩ := s_St x5 hx5m
    have Bx50 : x5 < NH := show x5 < 290 by omega
    have Bx51 : x5 + 1 < NH := show x5 + 1 < 290 by omega
    have Bx52 : x5 + 2 < NH := show x5 + 2 < 290 by omega
    refine sx_getI (k := 4) cl_8 fl_X11_150 dX11_best_26 Sx50 Bx50 rfl (by decide) ?_
    refine sx_iload_n dX11_best_29 rfl ?_
    refine sx_callVi lk_X11_255 cl_1 s_177 (by decide) dX11_best_30 (vs := [_, _, _]) rfl rfl (Nat.le_of_ble_eq_true rfl) (Nat.le_of_ble_eq_true rfl) rfl (c_X1_bestForm_1 _ Ih4.1 _ _ (by omega)) (fun x7 h6 ph6 => ?_)
    have Kh6 := ph6
    have Ih6 := Ih4.tr Kh6 sb_pr1_prK
    have th6_0_1 := Kh6.2 (0) 1 rfl
    have th6_0_2 := Kh6.2 (0) 2 rfl
    have th6_1_0 := Kh6.2 (1) 0 rfl
    refine sx_goto (tgt := 37) dX11_best_33 (by decide) ?_
    refine sx_ireturn dX11_best_37 ?_
    exact ⟨_, rfl, Ih6⟩
set_option maxRecDepth 20000 in
set_option maxHeartbeats 4000000 in
theorem c_X11_best_13 {G : sw_G} (d : Nat) {h0 : sw_H} (hJ : cJ h0) (hc : h0 0 1 = 13 ∧ h0 0 2 = 1) (y1 : Int)  : sw_E G NH SH (d + 4) mX11_best 0 [some (sw_r 0), some (sw_i y1)] [] h0 (sw_Qi (fun z h' => cK pr1 h0 h')) := by
  have hI : cK pr1 h0 h0 := cK.refl hJ
  have rw : (0 : Int) ≤ h0 13 0 ∧ h0 13 0 ≤ 6 := hI.1.1 13 0
  refine sx_aload_n dX11_best_0 rfl ?_
  refine sx_getR (k := 1) (t := 13) cl_11 fl_X11_10 dX11_best_1 s_0 (by decide) rfl (by decide) (by omega) ?_
  refine sx_iload_n dX11_best_4 rfl ?_
  refine sx_callVz lk_X11_124 cl_0 s_13 (by decide) dX11_best_5 (vs := [_]) rfl rfl (Nat.le_of_ble_eq_true rfl) (Nat.le_of_ble_eq_true rfl) rfl (c_X0_hasWord_13 _ hI.1 _) (fun x2 h1 zx2 ph1 => ?_)
  obtain ⟨rfl, w_x2⟩ := ph1
  refine sx_if_eq (tgt := 36) dX11_best_8 (by decide) (fun c3 => ?_) (fun c3 => ?_)
  ·
    refine sx_iconst dX11_best_36 ⟨by decide, by decide⟩ ?_
    refine sx_ireturn dX11_best_37 ?_
    exact ⟨_, rfl, hI⟩
  ·
    refine sx_aload_n dX11_best_11 rfl ?_
    refine sx_getS (k := 9) (t := 177) cl_11 fl_X11_54 dX11_best_12 s_0 (by decide) rfl (by decide) ?_
    refine sx_aload_n dX11_best_15 rfl ?_
    refine sx_getR (k := 1) (t := 13) cl_11 fl_X11_10 dX11_best_16 s_0 (by decide) rfl (by decide) (by omega) ?_
    refine sx_aload_n dX11_best_19 rfl ?_
    refine sx_getS (k := 5) (t := 48) cl_11 fl_X11_36 dX11_best_20 s_0 (by decide) rfl (by decide) ?_
    refine sx_callVr lk_X11_147 cl_9 s_48 (by decide) dX11_best_23 (vs := []) rfl rfl (Nat.le_of_ble_eq_true rfl) (Nat.le_of_ble_eq_true rfl) ⟨_, rfl⟩ (c_X9_state _ hI.1) (fun x5 h4 ph4 => ?_)
    obtain ⟨Kh4, m_h4⟩ := ph4
    have Ih4 := hI.tr Kh4 sb_pr1_prL
    have th4_0_1 := Kh4.2 (0) 1 rfl
    have th4_0_2 := Kh4.2 (0) 2 rfl
    have th4_13_0 := Kh4.2 (13) 0 rfl
    have hx5m := m_h4
    obtain ⟨Sx50, Sx51, Sx52, bx5⟩ := s_St x5 hx5m
    have Bx50 : x5 < NH := show x5 < 290 by omega
    have Bx51 : x5 + 1 < NH := show x5 + 1 < 290 by omega
    have Bx52 : x5 + 2 < NH := show x5 + 2 < 290 by omega
    refine sx_getI (k := 4) cl_8 fl_X11_150 dX11_best_26 Sx50 Bx50 rfl (by decide) ?_
    refine sx_iload_n dX11_best_29 rfl ?_
    refine sx_callVi lk_X11_255 cl_1 s_177 (by decide) dX11_best_30 (vs := [_, _, _]) rfl rfl (Nat.le_of_ble_eq_true rfl) (Nat.le_of_ble_eq_true rfl) rfl (c_X1_bestForm_13 _ Ih4.1 _ _ (by omega)) (fun x7 h6 ph6 => ?_)
    have Kh6 := ph6
    have Ih6 := Ih4.tr Kh6 sb_pr1_prK
    have th6_0_1 := Kh6.2 (0) 1 rfl
    have th6_0_2 := Kh6.2 (0) 2 rfl
    have th6_13_0 := Kh6.2 (13) 0 rfl
    refine sx_goto (tgt := 37) dX11_best_33 (by decide) ?_
    refine sx_ireturn dX11_best_37 ?_
    exact ⟨_, rfl, Ih6⟩
theorem c_X11_best {G : sw_G} (d : Nat) {h0 : sw_H} (hJ : cJ h0) (y1 : Int)  : sw_E G NH SH (d + 4) mX11_best 0 [some (sw_r 0), some (sw_i y1)] [] h0 (sw_Qi (fun z h' => cK pr1 h0 h')) := by
  rcases (show (h0 0 1 = 1 ∧ h0 0 2 = 13) ∨ (h0 0 1 = 13 ∧ h0 0 2 = 1) from hJ.2 4 (by decide)) with q | q
  · exact c_X11_best_1 d hJ q y1 
  · exact c_X11_best_13 d hJ q y1 
set_option maxRecDepth 20000 in
set_option maxHeartbeats 4000000 in
theorem c_X11_total_1 {G : sw_G} (d : Nat) {h0 : sw_H} (hJ : cJ h0) (hc : h0 0 1 = 1 ∧ h0 0 2 = 13) (y1 : Int)  : sw_E G NH SH (d + 2) mX11_total 0 [some (sw_r 0), some (sw_i y1), none, none, none] [] h0 (sw_Qi (fun z h' => cK pr1 h0 h')) := by
  have hI : cK pr1 h0 h0 := cK.refl hJ
  have rw : (0 : Int) ≤ h0 1 0 ∧ h0 1 0 ≤ 6 := hI.1.1 1 0
  refine sx_iload_n dX11_total_0 rfl ?_
  refine sx_callSz lk_X11_241 dX11_total_1 (vs := [_]) rfl rfl (Nat.le_of_ble_eq_true rfl) (Nat.le_of_ble_eq_true rfl) rfl (c_X11_isForm _ hI.1 _) (fun x2 h1 zx2 ph1 => ?_)
  obtain ⟨rfl, w_x2⟩ := ph1
  refine sx_if_ne (tgt := 9) dX11_total_4 (by decide) (fun c3 => ?_) (fun c3 => ?_)
  ·
    refine sx_iconst dX11_total_9 ⟨by decide, by decide⟩ ?_
    refine sx_istore_n dX11_total_10 (by decide) ?_
    refine sx_aload_n dX11_total_11 rfl ?_
    refine sx_getS (k := 5) (t := 48) cl_11 fl_X11_36 dX11_total_12 s_0 (by decide) rfl (by decide) ?_
    refine sx_callVr lk_X11_147 cl_9 s_48 (by decide) dX11_total_15 (vs := []) rfl rfl (Nat.le_of_ble_eq_true rfl) (Nat.le_of_ble_eq_true rfl) ⟨_, rfl⟩ (c_X9_state _ hI.1) (fun x5 h4 ph4 => ?_)
    obtain ⟨Kh4, m_h4⟩ := ph4
    have Ih4 := hI.tr Kh4 sb_pr1_prL
    have th4_0_1 := Kh4.2 (0) 1 rfl
    have th4_0_2 := Kh4.2 (0) 2 rfl
    have th4_1_0 := Kh4.2 (1) 0 rfl
    have hx5m := m_h4
    obtain ⟨Sx50, Sx51, Sx52, bx5⟩ := s_St x5 hx5m
    have Bx50 : x5 < NH := show x5 < 290 by omega
    have Bx51 : x5 + 1 < NH := show x5 + 1 < 290 by omega
    have Bx52 : x5 + 2 < NH := show x5 + 2 < 290 by omega
    refine sx_getI (k := 4) cl_8 fl_X11_150 dX11_total_18 Sx50 Bx50 rfl (by decide) ?_
    refine sy_top (fun v6 ev6 => ?_)
    refine sx_istore_n dX11_total_21 (by decide) ?_
    refine sx_iconst dX11_total_22 ⟨by decide, by decide⟩ ?_
    refine sx_istore dX11_total_23 (by decide) ?_
    refine sx_loop2 (fun (h : sw_H) (s : Int) (i : Int) => (cK pr1 h0 h) ∧ (h 0 1 = h0 0 1) ∧ (0 ≤ i)) (fun (h : sw_H) (s : Int) (i : Int) => (6 - i).toNat) (fun (h : sw_H) (s : Int) (i : Int) => sw_E G NH SH (d + 2) mX11_total 25 [some (sw_r 0), some (sw_i y1), some (sw_i s), some (sw_i v6), some (sw_i i)] [] h (sw_Qi (fun z h' => cK pr1 h0 h'))) ?_ _ _ _ ?_
    · rintro h7 s_8 i_9 ⟨Ih7, j10, j11⟩ ihh7
      try dsimp only at ihh7
      refine sx_iload dX11_total_25 rfl ?_
      refine sx_aload_n dX11_total_27 rfl ?_
      refine sx_getR (k := 1) (t := 1) cl_11 fl_X11_10 dX11_total_28 s_0 (by decide) rfl (by decide) (by omega) ?_
      refine sx_getI (k := 0) cl_0 fl_X11_121 dX11_total_31 s_1 (by decide) rfl (by decide) ?_
      have r12 : (0 : Int) ≤ h7 1 0 ∧ h7 1 0 ≤ 6 := Ih7.1.1 1 0
      refine sx_icmp_ge (tgt := 70) dX11_total_34 (by decide) (fun c13 => ?_) (fun c13 => ?_)
      ·
        refine sx_iload_n dX11_total_70 rfl ?_
        refine sx_ireturn dX11_total_71 ?_
        exact ⟨_, rfl, Ih7⟩
      ·
        refine sx_iload_n dX11_total_37 rfl ?_
        refine sx_iload dX11_total_38 rfl ?_
        refine sx_ishr dX11_total_40 ?_
        refine sx_iconst dX11_total_41 ⟨by decide, by decide⟩ ?_
        refine sx_iand dX11_total_42 ?_
        refine sx_if_ne (tgt := 64) dX11_total_43 (by decide) (fun c14 => ?_) (fun c14 => ?_)
        ·
          refine sx_iinc dX11_total_64 (by decide) rfl ?_
          rw [sw_w_id (by omega) (by omega)]
          refine sx_goto (tgt := 25) dX11_total_67 (by decide) ?_
          exact ihh7 _ _ _ ⟨Ih7, by omega, by omega⟩ (by exact sy_dec (by omega) (by omega))
        ·
          refine sx_iload_n dX11_total_46 rfl ?_
          refine sx_aload_n dX11_total_47 rfl ?_
          refine sx_getS (k := 9) (t := 177) cl_11 fl_X11_54 dX11_total_48 s_0 (by decide) rfl (by decide) ?_
          refine sx_aload_n dX11_total_51 rfl ?_
          refine sx_getR (k := 1) (t := 1) cl_11 fl_X11_10 dX11_total_52 s_0 (by decide) rfl (by decide) (by omega) ?_
          refine sx_iload_n dX11_total_55 rfl ?_
          refine sx_iload dX11_total_56 rfl ?_
          refine sx_iload_n dX11_total_58 rfl ?_
          refine sx_callVi lk_X11_251 cl_1 s_177 (by decide) dX11_total_59 (vs := [_, _, _, _]) rfl rfl (Nat.le_of_ble_eq_true rfl) (Nat.le_of_ble_eq_true rfl) rfl (c_X1_roomOf_1 _ Ih7.1 _ _ _ (by omega)) (fun x16 h15 ph15 => ?_)
          have Kh15 := ph15
          have Ih15 := Ih7.tr Kh15 sb_pr1_prK
          have th15_0_1 := Kh15.2 (0) 1 rfl
          have th15_0_2 := Kh15.2 (0) 2 rfl
          have th15_1_0 := Kh15.2 (1) 0 rfl
          refine sx_iadd dX11_total_62 ?_
          refine sy_top (fun v17 ev17 => ?_)
          refine sx_istore_n dX11_total_63 (by decide) ?_
          refine sx_iinc dX11_total_64 (by decide) rfl ?_
          rw [sw_w_id (by omega) (by omega)]
          refine sx_goto (tgt := 25) dX11_total_67 (by decide) ?_
          exact ihh7 _ _ _ ⟨Ih15, by omega, by omega⟩ (by exact sy_dec (by omega) (by omega))
    · exact ⟨Ih4, by omega, by omega⟩
  ·
    refine sx_iconst dX11_total_7 ⟨by decide, by decide⟩ ?_
    refine sx_ireturn dX11_total_8 ?_
    exact ⟨_, rfl, hI⟩
set_option maxRecDepth 20000 in
set_option maxHeartbeats 4000000 in
theorem c_X11_total_13 {G : sw_G} (d : Nat) {h0 : sw_H} (hJ : cJ h0) (hc : h0 0 1 = 13 ∧ h0 0 2 = 1) (y1 : Int)  : sw_E G NH SH (d + 2) mX11_total 0 [some (sw_r 0), some (sw_i y1), none, none, none] [] h0 (sw_Qi (fun z h' => cK pr1 h0 h')) := by
  have hI : cK pr1 h0 h0 := cK.refl hJ
  have rw : (0 : Int) ≤ h0 13 0 ∧ h0 13 0 ≤ 6 := hI.1.1 13 0
  refine sx_iload_n dX11_total_0 rfl ?_
  refine sx_callSz lk_X11_241 dX11_total_1 (vs := [_]) rfl rfl (Nat.le_of_ble_eq_true rfl) (Nat.le_of_ble_eq_true rfl) rfl (c_X11_isForm _ hI.1 _) (fun x2 h1 zx2 ph1 => ?_)
  obtain ⟨rfl, w_x2⟩ := ph1
  refine sx_if_ne (tgt := 9) dX11_total_4 (by decide) (fun c3 => ?_) (fun c3 => ?_)
  ·
    refine sx_iconst dX11_total_9 ⟨by decide, by decide⟩ ?_
    refine sx_istore_n dX11_total_10 (by decide) ?_
    refine sx_aload_n dX11_total_11 rfl ?_
    refine sx_getS (k := 5) (t := 48) cl_11 fl_X11_36 dX11_total_12 s_0 (by decide) rfl (by decide) ?_
    refine sx_callVr lk_X11_147 cl_9 s_48 (by decide) dX11_total_15 (vs := []) rfl rfl (Nat.le_of_ble_eq_true rfl) (Nat.le_of_ble_eq_true rfl) ⟨_, rfl⟩ (c_X9_state _ hI.1) (fun x5 h4 ph4 => ?_)
    obtain ⟨Kh4, m_h4⟩ := ph4
    have Ih4 := hI.tr Kh4 sb_pr1_prL
    have th4_0_1 := Kh4.2 (0) 1 rfl
    have th4_0_2 := Kh4.2 (0) 2 rfl
    have th4_13_0 := Kh4.2 (13) 0 rfl
    have hx5m := m_h4
    obtain ⟨Sx50, Sx51, Sx52, bx5⟩ := s_St x5 hx5m
    have Bx50 : x5 < NH := show x5 < 290 by omega
    have Bx51 : x5 + 1 < NH := show x5 + 1 < 290 by omega
    have Bx52 : x5 + 2 < NH := show x5 + 2 < 290 by omega
    refine sx_getI (k := 4) cl_8 fl_X11_150 dX11_total_18 Sx50 Bx50 rfl (by decide) ?_
    refine sy_top (fun v6 ev6 => ?_)
    refine sx_istore_n dX11_total_21 (by decide) ?_
    refine sx_iconst dX11_total_22 ⟨by decide, by decide⟩ ?_
    refine sx_istore dX11_total_23 (by decide) ?_
    refine sx_loop2 (fun (h : sw_H) (s : Int) (i : Int) => (cK pr1 h0 h) ∧ (h 0 1 = h0 0 1) ∧ (0 ≤ i)) (fun (h : sw_H) (s : Int) (i : Int) => (6 - i).toNat) (fun (h : sw_H) (s : Int) (i : Int) => sw_E G NH SH (d + 2) mX11_total 25 [some (sw_r 0), some (sw_i y1), some (sw_i s), some (sw_i v6), some (sw_i i)] [] h (sw_Qi (fun z h' => cK pr1 h0 h'))) ?_ _ _ _ ?_
    · rintro h7 s_8 i_9 ⟨Ih7, j10, j11⟩ ihh7
      try dsimp only at ihh7
      refine sx_iload dX11_total_25 rfl ?_
      refine sx_aload_n dX11_total_27 rfl ?_
      refine sx_getR (k := 1) (t := 13) cl_11 fl_X11_10 dX11_total_28 s_0 (by decide) rfl (by decide) (by omega) ?_
      refine sx_getI (k := 0) cl_0 fl_X11_121 dX11_total_31 s_13 (by decide) rfl (by decide) ?_
      have r12 : (0 : Int) ≤ h7 13 0 ∧ h7 13 0 ≤ 6 := Ih7.1.1 13 0
      refine sx_icmp_ge (tgt := 70) dX11_total_34 (by decide) (fun c13 => ?_) (fun c13 => ?_)
      ·
        refine sx_iload_n dX11_total_70 rfl ?_
        refine sx_ireturn dX11_total_71 ?_
        exact ⟨_, rfl, Ih7⟩
      ·
        refine sx_iload_n dX11_total_37 rfl ?_
        refine sx_iload dX11_total_38 rfl ?_
        refine sx_ishr dX11_total_40 ?_
        refine sx_iconst dX11_total_41 ⟨by decide, by decide⟩ ?_
        refine sx_iand dX11_total_42 ?_
        refine sx_if_ne (tgt := 64) dX11_total_43 (by decide) (fun c14 => ?_) (fun c14 => ?_)
        ·
          refine sx_iinc dX11_total_64 (by decide) rfl ?_
          rw [sw_w_id (by omega) (by omega)]
          refine sx_goto (tgt := 25) dX11_total_67 (by decide) ?_
          exact ihh7 _ _ _ ⟨Ih7, by omega, by omega⟩ (by exact sy_dec (by omega) (by omega))
        ·
          refine sx_iload_n dX11_total_46 rfl ?_
          refine sx_aload_n dX11_total_47 rfl ?_
          refine sx_getS (k := 9) (t := 177) cl_11 fl_X11_54 dX11_total_48 s_0 (by decide) rfl (by decide) ?_
          refine sx_aload_n dX11_total_51 rfl ?_
          refine sx_getR (k := 1) (t := 13) cl_11 fl_X11_10 dX11_total_52 s_0 (by decide) rfl (by decide) (by omega) ?_
          refine sx_iload_n dX11_total_55 rfl ?_
          refine sx_iload dX11_total_56 rfl ?_
          refine sx_iload_n dX11_total_58 rfl ?_
          refine sx_callVi lk_X11_251 cl_1 s_177 (by decide) dX11_total_59 (vs := [_, _, _, _]) rfl rfl (Nat.le_of_ble_eq_true rfl) (Nat.le_of_ble_eq_true rfl) rfl (c_X1_roomOf_13 _ Ih7.1 _ _ _ (by omega)) (fun x16 h15 ph15 => ?_)
          have Kh15 := ph15
          have Ih15 := Ih7.tr Kh15 sb_pr1_prK
          have th15_0_1 := Kh15.2 (0) 1 rfl
          have th15_0_2 := Kh15.2 (0) 2 rfl
          have th15_13_0 := Kh15.2 (13) 0 rfl
          refine sx_iadd dX11_total_62 ?_
          refine sy_top (fun v17 ev17 => ?_)
          refine sx_istore_n dX11_total_63 (by decide) ?_
          refine sx_iinc dX11_total_64 (by decide) rfl ?_
          rw [sw_w_id (by omega) (by omega)]
          refine sx_goto (tgt := 25) dX11_total_67 (by decide) ?_
          exact ihh7 _ _ _ ⟨Ih15, by omega, by omega⟩ (by exact sy_dec (by omega) (by omega))
    · exact ⟨Ih4, by omega, by omega⟩
  ·
    refine sx_iconst dX11_total_7 ⟨by decide, by decide⟩ ?_
    refine sx_ireturn dX11_total_8 ?_
    exact ⟨_, rfl, hI⟩
theorem c_X11_total {G : sw_G} (d : Nat) {h0 : sw_H} (hJ : cJ h0) (y1 : Int)  : sw_E G NH SH (d + 2) mX11_total 0 [some (sw_r 0), some (sw_i y1), none, none, none] [] h0 (sw_Qi (fun z h' => cK pr1 h0 h')) := by
  rcases (show (h0 0 1 = 1 ∧ h0 0 2 = 13) ∨ (h0 0 1 = 13 ∧ h0 0 2 = 1) from hJ.2 4 (by decide)) with q | q
  · exact c_X11_total_1 d hJ q y1 
  · exact c_X11_total_13 d hJ q y1 
set_option maxRecDepth 20000 in
set_option maxHeartbeats 4000000 in
theorem c_X11_calls_1 {G : sw_G} (d : Nat) {h0 : sw_H} (hJ : cJ h0) (hc : h0 0 1 = 1 ∧ h0 0 2 = 13) (y1 : Int)  : sw_E G NH SH (d + 1) mX11_calls 0 [some (sw_r 0), some (sw_i y1)] [] h0 (sw_Qi (fun z h' => cK pr1 h0 h')) := by
  have hI : cK pr1 h0 h0 := cK.refl hJ
  have rw : (0 : Int) ≤ h0 1 0 ∧ h0 1 0 ≤ 6 := hI.1.1 1 0
  refine sx_aload_n dX11_calls_0 rfl ?_
  refine sx_getR (k := 1) (t := 1) cl_11 fl_X11_10 dX11_calls_1 s_0 (by decide) rfl (by decide) (by omega) ?_
  refine sx_iload_n dX11_calls_4 rfl ?_
  refine sx_callVz lk_X11_124 cl_0 s_1 (by decide) dX11_calls_5 (vs := [_]) rfl rfl (Nat.le_of_ble_eq_true rfl) (Nat.le_of_ble_eq_true rfl) rfl (c_X0_hasWord_1 _ hI.1 _) (fun x2 h1 zx2 ph1 => ?_)
  obtain ⟨rfl, w_x2⟩ := ph1
  refine sx_if_eq (tgt := 22) dX11_calls_8 (by decide) (fun c3 => ?_) (fun c3 => ?_)
  ·
    refine sx_iconst dX11_calls_22 ⟨by decide, by decide⟩ ?_
    refine sx_ireturn dX11_calls_23 ?_
    exact ⟨_, rfl, hI⟩
  ·
    refine sx_aload_n dX11_calls_11 rfl ?_
    refine sx_getR (k := 1) (t := 1) cl_11 fl_X11_10 dX11_calls_12 s_0 (by decide) rfl (by decide) (by omega) ?_
    refine sx_iload_n dX11_calls_15 rfl ?_
    refine sx_callVi lk_X11_258 cl_0 s_1 (by decide) dX11_calls_16 (vs := [_]) rfl rfl (Nat.le_of_ble_eq_true rfl) (Nat.le_of_ble_eq_true rfl) rfl (c_X0_calledIn_1 _ hI.1 _ (by first | omega | (rw [Int.tmod_eq_emod_of_nonneg (by omega)]; omega) | (rw [Int.tdiv_eq_ediv_of_nonneg (by omega)]; omega))) (fun x5 h4 ph4 => ?_)
    subst ph4
    refine sx_goto (tgt := 23) dX11_calls_19 (by decide) ?_
    refine sx_ireturn dX11_calls_23 ?_
    exact ⟨_, rfl, hI⟩
set_option maxRecDepth 20000 in
set_option maxHeartbeats 4000000 in
theorem c_X11_calls_13 {G : sw_G} (d : Nat) {h0 : sw_H} (hJ : cJ h0) (hc : h0 0 1 = 13 ∧ h0 0 2 = 1) (y1 : Int)  : sw_E G NH SH (d + 1) mX11_calls 0 [some (sw_r 0), some (sw_i y1)] [] h0 (sw_Qi (fun z h' => cK pr1 h0 h')) := by
  have hI : cK pr1 h0 h0 := cK.refl hJ
  have rw : (0 : Int) ≤ h0 13 0 ∧ h0 13 0 ≤ 6 := hI.1.1 13 0
  refine sx_aload_n dX11_calls_0 rfl ?_
  refine sx_getR (k := 1) (t := 13) cl_11 fl_X11_10 dX11_calls_1 s_0 (by decide) rfl (by decide) (by omega) ?_
  refine sx_iload_n dX11_calls_4 rfl ?_
  refine sx_callVz lk_X11_124 cl_0 s_13 (by decide) dX11_calls_5 (vs := [_]) rfl rfl (Nat.le_of_ble_eq_true rfl) (Nat.le_of_ble_eq_true rfl) rfl (c_X0_hasWord_13 _ hI.1 _) (fun x2 h1 zx2 ph1 => ?_)
  obtain ⟨rfl, w_x2⟩ := ph1
  refine sx_if_eq (tgt := 22) dX11_calls_8 (by decide) (fun c3 => ?_) (fun c3 => ?_)
  ·
    refine sx_iconst dX11_calls_22 ⟨by decide, by decide⟩ ?_
    refine sx_ireturn dX11_calls_23 ?_
    exact ⟨_, rfl, hI⟩
  ·
    refine sx_aload_n dX11_calls_11 rfl ?_
    refine sx_getR (k := 1) (t := 13) cl_11 fl_X11_10 dX11_calls_12 s_0 (by decide) rfl (by decide) (by omega) ?_
    refine sx_iload_n dX11_calls_15 rfl ?_
    refine sx_callVi lk_X11_258 cl_0 s_13 (by decide) dX11_calls_16 (vs := [_]) rfl rfl (Nat.le_of_ble_eq_true rfl) (Nat.le_of_ble_eq_true rfl) rfl (c_X0_calledIn_13 _ hI.1 _ (by first | omega | (rw [Int.tmod_eq_emod_of_nonneg (by omega)]; omega) | (rw [Int.tdiv_eq_ediv_of_nonneg (by omega)]; omega))) (fun x5 h4 ph4 => ?_)
    subst ph4
    refine sx_goto (tgt := 23) dX11_calls_19 (by decide) ?_
    refine sx_ireturn dX11_calls_23 ?_
    exact ⟨_, rfl, hI⟩
theorem c_X11_calls {G : sw_G} (d : Nat) {h0 : sw_H} (hJ : cJ h0) (y1 : Int)  : sw_E G NH SH (d + 1) mX11_calls 0 [some (sw_r 0), some (sw_i y1)] [] h0 (sw_Qi (fun z h' => cK pr1 h0 h')) := by
  rcases (show (h0 0 1 = 1 ∧ h0 0 2 = 13) ∨ (h0 0 1 = 13 ∧ h0 0 2 = 1) from hJ.2 4 (by decide)) with q | q
  · exact c_X11_calls_1 d hJ q y1 
  · exact c_X11_calls_13 d hJ q y1 
set_option maxRecDepth 20000 in
set_option maxHeartbeats 4000000 in
theorem c_X11_callers_1 {G : sw_G} (d : Nat) {h0 : sw_H} (hJ : cJ h0) (hc : h0 0 1 = 1 ∧ h0 0 2 = 13) (y1 : Int)  : sw_E G NH SH (d + 2) mX11_callers 0 [some (sw_r 0), some (sw_i y1)] [] h0 (sw_Qi (fun z h' => cK pr1 h0 h')) := by
  have hI : cK pr1 h0 h0 := cK.refl hJ
  have rw : (0 : Int) ≤ h0 1 0 ∧ h0 1 0 ≤ 6 := hI.1.1 1 0
  refine sx_aload_n dX11_callers_0 rfl ?_
  refine sx_getR (k := 1) (t := 1) cl_11 fl_X11_10 dX11_callers_1 s_0 (by decide) rfl (by decide) (by omega) ?_
  refine sx_iload_n dX11_callers_4 rfl ?_
  refine sx_callVz lk_X11_124 cl_0 s_1 (by decide) dX11_callers_5 (vs := [_]) rfl rfl (Nat.le_of_ble_eq_true rfl) (Nat.le_of_ble_eq_true rfl) rfl (c_X0_hasWord_1 _ hI.1 _) (fun x2 h1 zx2 ph1 => ?_)
  obtain ⟨rfl, w_x2⟩ := ph1
  refine sx_if_eq (tgt := 22) dX11_callers_8 (by decide) (fun c3 => ?_) (fun c3 => ?_)
  ·
    refine sx_iconst dX11_callers_22 ⟨by decide, by decide⟩ ?_
    refine sx_ireturn dX11_callers_23 ?_
    exact ⟨_, rfl, hI⟩
  ·
    refine sx_aload_n dX11_callers_11 rfl ?_
    refine sx_getR (k := 1) (t := 1) cl_11 fl_X11_10 dX11_callers_12 s_0 (by decide) rfl (by decide) (by omega) ?_
    refine sx_iload_n dX11_callers_15 rfl ?_
    refine sx_callVi lk_X11_261 cl_0 s_1 (by decide) dX11_callers_16 (vs := [_]) rfl rfl (Nat.le_of_ble_eq_true rfl) (Nat.le_of_ble_eq_true rfl) rfl (c_X0_reaching_1 _ hI.1 _ (by first | omega | (rw [Int.tmod_eq_emod_of_nonneg (by omega)]; omega) | (rw [Int.tdiv_eq_ediv_of_nonneg (by omega)]; omega))) (fun x5 h4 ph4 => ?_)
    subst ph4
    refine sx_goto (tgt := 23) dX11_callers_19 (by decide) ?_
    refine sx_ireturn dX11_callers_23 ?_
    exact ⟨_, rfl, hI⟩
set_option maxRecDepth 20000 in
set_option maxHeartbeats 4000000 in
theorem c_X11_callers_13 {G : sw_G} (d : Nat) {h0 : sw_H} (hJ : cJ h0) (hc : h0 0 1 = 13 ∧ h0 0 2 = 1) (y1 : Int)  : sw_E G NH SH (d + 2) mX11_callers 0 [some (sw_r 0), some (sw_i y1)] [] h0 (sw_Qi (fun z h' => cK pr1 h0 h')) := by
  have hI : cK pr1 h0 h0 := cK.refl hJ
  have rw : (0 : Int) ≤ h0 13 0 ∧ h0 13 0 ≤ 6 := hI.1.1 13 0
  refine sx_aload_n dX11_callers_0 rfl ?_
  refine sx_getR (k := 1) (t := 13) cl_11 fl_X11_10 dX11_callers_1 s_0 (by decide) rfl (by decide) (by omega) ?_
  refine sx_iload_n dX11_callers_4 rfl ?_
  refine sx_callVz lk_X11_124 cl_0 s_13 (by decide) dX11_callers_5 (vs := [_]) rfl rfl (Nat.le_of_ble_eq_true rfl) (Nat.le_of_ble_eq_true rfl) rfl (c_X0_hasWord_13 _ hI.1 _) (fun x2 h1 zx2 ph1 => ?_)
  obtain ⟨rfl, w_x2⟩ := ph1
  refine sx_if_eq (tgt := 22) dX11_callers_8 (by decide) (fun c3 => ?_) (fun c3 => ?_)
  ·
    refine sx_iconst dX11_callers_22 ⟨by decide, by decide⟩ ?_
    refine sx_ireturn dX11_callers_23 ?_
    exact ⟨_, rfl, hI⟩
  ·
    refine sx_aload_n dX11_callers_11 rfl ?_
    refine sx_getR (k := 1) (t := 13) cl_11 fl_X11_10 dX11_callers_12 s_0 (by decide) rfl (by decide) (by omega) ?_
    refine sx_iload_n dX11_callers_15 rfl ?_
    refine sx_callVi lk_X11_261 cl_0 s_13 (by decide) dX11_callers_16 (vs := [_]) rfl rfl (Nat.le_of_ble_eq_true rfl) (Nat.le_of_ble_eq_true rfl) rfl (c_X0_reaching_13 _ hI.1 _ (by first | omega | (rw [Int.tmod_eq_emod_of_nonneg (by omega)]; omega) | (rw [Int.tdiv_eq_ediv_of_nonneg (by omega)]; omega))) (fun x5 h4 ph4 => ?_)
    subst ph4
    refine sx_goto (tgt := 23) dX11_callers_19 (by decide) ?_
    refine sx_ireturn dX11_callers_23 ?_
    exact ⟨_, rfl, hI⟩
theorem c_X11_callers {G : sw_G} (d : Nat) {h0 : sw_H} (hJ : cJ h0) (y1 : Int)  : sw_E G NH SH (d + 2) mX11_callers 0 [some (sw_r 0), some (sw_i y1)] [] h0 (sw_Qi (fun z h' => cK pr1 h0 h')) := by
  rcases (show (h0 0 1 = 1 ∧ h0 0 2 = 13) ∨ (h0 0 1 = 13 ∧ h0 0 2 = 1) from hJ.2 4 (by decide)) with q | q
  · exact c_X11_callers_1 d hJ q y1 
  · exact c_X11_callers_13 d hJ q y1 
set_option maxRecDepth 20000 in
set_option maxHeartbeats 4000000 in
theorem c_X11_nested_1 {G : sw_G} (d : Nat) {h0 : sw_H} (hJ : cJ h0) (hc : h0 0 1 = 1 ∧ h0 0 2 = 13) (y1 : Int)  : sw_E G NH SH (d + 2) mX11_nested 0 [some (sw_r 0), some (sw_i y1)] [] h0 (sw_Qi (fun z h' => cK pr1 h0 h')) := by
  have hI : cK pr1 h0 h0 := cK.refl hJ
  have rw : (0 : Int) ≤ h0 1 0 ∧ h0 1 0 ≤ 6 := hI.1.1 1 0
  refine sx_aload_n dX11_nested_0 rfl ?_
  refine sx_getR (k := 1) (t := 1) cl_11 fl_X11_10 dX11_nested_1 s_0 (by decide) rfl (by decide) (by omega) ?_
  refine sx_iload_n dX11_nested_4 rfl ?_
  refine sx_callVz lk_X11_124 cl_0 s_1 (by decide) dX11_nested_5 (vs := [_]) rfl rfl (Nat.le_of_ble_eq_true rfl) (Nat.le_of_ble_eq_true rfl) rfl (c_X0_hasWord_1 _ hI.1 _) (fun x2 h1 zx2 ph1 => ?_)
  obtain ⟨rfl, w_x2⟩ := ph1
  refine sx_if_eq (tgt := 26) dX11_nested_8 (by decide) (fun c3 => ?_) (fun c3 => ?_)
  ·
    refine sx_iconst dX11_nested_26 ⟨by decide, by decide⟩ ?_
    refine sx_ireturn dX11_nested_27 ?_
    exact ⟨_, rfl, hI⟩
  ·
    refine sx_aload_n dX11_nested_11 rfl ?_
    refine sx_getS (k := 9) (t := 177) cl_11 fl_X11_54 dX11_nested_12 s_0 (by decide) rfl (by decide) ?_
    refine sx_aload_n dX11_nested_15 rfl ?_
    refine sx_getR (k := 1) (t := 1) cl_11 fl_X11_10 dX11_nested_16 s_0 (by decide) rfl (by decide) (by omega) ?_
    refine sx_iload_n dX11_nested_19 rfl ?_
    refine sx_callVi lk_X11_264 cl_1 s_177 (by decide) dX11_nested_20 (vs := [_, _]) rfl rfl (Nat.le_of_ble_eq_true rfl) (Nat.le_of_ble_eq_true rfl) rfl (c_X1_openCalls_1 _ hI.1 _ (by omega)) (fun x5 h4 ph4 => ?_)
    have Kh4 := ph4
    have Ih4 := hI.tr Kh4 sb_pr1_prK
    have th4_0_1 := Kh4.2 (0) 1 rfl
    have th4_0_2 := Kh4.2 (0) 2 rfl
    have th4_1_0 := Kh4.2 (1) 0 rfl
    refine sx_goto (tgt := 27) dX11_nested_23 (by decide) ?_
    refine sx_ireturn dX11_nested_27 ?_
    exact ⟨_, rfl, Ih4⟩
set_option maxRecDepth 20000 in
set_option maxHeartbeats 4000000 in
theorem c_X11_nested_13 {G : sw_G} (d : Nat) {h0 : sw_H} (hJ : cJ h0) (hc : h0 0 1 = 13 ∧ h0 0 2 = 1) (y1 : Int)  : sw_E G NH SH (d + 2) mX11_nested 0 [some (sw_r 0), some (sw_i y1)] [] h0 (sw_Qi (fun z h' => cK pr1 h0 h')) := by
  have hI : cK pr1 h0 h0 := cK.refl hJ
  have rw : (0 : Int) ≤ h0 13 0 ∧ h0 13 0 ≤ 6 := hI.1.1 13 0
  refine sx_aload_n dX11_nested_0 rfl ?_
  refine sx_getR (k := 1) (t := 13) cl_11 fl_X11_10 dX11_nested_1 s_0 (by decide) rfl (by decide) (by omega) ?_
  refine sx_iload_n dX11_nested_4 rfl ?_
  refine sx_callVz lk_X11_124 cl_0 s_13 (by decide) dX11_nested_5 (vs := [_]) rfl rfl (Nat.le_of_ble_eq_true rfl) (Nat.le_of_ble_eq_true rfl) rfl (c_X0_hasWord_13 _ hI.1 _) (fun x2 h1 zx2 ph1 => ?_)
  obtain ⟨rfl, w_x2⟩ := ph1
  refine sx_if_eq (tgt := 26) dX11_nested_8 (by decide) (fun c3 => ?_) (fun c3 => ?_)
  ·
    refine sx_iconst dX11_nested_26 ⟨by decide, by decide⟩ ?_
    refine sx_ireturn dX11_nested_27 ?_
    exact ⟨_, rfl, hI⟩
  ·
    refine sx_aload_n dX11_nested_11 rfl ?_
    refine sx_getS (k := 9) (t := 177) cl_11 fl_X11_54 dX11_nested_12 s_0 (by decide) rfl (by decide) ?_
    refine sx_aload_n dX11_nested_15 rfl ?_
    refine sx_getR (k := 1) (t := 13) cl_11 fl_X11_10 dX11_nested_16 s_0 (by decide) rfl (by decide) (by omega) ?_
    refine sx_iload_n dX11_nested_19 rfl ?_
    refine sx_callVi lk_X11_264 cl_1 s_177 (by decide) dX11_nested_20 (vs := [_, _]) rfl rfl (Nat.le_of_ble_eq_true rfl) (Nat.le_of_ble_eq_true rfl) rfl (c_X1_openCalls_13 _ hI.1 _ (by omega)) (fun x5 h4 ph4 => ?_)
    have Kh4 := ph4
    have Ih4 := hI.tr Kh4 sb_pr1_prK
    have th4_0_1 := Kh4.2 (0) 1 rfl
    have th4_0_2 := Kh4.2 (0) 2 rfl
    have th4_13_0 := Kh4.2 (13) 0 rfl
    refine sx_goto (tgt := 27) dX11_nested_23 (by decide) ?_
    refine sx_ireturn dX11_nested_27 ?_
    exact ⟨_, rfl, Ih4⟩
theorem c_X11_nested {G : sw_G} (d : Nat) {h0 : sw_H} (hJ : cJ h0) (y1 : Int)  : sw_E G NH SH (d + 2) mX11_nested 0 [some (sw_r 0), some (sw_i y1)] [] h0 (sw_Qi (fun z h' => cK pr1 h0 h')) := by
  rcases (show (h0 0 1 = 1 ∧ h0 0 2 = 13) ∨ (h0 0 1 = 13 ∧ h0 0 2 = 1) from hJ.2 4 (by decide)) with q | q
  · exact c_X11_nested_1 d hJ q y1 
  · exact c_X11_nested_13 d hJ q y1 
set_option maxRecDepth 20000 in
set_option maxHeartbeats 4000000 in
theorem c_X11_pick_1 {G : sw_G} (d : Nat) {h0 : sw_H} (hJ : cJ h0) (hc : h0 0 1 = 1 ∧ h0 0 2 = 13) (y1 : Int)  : sw_E G NH SH (d + 4) mX11_pick 0 [some (sw_r 0), some (sw_i y1)] [] h0 (sw_Qi (fun z h' => cK pr1 h0 h')) := by
  have hI : cK pr1 h0 h0 := cK.refl hJ
  have rw : (0 : Int) ≤ h0 1 0 ∧ h0 1 0 ≤ 6 := hI.1.1 1 0
  refine sx_iload_n dX11_pick_0 rfl ?_
  refine sx_callSz lk_X11_241 dX11_pick_1 (vs := [_]) rfl rfl (Nat.le_of_ble_eq_true rfl) (Nat.le_of_ble_eq_true rfl) rfl (c_X11_isForm _ hI.1 _) (fun x2 h1 zx2 ph1 => ?_)
  obtain ⟨rfl, w_x2⟩ := ph1
  refine sx_if_eq (tgt := 17) dX11_pick_4 (by decide) (fun c3 => ?_) (fun c3 => ?_)
  ·
    refine sx_iconst dX11_pick_17 ⟨by decide, by decide⟩ ?_
    refine sx_ireturn dX11_pick_18 ?_
    exact ⟨_, rfl, hI⟩
  ·
    refine sx_aload_n dX11_pick_7 rfl ?_
    refine sx_getR (k := 1) (t := 1) cl_11 fl_X11_10 dX11_pick_8 s_0 (by decide) rfl (by decide) (by omega) ?_
    refine sx_getI (k := 0) cl_0 fl_X11_121 dX11_pick_11 s_1 (by decide) rfl (by decide) ?_
    have r4 : (0 : Int) ≤ h0 1 0 ∧ h0 1 0 ≤ 6 := hI.1.1 1 0
    refine sx_if_ne (tgt := 19) dX11_pick_14 (by decide) (fun c5 => ?_) (fun c5 => ?_)
    ·
      refine sx_aload_n dX11_pick_19 rfl ?_
      refine sx_getS (k := 9) (t := 177) cl_11 fl_X11_54 dX11_pick_20 s_0 (by decide) rfl (by decide) ?_
      refine sx_aload_n dX11_pick_23 rfl ?_
      refine sx_getR (k := 1) (t := 1) cl_11 fl_X11_10 dX11_pick_24 s_0 (by decide) rfl (by decide) (by omega) ?_
      refine sx_iload_n dX11_pick_27 rfl ?_
      refine sx_callVv lk_X11_244 cl_1 s_177 (by decide) dX11_pick_28 (vs := [_, _]) rfl rfl (Nat.le_of_ble_eq_true rfl) (Nat.le_of_ble_eq_true rfl) rfl (c_X1_priceByForm_1 _ hI.1 _ (by omega)) (fun h6 ph6 => ?_)
      have Kh6 := ph6
      have Ih6 := hI.tr Kh6 sb_pr1_prK
      have th6_0_1 := Kh6.2 (0) 1 rfl
      have th6_0_2 := Kh6.2 (0) 2 rfl
      have th6_1_0 := Kh6.2 (1) 0 rfl
      refine sx_aload_n dX11_pick_31 rfl ?_
      refine sx_getS (k := 9) (t := 177) cl_11 fl_X11_54 dX11_pick_32 s_0 (by decide) rfl (by decide) ?_
      refine sx_aload_n dX11_pick_35 rfl ?_
      refine sx_getR (k := 1) (t := 1) cl_11 fl_X11_10 dX11_pick_36 s_0 (by decide) rfl (by decide) (by omega) ?_
      refine sx_aload_n dX11_pick_39 rfl ?_
      refine sx_getS (k := 5) (t := 48) cl_11 fl_X11_36 dX11_pick_40 s_0 (by decide) rfl (by decide) ?_
      refine sx_callVr lk_X11_147 cl_9 s_48 (by decide) dX11_pick_43 (vs := []) rfl rfl (Nat.le_of_ble_eq_true rfl) (Nat.le_of_ble_eq_true rfl) ⟨_, rfl⟩ (c_X9_state _ Ih6.1) (fun x9 h8 ph8 => ?_)
      obtain ⟨Kh8, m_h8⟩ := ph8
      have Ih8 := Ih6.tr Kh8 sb_pr1_prL
      have th8_0_1 := Kh8.2 (0) 1 rfl
      have th8_0_2 := Kh8.2 (0) 2 rfl
      have th8_1_0 := Kh8.2 (1) 0 rfl
      have hx9m := m_h8
      obtain ⟨Sx90, Sx91, Sx92, bx9⟩ := s_St x9 hx9m
      have Bx90 : x9 < NH := show x9 < 290 by omega
      have Bx91 : x9 + 1 < NH := show x9 + 1 < 290 by omega
      have Bx92 : x9 + 2 < NH := show x9 + 2 < 290 by omega
      refine sx_getI (k := 4) cl_8 fl_X11_150 dX11_pick_46 Sx90 Bx90 rfl (by decide) ?_
      refine sx_callVi lk_X11_267 cl_1 s_177 (by decide) dX11_pick_49 (vs := [_, _]) rfl rfl (Nat.le_of_ble_eq_true rfl) (Nat.le_of_ble_eq_true rfl) rfl (c_X1_bestToInline_1 _ Ih8.1 _ (by omega)) (fun x11 h10 ph10 => ?_)
      have Kh10 := ph10
      have Ih10 := Ih8.tr Kh10 sb_pr1_prK
      have th10_0_1 := Kh10.2 (0) 1 rfl
      have th10_0_2 := Kh10.2 (0) 2 rfl
      have th10_1_0 := Kh10.2 (1) 0 rfl
      refine sx_ireturn dX11_pick_52 ?_
      exact ⟨_, rfl, Ih10⟩
    ·
      refine sx_iconst dX11_pick_17 ⟨by decide, by decide⟩ ?_
      refine sx_ireturn dX11_pick_18 ?_
      exact ⟨_, rfl, hI⟩
set_option maxRecDepth 20000 in
set_option maxHeartbeats 4000000 in
theorem c_X11_pick_13 {G : sw_G} (d : Nat) {h0 : sw_H} (hJ : cJ h0) (hc : h0 0 1 = 13 ∧ h0 0 2 = 1) (y1 : Int)  : sw_E G NH SH (d + 4) mX11_pick 0 [some (sw_r 0), some (sw_i y1)] [] h0 (sw_Qi (fun z h' => cK pr1 h0 h')) := by
  have hI : cK pr1 h0 h0 := cK.refl hJ
  have rw : (0 : Int) ≤ h0 13 0 ∧ h0 13 0 ≤ 6 := hI.1.1 13 0
  refine sx_iload_n dX11_pick_0 rfl ?_
  refine sx_callSz lk_X11_241 dX11_pick_1 (vs := [_]) rfl rfl (Nat.le_of_ble_eq_true rfl) (Nat.le_of_ble_eq_true rfl) rfl (c_X11_isForm _ hI.1 _) (fun x2 h1 zx2 ph1 => ?_)
  obtain ⟨rfl, w_x2⟩ := ph1
  refine sx_if_eq (tgt := 17) dX11_pick_4 (by decide) (fun c3 => ?_) (fun c3 => ?_)
  ·
    refine sx_iconst dX11_pick_17 ⟨by decide, by decide⟩ ?_
    refine sx_ireturn dX11_pick_18 ?_
    exact ⟨_, rfl, hI⟩
  ·
    refine sx_aload_n dX11_pick_7 rfl ?_
    refine sx_getR (k := 1) (t := 13) cl_11 fl_X11_10 dX11_pick_8 s_0 (by decide) rfl (by decide) (by omega) ?_
    refine sx_getI (k := 0) cl_0 fl_X11_121 dX11_pick_11 s_13 (by decide) rfl (by decide) ?_
    have r4 : (0 : Int) ≤ h0 13 0 ∧ h0 13 0 ≤ 6 := hI.1.1 13 0
    refine sx_if_ne (tgt := 19) dX11_pick_14 (by decide) (fun c5 => ?_) (fun c5 => ?_)
    ·
      refine sx_aload_n dX11_pick_19 rfl ?_
      refine sx_getS (k := 9) (t := 177) cl_11 fl_X11_54 dX11_pick_20 s_0 (by decide) rfl (by decide) ?_
      refine sx_aload_n dX11_pick_23 rfl ?_
      refine sx_getR (k := 1) (t := 13) cl_11 fl_X11_10 dX11_pick_24 s_0 (by decide) rfl (by decide) (by omega) ?_
      refine sx_iload_n dX11_pick_27 rfl ?_
      refine sx_callVv lk_X11_244 cl_1 s_177 (by decide) dX11_pick_28 (vs := [_, _]) rfl rfl (Nat.le_of_ble_eq_true rfl) (Nat.le_of_ble_eq_true rfl) rfl (c_X1_priceByForm_13 _ hI.1 _ (by omega)) (fun h6 ph6 => ?_)
      have Kh6 := ph6
      have Ih6 := hI.tr Kh6 sb_pr1_prK
      have th6_0_1 := Kh6.2 (0) 1 rfl
      have th6_0_2 := Kh6.2 (0) 2 rfl
      have th6_13_0 := Kh6.2 (13) 0 rfl
      refine sx_aload_n dX11_pick_31 rfl ?_
      refine sx_getS (k := 9) (t := 177) cl_11 fl_X11_54 dX11_pick_32 s_0 (by decide) rfl (by decide) ?_
      refine sx_aload_n dX11_pick_35 rfl ?_
      refine sx_getR (k := 1) (t := 13) cl_11 fl_X11_10 dX11_pick_36 s_0 (by decide) rfl (by decide) (by omega) ?_
      refine sx_aload_n dX11_pick_39 rfl ?_
      refine sx_getS (k := 5) (t := 48) cl_11 fl_X11_36 dX11_pick_40 s_0 (by decide) rfl (by decide) ?_
      refine sx_callVr lk_X11_147 cl_9 s_48 (by decide) dX11_pick_43 (vs := []) rfl rfl (Nat.le_of_ble_eq_true rfl) (Nat.le_of_ble_eq_true rfl) ⟨_, rfl⟩ (c_X9_state _ Ih6.1) (fun x9 h8 ph8 => ?_)
      obtain ⟨Kh8, m_h8⟩ := ph8
      have Ih8 := Ih6.tr Kh8 sb_pr1_prL
      have th8_0_1 := Kh8.2 (0) 1 rfl
      have th8_0_2 := Kh8.2 (0) 2 rfl
      have th8_13_0 := Kh8.2 (13) 0 rfl
      have hx9m := m_h8
      obtain ⟨Sx90, Sx91, Sx92, bx9⟩ := s_St x9 hx9m
      have Bx90 : x9 < NH := show x9 < 290 by omega
      have Bx91 : x9 + 1 < NH := show x9 + 1 < 290 by omega
      have Bx92 : x9 + 2 < NH := show x9 + 2 < 290 by omega
      refine sx_getI (k := 4) cl_8 fl_X11_150 dX11_pick_46 Sx90 Bx90 rfl (by decide) ?_
      refine sx_callVi lk_X11_267 cl_1 s_177 (by decide) dX11_pick_49 (vs := [_, _]) rfl rfl (Nat.le_of_ble_eq_true rfl) (Nat.le_of_ble_eq_true rfl) rfl (c_X1_bestToInline_13 _ Ih8.1 _ (by omega)) (fun x11 h10 ph10 => ?_)
      have Kh10 := ph10
      have Ih10 := Ih8.tr Kh10 sb_pr1_prK
      have th10_0_1 := Kh10.2 (0) 1 rfl
      have th10_0_2 := Kh10.2 (0) 2 rfl
      have th10_13_0 := Kh10.2 (13) 0 rfl
      refine sx_ireturn dX11_pick_52 ?_
      exact ⟨_, rfl, Ih10⟩
    ·
      refine sx_iconst dX11_pick_17 ⟨by decide, by decide⟩ ?_
      refine sx_ireturn dX11_pick_18 ?_
      exact ⟨_, rfl, hI⟩
theorem c_X11_pick {G : sw_G} (d : Nat) {h0 : sw_H} (hJ : cJ h0) (y1 : Int)  : sw_E G NH SH (d + 4) mX11_pick 0 [some (sw_r 0), some (sw_i y1)] [] h0 (sw_Qi (fun z h' => cK pr1 h0 h')) := by
  rcases (show (h0 0 1 = 1 ∧ h0 0 2 = 13) ∨ (h0 0 1 = 13 ∧ h0 0 2 = 1) from hJ.2 4 (by decide)) with q | q
  · exact c_X11_pick_1 d hJ q y1 
  · exact c_X11_pick_13 d hJ q y1 
set_option maxRecDepth 20000 in
set_option maxHeartbeats 4000000 in
theorem c_X11_commonest_1 {G : sw_G} (d : Nat) {h0 : sw_H} (hJ : cJ h0) (hc : h0 0 1 = 1 ∧ h0 0 2 = 13)  : sw_E G NH SH (d + 1) mX11_commonest 0 [some (sw_r 0), none, none, none, none] [] h0 (sw_Qi (fun z h' => cK pr1 h0 h')) := by
  have hI : cK pr1 h0 h0 := cK.refl hJ
  have rw : (0 : Int) ≤ h0 1 0 ∧ h0 1 0 ≤ 6 := hI.1.1 1 0
  refine sx_iconst dX11_commonest_0 ⟨by decide, by decide⟩ ?_
  refine sx_istore_n dX11_commonest_1 (by decide) ?_
  refine sx_iconst dX11_commonest_2 ⟨by decide, by decide⟩ ?_
  refine sx_istore_n dX11_commonest_3 (by decide) ?_
  refine sx_iconst dX11_commonest_4 ⟨by decide, by decide⟩ ?_
  refine sx_istore_n dX11_commonest_5 (by decide) ?_
  refine sx_loop3 (fun (h : sw_H) (a : Int) (b : Int) (i : Int) => (cK pr1 h0 h) ∧ (h 0 1 = h0 0 1) ∧ (0 ≤ i)) (fun (h : sw_H) (a : Int) (b : Int) (i : Int) => (15 - i).toNat) (fun (h : sw_H) (a : Int) (b : Int) (i : Int) => sw_E G NH SH (d + 1) mX11_commonest 6 [some (sw_r 0), some (sw_i a), some (sw_i b), some (sw_i i), none] [] h (sw_Qi (fun z h' => cK pr1 h0 h'))) ?_ _ _ _ _ ?_
  · rintro h1 a_2 b_3 i_4 ⟨Ih1, j5, j6⟩ ihh1
    try dsimp only at ihh1
    refine sx_iload_n dX11_commonest_6 rfl ?_
    refine sx_bipush dX11_commonest_7 ⟨by decide, by decide, by decide⟩ ?_
    refine sx_icmp_ge (tgt := 39) dX11_commonest_9 (by decide) (fun c7 => ?_) (fun c7 => ?_)
    ·
      refine sx_iload_n dX11_commonest_39 rfl ?_
      refine sx_ireturn dX11_commonest_40 ?_
      exact ⟨_, rfl, Ih1⟩
    ·
      refine sx_aload_n dX11_commonest_12 rfl ?_
      refine sx_getR (k := 1) (t := 1) cl_11 fl_X11_10 dX11_commonest_13 s_0 (by decide) rfl (by decide) (by omega) ?_
      refine sx_iload_n dX11_commonest_16 rfl ?_
      refine sx_callVi lk_X11_270 cl_0 s_1 (by decide) dX11_commonest_17 (vs := [_]) rfl rfl (Nat.le_of_ble_eq_true rfl) (Nat.le_of_ble_eq_true rfl) rfl (c_X0_countOf_1 _ Ih1.1 _) (fun x9 h8 ph8 => ?_)
      subst ph8
      refine sx_istore dX11_commonest_20 (by decide) ?_
      refine sx_iload dX11_commonest_22 rfl ?_
      refine sx_iload_n dX11_commonest_24 rfl ?_
      refine sx_icmp_le (tgt := 33) dX11_commonest_25 (by decide) (fun c10 => ?_) (fun c10 => ?_)
      ·
        refine sx_iinc dX11_commonest_33 (by decide) rfl ?_
        rw [sw_w_id (by omega) (by omega)]
        refine sx_goto (tgt := 6) dX11_commonest_36 (by decide) ?_
        refine sx_kill 4 ?_
        exact ihh1 _ _ _ _ ⟨Ih1, by omega, by omega⟩ (by exact sy_dec (by omega) (by omega))
      ·
        refine sx_iload dX11_commonest_28 rfl ?_
        refine sx_istore_n dX11_commonest_30 (by decide) ?_
        refine sx_iload_n dX11_commonest_31 rfl ?_
        refine sx_istore_n dX11_commonest_32 (by decide) ?_
        refine sx_iinc dX11_commonest_33 (by decide) rfl ?_
        rw [sw_w_id (by omega) (by omega)]
        refine sx_goto (tgt := 6) dX11_commonest_36 (by decide) ?_
        refine sx_kill 4 ?_
        exact ihh1 _ _ _ _ ⟨Ih1, by omega, by omega⟩ (by exact sy_dec (by omega) (by omega))
  · exact ⟨hI, by omega, by omega⟩
set_option maxRecDepth 20000 in
set_option maxHeartbeats 4000000 in
theorem c_X11_commonest_13 {G : sw_G} (d : Nat) {h0 : sw_H} (hJ : cJ h0) (hc : h0 0 1 = 13 ∧ h0 0 2 = 1)  : sw_E G NH SH (d + 1) mX11_commonest 0 [some (sw_r 0), none, none, none, none] [] h0 (sw_Qi (fun z h' => cK pr1 h0 h')) := by
  have hI : cK pr1 h0 h0 := cK.refl hJ
  have rw : (0 : Int) ≤ h0 13 0 ∧ h0 13 0 ≤ 6 := hI.1.1 13 0
  refine sx_iconst dX11_commonest_0 ⟨by decide, by decide⟩ ?_
  refine sx_istore_n dX11_commonest_1 (by decide) ?_
  refine sx_iconst dX11_commonest_2 ⟨by decide, by decide⟩ ?_
  refine sx_istore_n dX11_commonest_3 (by decide) ?_
  refine sx_iconst dX11_commonest_4 ⟨by decide, by decide⟩ ?_
  refine sx_istore_n dX11_commonest_5 (by decide) ?_
  refine sx_loop3 (fun (h : sw_H) (a : Int) (b : Int) (i : Int) => (cK pr1 h0 h) ∧ (h 0 1 = h0 0 1) ∧ (0 ≤ i)) (fun (h : sw_H) (a : Int) (b : Int) (i : Int) => (15 - i).toNat) (fun (h : sw_H) (a : Int) (b : Int) (i : Int) => sw_E G NH SH (d + 1) mX11_commonest 6 [some (sw_r 0), some (sw_i a), some (sw_i b), some (sw_i i), none] [] h (sw_Qi (fun z h' => cK pr1 h0 h'))) ?_ _ _ _ _ ?_
  · rintro h1 a_2 b_3 i_4 ⟨Ih1, j5, j6⟩ ihh1
    try dsimp only at ihh1
    refine sx_iload_n dX11_commonest_6 rfl ?_
    refine sx_bipush dX11_commonest_7 ⟨by decide, by decide, by decide⟩ ?_
    refine sx_icmp_ge (tgt := 39) dX11_commonest_9 (by decide) (fun c7 => ?_) (fun c7 => ?_)
    ·
      refine sx_iload_n dX11_commonest_39 rfl ?_
      refine sx_ireturn dX11_commonest_40 ?_
      exact ⟨_, rfl, Ih1⟩
    ·
      refine sx_aload_n dX11_commonest_12 rfl ?_
      refine sx_getR (k := 1) (t := 13) cl_11 fl_X11_10 dX11_commonest_13 s_0 (by decide) rfl (by decide) (by omega) ?_
      refine sx_iload_n dX11_commonest_16 rfl ?_
      refine sx_callVi lk_X11_270 cl_0 s_13 (by decide) dX11_commonest_17 (vs := [_]) rfl rfl (Nat.le_of_ble_eq_true rfl) (Nat.le_of_ble_eq_true rfl) rfl (c_X0_countOf_13 _ Ih1.1 _) (fun x9 h8 ph8 => ?_)
      subst ph8
      refine sx_istore dX11_commonest_20 (by decide) ?_
      refine sx_iload dX11_commonest_22 rfl ?_
      refine sx_iload_n dX11_commonest_24 rfl ?_
      refine sx_icmp_le (tgt := 33) dX11_commonest_25 (by decide) (fun c10 => ?_) (fun c10 => ?_)
      ·
        refine sx_iinc dX11_commonest_33 (by decide) rfl ?_
        rw [sw_w_id (by omega) (by omega)]
        refine sx_goto (tgt := 6) dX11_commonest_36 (by decide) ?_
        refine sx_kill 4 ?_
        exact ihh1 _ _ _ _ ⟨Ih1, by omega, by omega⟩ (by exact sy_dec (by omega) (by omega))
      ·
        refine sx_iload dX11_commonest_28 rfl ?_
        refine sx_istore_n dX11_commonest_30 (by decide) ?_
        refine sx_iload_n dX11_commonest_31 rfl ?_
        refine sx_istore_n dX11_commonest_32 (by decide) ?_
        refine sx_iinc dX11_commonest_33 (by decide) rfl ?_
        rw [sw_w_id (by omega) (by omega)]
        refine sx_goto (tgt := 6) dX11_commonest_36 (by decide) ?_
        refine sx_kill 4 ?_
        exact ihh1 _ _ _ _ ⟨Ih1, by omega, by omega⟩ (by exact sy_dec (by omega) (by omega))
  · exact ⟨hI, by omega, by omega⟩
theorem c_X11_commonest {G : sw_G} (d : Nat) {h0 : sw_H} (hJ : cJ h0)  : sw_E G NH SH (d + 1) mX11_commonest 0 [some (sw_r 0), none, none, none, none] [] h0 (sw_Qi (fun z h' => cK pr1 h0 h')) := by
  rcases (show (h0 0 1 = 1 ∧ h0 0 2 = 13) ∨ (h0 0 1 = 13 ∧ h0 0 2 = 1) from hJ.2 4 (by decide)) with q | q
  · exact c_X11_commonest_1 d hJ q  
  · exact c_X11_commonest_13 d hJ q  
set_option maxRecDepth 20000 in
set_option maxHeartbeats 4000000 in
theorem c_X11_height_1 {G : sw_G} (d : Nat) {h0 : sw_H} (hJ : cJ h0) (hc : h0 0 1 = 1 ∧ h0 0 2 = 13) (y1 y2 : Int)  : sw_E G NH SH (d + 2) mX11_height 0 [some (sw_r 0), some (sw_i y1), some (sw_i y2)] [] h0 (sw_Qi (fun z h' => cK pr1 h0 h')) := by
  have hI : cK pr1 h0 h0 := cK.refl hJ
  have rw : (0 : Int) ≤ h0 1 0 ∧ h0 1 0 ≤ 6 := hI.1.1 1 0
  have ri : ∀ k, (0 : Int) ≤ h0 6 k ∧ h0 6 k ≤ 60 := fun k => hI.1.1 6 k
  have ri1 := ri (y1 + 1).toNat
  have ri0 := ri y1.toNat
  refine sx_aload_n dX11_height_0 rfl ?_
  refine sx_getR (k := 1) (t := 1) cl_11 fl_X11_10 dX11_height_1 s_0 (by decide) rfl (by decide) (by omega) ?_
  refine sx_iload_n dX11_height_4 rfl ?_
  refine sx_iload_n dX11_height_5 rfl ?_
  refine sx_callVz lk_X11_153 cl_0 s_1 (by decide) dX11_height_6 (vs := [_, _]) rfl rfl (Nat.le_of_ble_eq_true rfl) (Nat.le_of_ble_eq_true rfl) rfl (c_X0_hasItem_1 _ hI.1 _ _) (fun x2 h1 zx2 ph1 => ?_)
  obtain ⟨rfl, w_x2⟩ := ph1
  refine sx_if_eq (tgt := 34) dX11_height_9 (by decide) (fun c3 => ?_) (fun c3 => ?_)
  ·
    refine sx_bipush dX11_height_34 ⟨by decide, by decide, by decide⟩ ?_
    refine sx_ireturn dX11_height_36 ?_
    exact ⟨_, rfl, hI⟩
  ·
    refine sx_aload_n dX11_height_12 rfl ?_
    refine sx_getR (k := 1) (t := 1) cl_11 fl_X11_10 dX11_height_13 s_0 (by decide) rfl (by decide) (by omega) ?_
    refine sx_getS (k := 8) (t := 5) cl_0 fl_X11_273 dX11_height_16 s_1 (by decide) rfl (by decide) ?_
    refine sx_aload_n dX11_height_19 rfl ?_
    refine sx_getR (k := 1) (t := 1) cl_11 fl_X11_10 dX11_height_20 s_0 (by decide) rfl (by decide) (by omega) ?_
    refine sx_getS (k := 9) (t := 6) cl_0 fl_X11_128 dX11_height_23 s_1 (by decide) rfl (by decide) ?_
    refine sx_iload_n dX11_height_26 rfl ?_
    refine sy_iaF (F := fun z => (0 : Int) ≤ z ∧ z ≤ 60) dX11_height_27 s_6 (by decide) (by decide) ⟨by omega, by omega⟩ (hI.1.1 6 _) (fun r4 => ?_)
    refine sx_iload_n dX11_height_28 rfl ?_
    refine sx_iadd dX11_height_29 ?_
    refine sy_topw (by omega) ?_
    refine sx_iaload dX11_height_30 s_5 (by decide) (by decide) ⟨by omega, by omega⟩ ?_
    refine sx_goto (tgt := 36) dX11_height_31 (by decide) ?_
    refine sx_ireturn dX11_height_36 ?_
    exact ⟨_, rfl, hI⟩
set_option maxRecDepth 20000 in
set_option maxHeartbeats 4000000 in
theorem c_X11_height_13 {G : sw_G} (d : Nat) {h0 : sw_H} (hJ : cJ h0) (hc : h0 0 1 = 13 ∧ h0 0 2 = 1) (y1 y2 : Int)  : sw_E G NH SH (d + 2) mX11_height 0 [some (sw_r 0), some (sw_i y1), some (sw_i y2)] [] h0 (sw_Qi (fun z h' => cK pr1 h0 h')) := by
  have hI : cK pr1 h0 h0 := cK.refl hJ
  have rw : (0 : Int) ≤ h0 13 0 ∧ h0 13 0 ≤ 6 := hI.1.1 13 0
  have ri : ∀ k, (0 : Int) ≤ h0 18 k ∧ h0 18 k ≤ 60 := fun k => hI.1.1 18 k
  have ri1 := ri (y1 + 1).toNat
  have ri0 := ri y1.toNat
  refine sx_aload_n dX11_height_0 rfl ?_
  refine sx_getR (k := 1) (t := 13) cl_11 fl_X11_10 dX11_height_1 s_0 (by decide) rfl (by decide) (by omega) ?_
  refine sx_iload_n dX11_height_4 rfl ?_
  refine sx_iload_n dX11_height_5 rfl ?_
  refine sx_callVz lk_X11_153 cl_0 s_13 (by decide) dX11_height_6 (vs := [_, _]) rfl rfl (Nat.le_of_ble_eq_true rfl) (Nat.le_of_ble_eq_true rfl) rfl (c_X0_hasItem_13 _ hI.1 _ _) (fun x2 h1 zx2 ph1 => ?_)
  obtain ⟨rfl, w_x2⟩ := ph1
  refine sx_if_eq (tgt := 34) dX11_height_9 (by decide) (fun c3 => ?_) (fun c3 => ?_)
  ·
    refine sx_bipush dX11_height_34 ⟨by decide, by decide, by decide⟩ ?_
    refine sx_ireturn dX11_height_36 ?_
    exact ⟨_, rfl, hI⟩
  ·
    refine sx_aload_n dX11_height_12 rfl ?_
    refine sx_getR (k := 1) (t := 13) cl_11 fl_X11_10 dX11_height_13 s_0 (by decide) rfl (by decide) (by omega) ?_
    refine sx_getS (k := 8) (t := 17) cl_0 fl_X11_273 dX11_height_16 s_13 (by decide) rfl (by decide) ?_
    refine sx_aload_n dX11_height_19 rfl ?_
    refine sx_getR (k := 1) (t := 13) cl_11 fl_X11_10 dX11_height_20 s_0 (by decide) rfl (by decide) (by omega) ?_
    refine sx_getS (k := 9) (t := 18) cl_0 fl_X11_128 dX11_height_23 s_13 (by decide) rfl (by decide) ?_
    refine sx_iload_n dX11_height_26 rfl ?_
    refine sy_iaF (F := fun z => (0 : Int) ≤ z ∧ z ≤ 60) dX11_height_27 s_18 (by decide) (by decide) ⟨by omega, by omega⟩ (hI.1.1 18 _) (fun r4 => ?_)
    refine sx_iload_n dX11_height_28 rfl ?_
    refine sx_iadd dX11_height_29 ?_
    refine sy_topw (by omega) ?_
    refine sx_iaload dX11_height_30 s_17 (by decide) (by decide) ⟨by omega, by omega⟩ ?_
    refine sx_goto (tgt := 36) dX11_height_31 (by decide) ?_
    refine sx_ireturn dX11_height_36 ?_
    exact ⟨_, rfl, hI⟩
theorem c_X11_height {G : sw_G} (d : Nat) {h0 : sw_H} (hJ : cJ h0) (y1 y2 : Int)  : sw_E G NH SH (d + 2) mX11_height 0 [some (sw_r 0), some (sw_i y1), some (sw_i y2)] [] h0 (sw_Qi (fun z h' => cK pr1 h0 h')) := by
  rcases (show (h0 0 1 = 1 ∧ h0 0 2 = 13) ∨ (h0 0 1 = 13 ∧ h0 0 2 = 1) from hJ.2 4 (by decide)) with q | q
  · exact c_X11_height_1 d hJ q y1 y2 
  · exact c_X11_height_13 d hJ q y1 y2 
set_option maxRecDepth 20000 in
set_option maxHeartbeats 4000000 in
theorem c_X11_pure_1 {G : sw_G} (d : Nat) {h0 : sw_H} (hJ : cJ h0) (hc : h0 0 1 = 1 ∧ h0 0 2 = 13)  : sw_E G NH SH (d + 2) mX11_pure 0 [some (sw_r 0), none, none] [] h0 (sw_Qi (fun z h' => cK pr1 h0 h')) := by
  have hI : cK pr1 h0 h0 := cK.refl hJ
  have rw : (0 : Int) ≤ h0 1 0 ∧ h0 1 0 ≤ 6 := hI.1.1 1 0
  refine sx_iconst dX11_pure_0 ⟨by decide, by decide⟩ ?_
  refine sx_istore_n dX11_pure_1 (by decide) ?_
  refine sx_iconst dX11_pure_2 ⟨by decide, by decide⟩ ?_
  refine sx_istore_n dX11_pure_3 (by decide) ?_
  refine sx_loop2 (fun (h : sw_H) (b : Int) (i : Int) => (cK pr1 h0 h) ∧ (h 0 1 = h0 0 1) ∧ (0 ≤ i)) (fun (h : sw_H) (b : Int) (i : Int) => (6 - i).toNat) (fun (h : sw_H) (b : Int) (i : Int) => sw_E G NH SH (d + 2) mX11_pure 4 [some (sw_r 0), some (sw_i b), some (sw_i i)] [] h (sw_Qi (fun z h' => cK pr1 h0 h'))) ?_ _ _ _ ?_
  · rintro h1 b_2 i_3 ⟨Ih1, j4, j5⟩ ihh1
    try dsimp only at ihh1
    refine sx_iload_n dX11_pure_4 rfl ?_
    refine sx_aload_n dX11_pure_5 rfl ?_
    refine sx_getR (k := 1) (t := 1) cl_11 fl_X11_10 dX11_pure_6 s_0 (by decide) rfl (by decide) (by omega) ?_
    refine sx_getI (k := 0) cl_0 fl_X11_121 dX11_pure_9 s_1 (by decide) rfl (by decide) ?_
    have r6 : (0 : Int) ≤ h1 1 0 ∧ h1 1 0 ≤ 6 := Ih1.1.1 1 0
    refine sx_icmp_ge (tgt := 38) dX11_pure_12 (by decide) (fun c7 => ?_) (fun c7 => ?_)
    ·
      refine sx_iload_n dX11_pure_38 rfl ?_
      refine sx_ireturn dX11_pure_39 ?_
      exact ⟨_, rfl, Ih1⟩
    ·
      refine sx_aload_n dX11_pure_15 rfl ?_
      refine sx_getR (k := 1) (t := 1) cl_11 fl_X11_10 dX11_pure_16 s_0 (by decide) rfl (by decide) (by omega) ?_
      refine sx_iload_n dX11_pure_19 rfl ?_
      refine sx_callVz lk_X11_276 cl_0 s_1 (by decide) dX11_pure_20 (vs := [_]) rfl rfl (Nat.le_of_ble_eq_true rfl) (Nat.le_of_ble_eq_true rfl) rfl (c_X0_isPure_1 _ Ih1.1 _ (by first | omega | (rw [Int.tmod_eq_emod_of_nonneg (by omega)]; omega) | (rw [Int.tdiv_eq_ediv_of_nonneg (by omega)]; omega))) (fun x9 h8 zx9 ph8 => ?_)
      subst ph8
      refine sx_if_eq (tgt := 32) dX11_pure_23 (by decide) (fun c10 => ?_) (fun c10 => ?_)
      ·
        refine sx_iinc dX11_pure_32 (by decide) rfl ?_
        rw [sw_w_id (by omega) (by omega)]
        refine sx_goto (tgt := 4) dX11_pure_35 (by decide) ?_
        exact ihh1 _ _ _ ⟨Ih1, by omega, by omega⟩ (by exact sy_dec (by omega) (by omega))
      ·
        refine sx_iload_n dX11_pure_26 rfl ?_
        refine sx_iconst dX11_pure_27 ⟨by decide, by decide⟩ ?_
        refine sx_iload_n dX11_pure_28 rfl ?_
        refine sx_ishl dX11_pure_29 ?_
        refine sx_ior dX11_pure_30 ?_
        refine sy_top (fun v11 ev11 => ?_)
        refine sx_istore_n dX11_pure_31 (by decide) ?_
        refine sx_iinc dX11_pure_32 (by decide) rfl ?_
        rw [sw_w_id (by omega) (by omega)]
        refine sx_goto (tgt := 4) dX11_pure_35 (by decide) ?_
        exact ihh1 _ _ _ ⟨Ih1, by omega, by omega⟩ (by exact sy_dec (by omega) (by omega))
  · exact ⟨hI, by omega, by omega⟩
set_option maxRecDepth 20000 in
set_option maxHeartbeats 4000000 in
theorem c_X11_pure_13 {G : sw_G} (d : Nat) {h0 : sw_H} (hJ : cJ h0) (hc : h0 0 1 = 13 ∧ h0 0 2 = 1)  : sw_E G NH SH (d + 2) mX11_pure 0 [some (sw_r 0), none, none] [] h0 (sw_Qi (fun z h' => cK pr1 h0 h')) := by
  have hI : cK pr1 h0 h0 := cK.refl hJ
  have rw : (0 : Int) ≤ h0 13 0 ∧ h0 13 0 ≤ 6 := hI.1.1 13 0
  refine sx_iconst dX11_pure_0 ⟨by decide, by decide⟩ ?_
  refine sx_istore_n dX11_pure_1 (by decide) ?_
  refine sx_iconst dX11_pure_2 ⟨by decide, by decide⟩ ?_
  refine sx_istore_n dX11_pure_3 (by decide) ?_
  refine sx_loop2 (fun (h : sw_H) (b : Int) (i : Int) => (cK pr1 h0 h) ∧ (h 0 1 = h0 0 1) ∧ (0 ≤ i)) (fun (h : sw_H) (b : Int) (i : Int) => (6 - i).toNat) (fun (h : sw_H) (b : Int) (i : Int) => sw_E G NH SH (d + 2) mX11_pure 4 [some (sw_r 0), some (sw_i b), some (sw_i i)] [] h (sw_Qi (fun z h' => cK pr1 h0 h'))) ?_ _ _ _ ?_
  · rintro h1 b_2 i_3 ⟨Ih1, j4, j5⟩ ihh1
    try dsimp only at ihh1
    refine sx_iload_n dX11_pure_4 rfl ?_
    refine sx_aload_n dX11_pure_5 rfl ?_
    refine sx_getR (k := 1) (t := 13) cl_11 fl_X11_10 dX11_pure_6 s_0 (by decide) rfl (by decide) (by omega) ?_
    refine sx_getI (k := 0) cl_0 fl_X11_121 dX11_pure_9 s_13 (by decide) rfl (by decide) ?_
    have r6 : (0 : Int) ≤ h1 13 0 ∧ h1 13 0 ≤ 6 := Ih1.1.1 13 0
    refine sx_icmp_ge (tgt := 38) dX11_pure_12 (by decide) (fun c7 => ?_) (fun c7 => ?_)
    ·
      refine sx_iload_n dX11_pure_38 rfl ?_
      refine sx_ireturn dX11_pure_39 ?_
      exact ⟨_, rfl, Ih1⟩
    ·
      refine sx_aload_n dX11_pure_15 rfl ?_
      refine sx_getR (k := 1) (t := 13) cl_11 fl_X11_10 dX11_pure_16 s_0 (by decide) rfl (by decide) (by omega) ?_
      refine sx_iload_n dX11_pure_19 rfl ?_
      refine sx_callVz lk_X11_276 cl_0 s_13 (by decide) dX11_pure_20 (vs := [_]) rfl rfl (Nat.le_of_ble_eq_true rfl) (Nat.le_of_ble_eq_true rfl) rfl (c_X0_isPure_13 _ Ih1.1 _ (by first | omega | (rw [Int.tmod_eq_emod_of_nonneg (by omega)]; omega) | (rw [Int.tdiv_eq_ediv_of_nonneg (by omega)]; omega))) (fun x9 h8 zx9 ph8 => ?_)
      subst ph8
      refine sx_if_eq (tgt := 32) dX11_pure_23 (by decide) (fun c10 => ?_) (fun c10 => ?_)
      ·
        refine sx_iinc dX11_pure_32 (by decide) rfl ?_
        rw [sw_w_id (by omega) (by omega)]
        refine sx_goto (tgt := 4) dX11_pure_35 (by decide) ?_
        exact ihh1 _ _ _ ⟨Ih1, by omega, by omega⟩ (by exact sy_dec (by omega) (by omega))
      ·
        refine sx_iload_n dX11_pure_26 rfl ?_
        refine sx_iconst dX11_pure_27 ⟨by decide, by decide⟩ ?_
        refine sx_iload_n dX11_pure_28 rfl ?_
        refine sx_ishl dX11_pure_29 ?_
        refine sx_ior dX11_pure_30 ?_
        refine sy_top (fun v11 ev11 => ?_)
        refine sx_istore_n dX11_pure_31 (by decide) ?_
        refine sx_iinc dX11_pure_32 (by decide) rfl ?_
        rw [sw_w_id (by omega) (by omega)]
        refine sx_goto (tgt := 4) dX11_pure_35 (by decide) ?_
        exact ihh1 _ _ _ ⟨Ih1, by omega, by omega⟩ (by exact sy_dec (by omega) (by omega))
  · exact ⟨hI, by omega, by omega⟩
theorem c_X11_pure {G : sw_G} (d : Nat) {h0 : sw_H} (hJ : cJ h0)  : sw_E G NH SH (d + 2) mX11_pure 0 [some (sw_r 0), none, none] [] h0 (sw_Qi (fun z h' => cK pr1 h0 h')) := by
  rcases (show (h0 0 1 = 1 ∧ h0 0 2 = 13) ∨ (h0 0 1 = 13 ∧ h0 0 2 = 1) from hJ.2 4 (by decide)) with q | q
  · exact c_X11_pure_1 d hJ q  
  · exact c_X11_pure_13 d hJ q  
set_option maxRecDepth 20000 in
set_option maxHeartbeats 4000000 in
theorem c_X11_law_1 {G : sw_G} (d : Nat) {h0 : sw_H} (hJ : cJ h0) (hc : h0 0 1 = 1 ∧ h0 0 2 = 13) (y1 : Int)  : sw_E G NH SH (d + 3) mX11_law 0 [some (sw_r 0), some (sw_i y1)] [] h0 (sw_Qi (fun z h' => cK pr1 h0 h')) := by
  have hI : cK pr1 h0 h0 := cK.refl hJ
  have rw : (0 : Int) ≤ h0 1 0 ∧ h0 1 0 ≤ 6 := hI.1.1 1 0
  refine sx_aload_n dX11_law_0 rfl ?_
  refine sx_getR (k := 1) (t := 1) cl_11 fl_X11_10 dX11_law_1 s_0 (by decide) rfl (by decide) (by omega) ?_
  refine sx_getI (k := 0) cl_0 fl_X11_121 dX11_law_4 s_1 (by decide) rfl (by decide) ?_
  have r1 : (0 : Int) ≤ h0 1 0 ∧ h0 1 0 ≤ 6 := hI.1.1 1 0
  refine sx_if_eq (tgt := 20) dX11_law_7 (by decide) (fun c2 => ?_) (fun c2 => ?_)
  ·
    refine sx_iconst dX11_law_20 ⟨by decide, by decide⟩ ?_
    refine sx_ireturn dX11_law_21 ?_
    exact ⟨_, rfl, hI⟩
  ·
    refine sx_iload_n dX11_law_10 rfl ?_
    refine sx_if_lt (tgt := 20) dX11_law_11 (by decide) (fun c3 => ?_) (fun c3 => ?_)
    ·
      refine sx_iconst dX11_law_20 ⟨by decide, by decide⟩ ?_
      refine sx_ireturn dX11_law_21 ?_
      exact ⟨_, rfl, hI⟩
    ·
      refine sx_iload_n dX11_law_14 rfl ?_
      refine sx_bipush dX11_law_15 ⟨by decide, by decide, by decide⟩ ?_
      refine sx_icmp_le (tgt := 22) dX11_law_17 (by decide) (fun c4 => ?_) (fun c4 => ?_)
      ·
        refine sx_aload_n dX11_law_22 rfl ?_
        refine sx_getS (k := 9) (t := 177) cl_11 fl_X11_54 dX11_law_23 s_0 (by decide) rfl (by decide) ?_
        refine sx_iload_n dX11_law_26 rfl ?_
        refine sx_callVv lk_X11_279 cl_1 s_177 (by decide) dX11_law_27 (vs := [_]) rfl rfl (Nat.le_of_ble_eq_true rfl) (Nat.le_of_ble_eq_true rfl) rfl (c_X1_priceAlike _ hI.1 _) (fun h5 ph5 => ?_)
        have Kh5 := ph5
        have Ih5 := hI.tr Kh5 sb_pr1_prK
        have th5_0_1 := Kh5.2 (0) 1 rfl
        have th5_0_2 := Kh5.2 (0) 2 rfl
        have th5_1_0 := Kh5.2 (1) 0 rfl
        refine sx_aload_n dX11_law_30 rfl ?_
        refine sx_getS (k := 9) (t := 177) cl_11 fl_X11_54 dX11_law_31 s_0 (by decide) rfl (by decide) ?_
        refine sx_aload_n dX11_law_34 rfl ?_
        refine sx_getR (k := 1) (t := 1) cl_11 fl_X11_10 dX11_law_35 s_0 (by decide) rfl (by decide) (by omega) ?_
        refine sx_aload_n dX11_law_38 rfl ?_
        refine sx_getS (k := 5) (t := 48) cl_11 fl_X11_36 dX11_law_39 s_0 (by decide) rfl (by decide) ?_
        refine sx_callVr lk_X11_147 cl_9 s_48 (by decide) dX11_law_42 (vs := []) rfl rfl (Nat.le_of_ble_eq_true rfl) (Nat.le_of_ble_eq_true rfl) ⟨_, rfl⟩ (c_X9_state _ Ih5.1) (fun x8 h7 ph7 => ?_)
        obtain ⟨Kh7, m_h7⟩ := ph7
        have Ih7 := Ih5.tr Kh7 sb_pr1_prL
        have th7_0_1 := Kh7.2 (0) 1 rfl
        have th7_0_2 := Kh7.2 (0) 2 rfl
        have th7_1_0 := Kh7.2 (1) 0 rfl
        have hx8m := m_h7
        obtain ⟨Sx80, Sx81, Sx82, bx8⟩ := s_St x8 hx8m
        have Bx80 : x8 < NH := show x8 < 290 by omega
        have Bx81 : x8 + 1 < NH := show x8 + 1 < 290 by omega
        have Bx82 : x8 + 2 < NH := show x8 + 2 < 290 by omega
        refine sx_getI (k := 4) cl_8 fl_X11_150 dX11_law_45 Sx80 Bx80 rfl (by decide) ?_
        refine sx_aload_n dX11_law_48 rfl ?_
        refine sx_getR (k := 1) (t := 1) cl_11 fl_X11_10 dX11_law_49 s_0 (by decide) rfl (by decide) (by omega) ?_
        refine sx_getI (k := 0) cl_0 fl_X11_121 dX11_law_52 s_1 (by decide) rfl (by decide) ?_
        have r9 : (0 : Int) ≤ h7 1 0 ∧ h7 1 0 ≤ 6 := Ih7.1.1 1 0
        refine sx_iconst dX11_law_55 ⟨by decide, by decide⟩ ?_
        refine sx_isub dX11_law_56 ?_
        refine sy_topw (by omega) ?_
        refine sx_callVi lk_X11_248 cl_1 s_177 (by decide) dX11_law_57 (vs := [_, _, _]) rfl rfl (Nat.le_of_ble_eq_true rfl) (Nat.le_of_ble_eq_true rfl) rfl (c_X1_timeOf_1 _ Ih7.1 _ _ (by omega)) (fun x11 h10 ph10 => ?_)
        have Kh10 := ph10
        have Ih10 := Ih7.tr Kh10 sb_pr1_prK
        have th10_0_1 := Kh10.2 (0) 1 rfl
        have th10_0_2 := Kh10.2 (0) 2 rfl
        have th10_1_0 := Kh10.2 (1) 0 rfl
        refine sx_ireturn dX11_law_60 ?_
        exact ⟨_, rfl, Ih10⟩
      ·
        refine sx_iconst dX11_law_20 ⟨by decide, by decide⟩ ?_
        refine sx_ireturn dX11_law_21 ?_
        exact ⟨_, rfl, hI⟩
set_option maxRecDepth 20000 in
set_option maxHeartbeats 4000000 in
theorem c_X11_law_13 {G : sw_G} (d : Nat) {h0 : sw_H} (hJ : cJ h0) (hc : h0 0 1 = 13 ∧ h0 0 2 = 1) (y1 : Int)  : sw_E G NH SH (d + 3) mX11_law 0 [some (sw_r 0), some (sw_i y1)] [] h0 (sw_Qi (fun z h' => cK pr1 h0 h')) := by
  have hI : cK pr1 h0 h0 := cK.refl hJ
  have rw : (0 : Int) ≤ h0 13 0 ∧ h0 13 0 ≤ 6 := hI.1.1 13 0
  refine sx_aload_n dX11_law_0 rfl ?_
  refine sx_getR (k := 1) (t := 13) cl_11 fl_X11_10 dX11_law_1 s_0 (by decide) rfl (by decide) (by omega) ?_
  refine sx_getI (k := 0) cl_0 fl_X11_121 dX11_law_4 s_13 (by decide) rfl (by decide) ?_
  have r1 : (0 : Int) ≤ h0 13 0 ∧ h0 13 0 ≤ 6 := hI.1.1 13 0
  refine sx_if_eq (tgt := 20) dX11_law_7 (by decide) (fun c2 => ?_) (fun c2 => ?_)
  ·
    refine sx_iconst dX11_law_20 ⟨by decide, by decide⟩ ?_
    refine sx_ireturn dX11_law_21 ?_
    exact ⟨_, rfl, hI⟩
  ·
    refine sx_iload_n dX11_law_10 rfl ?_
    refine sx_if_lt (tgt := 20) dX11_law_11 (by decide) (fun c3 => ?_) (fun c3 => ?_)
    ·
      refine sx_iconst dX11_law_20 ⟨by decide, by decide⟩ ?_
      refine sx_ireturn dX11_law_21 ?_
      exact ⟨_, rfl, hI⟩
    ·
      refine sx_iload_n dX11_law_14 rfl ?_
      refine sx_bipush dX11_law_15 ⟨by decide, by decide, by decide⟩ ?_
      refine sx_icmp_le (tgt := 22) dX11_law_17 (by decide) (fun c4 => ?_) (fun c4 => ?_)
      ·
        refine sx_aload_n dX11_law_22 rfl ?_
        refine sx_getS (k := 9) (t := 177) cl_11 fl_X11_54 dX11_law_23 s_0 (by decide) rfl (by decide) ?_
        refine sx_iload_n dX11_law_26 rfl ?_
        refine sx_callVv lk_X11_279 cl_1 s_177 (by decide) dX11_law_27 (vs := [_]) rfl rfl (Nat.le_of_ble_eq_true rfl) (Nat.le_of_ble_eq_true rfl) rfl (c_X1_priceAlike _ hI.1 _) (fun h5 ph5 => ?_)
        have Kh5 := ph5
        have Ih5 := hI.tr Kh5 sb_pr1_prK
        have th5_0_1 := Kh5.2 (0) 1 rfl
        have th5_0_2 := Kh5.2 (0) 2 rfl
        have th5_13_0 := Kh5.2 (13) 0 rfl
        refine sx_aload_n dX11_law_30 rfl ?_
        refine sx_getS (k := 9) (t := 177) cl_11 fl_X11_54 dX11_law_31 s_0 (by decide) rfl (by decide) ?_
        refine sx_aload_n dX11_law_34 rfl ?_
        refine sx_getR (k := 1) (t := 13) cl_11 fl_X11_10 dX11_law_35 s_0 (by decide) rfl (by decide) (by omega) ?_
        refine sx_aload_n dX11_law_38 rfl ?_
        refine sx_getS (k := 5) (t := 48) cl_11 fl_X11_36 dX11_law_39 s_0 (by decide) rfl (by decide) ?_
        refine sx_callVr lk_X11_147 cl_9 s_48 (by decide) dX11_law_42 (vs := []) rfl rfl (Nat.le_of_ble_eq_true rfl) (Nat.le_of_ble_eq_true rfl) ⟨_, rfl⟩ (c_X9_state _ Ih5.1) (fun x8 h7 ph7 => ?_)
        obtain ⟨Kh7, m_h7⟩ := ph7
        have Ih7 := Ih5.tr Kh7 sb_pr1_prL
        have th7_0_1 := Kh7.2 (0) 1 rfl
        have th7_0_2 := Kh7.2 (0) 2 rfl
        have th7_13_0 := Kh7.2 (13) 0 rfl
        have hx8m := m_h7
        obtain ⟨Sx80, Sx81, Sx82, bx8⟩ := s_St x8 hx8m
        have Bx80 : x8 < NH := show x8 < 290 by omega
        have Bx81 : x8 + 1 < NH := show x8 + 1 < 290 by omega
        have Bx82 : x8 + 2 < NH := show x8 + 2 < 290 by omega
        refine sx_getI (k := 4) cl_8 fl_X11_150 dX11_law_45 Sx80 Bx80 rfl (by decide) ?_
        refine sx_aload_n dX11_law_48 rfl ?_
        refine sx_getR (k := 1) (t := 13) cl_11 fl_X11_10 dX11_law_49 s_0 (by decide) rfl (by decide) (by omega) ?_
        refine sx_getI (k := 0) cl_0 fl_X11_121 dX11_law_52 s_13 (by decide) rfl (by decide) ?_
        have r9 : (0 : Int) ≤ h7 13 0 ∧ h7 13 0 ≤ 6 := Ih7.1.1 13 0
        refine sx_iconst dX11_law_55 ⟨by decide, by decide⟩ ?_
        refine sx_isub dX11_law_56 ?_
        refine sy_topw (by omega) ?_
        refine sx_callVi lk_X11_248 cl_1 s_177 (by decide) dX11_law_57 (vs := [_, _, _]) rfl rfl (Nat.le_of_ble_eq_true rfl) (Nat.le_of_ble_eq_true rfl) rfl (c_X1_timeOf_13 _ Ih7.1 _ _ (by omega)) (fun x11 h10 ph10 => ?_)
        have Kh10 := ph10
        have Ih10 := Ih7.tr Kh10 sb_pr1_prK
        have th10_0_1 := Kh10.2 (0) 1 rfl
        have th10_0_2 := Kh10.2 (0) 2 rfl
        have th10_13_0 := Kh10.2 (13) 0 rfl
        refine sx_ireturn dX11_law_60 ?_
        exact ⟨_, rfl, Ih10⟩
      ·
        refine sx_iconst dX11_law_20 ⟨by decide, by decide⟩ ?_
        refine sx_ireturn dX11_law_21 ?_
        exact ⟨_, rfl, hI⟩
theorem c_X11_law {G : sw_G} (d : Nat) {h0 : sw_H} (hJ : cJ h0) (y1 : Int)  : sw_E G NH SH (d + 3) mX11_law 0 [some (sw_r 0), some (sw_i y1)] [] h0 (sw_Qi (fun z h' => cK pr1 h0 h')) := by
  rcases (show (h0 0 1 = 1 ∧ h0 0 2 = 13) ∨ (h0 0 1 = 13 ∧ h0 0 2 = 1) from hJ.2 4 (by decide)) with q | q
  · exact c_X11_law_1 d hJ q y1 
  · exact c_X11_law_13 d hJ q y1 
set_option maxRecDepth 20000 in
set_option maxHeartbeats 4000000 in
theorem c_X11_odds_1 {G : sw_G} (d : Nat) {h0 : sw_H} (hJ : cJ h0) (hc : h0 0 1 = 1 ∧ h0 0 2 = 13) (y1 y2 : Int)  : sw_E G NH SH (d + 2) mX11_odds 0 [some (sw_r 0), some (sw_i y1), some (sw_i y2), none, none, none, none] [] h0 (sw_Qi (fun z h' => cK pr1 h0 h')) := by
  have hI : cK pr1 h0 h0 := cK.refl hJ
  have rw : (0 : Int) ≤ h0 1 0 ∧ h0 1 0 ≤ 6 := hI.1.1 1 0
  refine sx_iload_n dX11_odds_0 rfl ?_
  refine sx_if_lt (tgt := 18) dX11_odds_1 (by decide) (fun c1 => ?_) (fun c1 => ?_)
  ·
    refine sx_iconst dX11_odds_18 ⟨by decide, by decide⟩ ?_
    refine sx_ireturn dX11_odds_19 ?_
    exact ⟨_, rfl, hI⟩
  ·
    refine sx_iload_n dX11_odds_4 rfl ?_
    refine sx_iconst dX11_odds_5 ⟨by decide, by decide⟩ ?_
    refine sx_icmp_gt (tgt := 18) dX11_odds_6 (by decide) (fun c2 => ?_) (fun c2 => ?_)
    ·
      refine sx_iconst dX11_odds_18 ⟨by decide, by decide⟩ ?_
      refine sx_ireturn dX11_odds_19 ?_
      exact ⟨_, rfl, hI⟩
    ·
      refine sx_iload_n dX11_odds_9 rfl ?_
      refine sx_if_lt (tgt := 18) dX11_odds_10 (by decide) (fun c3 => ?_) (fun c3 => ?_)
      ·
        refine sx_iconst dX11_odds_18 ⟨by decide, by decide⟩ ?_
        refine sx_ireturn dX11_odds_19 ?_
        exact ⟨_, rfl, hI⟩
      ·
        refine sx_iload_n dX11_odds_13 rfl ?_
        refine sx_iconst dX11_odds_14 ⟨by decide, by decide⟩ ?_
        refine sx_icmp_le (tgt := 20) dX11_odds_15 (by decide) (fun c4 => ?_) (fun c4 => ?_)
        ·
          refine sx_iload_n dX11_odds_20 rfl ?_
          refine sx_if_ne (tgt := 37) dX11_odds_21 (by decide) (fun c5 => ?_) (fun c5 => ?_)
          ·
            refine sx_bipush dX11_odds_37 ⟨by decide, by decide, by decide⟩ ?_
            refine sx_istore_n dX11_odds_39 (by decide) ?_
            refine sx_iload_n dX11_odds_40 rfl ?_
            refine sx_bipush dX11_odds_41 ⟨by decide, by decide, by decide⟩ ?_
            refine sx_bipush dX11_odds_43 ⟨by decide, by decide, by decide⟩ ?_
            refine sx_aload_n dX11_odds_45 rfl ?_
            refine sx_getR (k := 1) (t := 1) cl_11 fl_X11_10 dX11_odds_46 s_0 (by decide) rfl (by decide) (by omega) ?_
            refine sx_getI (k := 3) cl_0 fl_X11_187 dX11_odds_49 s_1 (by decide) rfl (by decide) ?_
            refine sx_isub dX11_odds_52 ?_
            refine sx_callSi lk_X11_282 dX11_odds_53 (vs := [_, _]) rfl rfl (Nat.le_of_ble_eq_true rfl) (Nat.le_of_ble_eq_true rfl) rfl (c_X11_commonDivisor _ hI.1 _ _) (fun x7 h6 ph6 => ?_)
            obtain ⟨rfl, w_x7⟩ := ph6
            refine sx_idiv dX11_odds_56 (by omega) ?_
            refine sy_top (fun v8 ev8 => ?_)
            refine sx_istore dX11_odds_57 (by decide) ?_
            refine sx_iconst dX11_odds_59 ⟨by decide, by decide⟩ ?_
            refine sx_istore dX11_odds_60 (by decide) ?_
            refine sx_iconst dX11_odds_62 ⟨by decide, by decide⟩ ?_
            refine sx_istore dX11_odds_63 (by decide) ?_
            refine sx_loop2 (fun (h : sw_H) (p : Int) (i : Int) => (cK pr1 h0 h) ∧ (h 0 1 = h0 0 1) ∧ (0 ≤ i)) (fun (h : sw_H) (p : Int) (i : Int) => (4 - i).toNat) (fun (h : sw_H) (p : Int) (i : Int) => sw_E G NH SH (d + 2) mX11_odds 65 [some (sw_r 0), some (sw_i y1), some (sw_i y2), some (sw_i 100), some (sw_i v8), some (sw_i p), some (sw_i i)] [] h (sw_Qi (fun z h' => cK pr1 h0 h'))) ?_ _ _ _ ?_
            · rintro h9 p_10 i_11 ⟨Ih9, j12, j13⟩ ihh9
              try dsimp only at ihh9
              refine sx_iload dX11_odds_65 rfl ?_
              refine sx_iload_n dX11_odds_67 rfl ?_
              refine sx_icmp_ge (tgt := 84) dX11_odds_68 (by decide) (fun c14 => ?_) (fun c14 => ?_)
              ·
                refine sx_iload dX11_odds_84 rfl ?_
                refine sx_ireturn dX11_odds_86 ?_
                exact ⟨_, rfl, Ih9⟩
              ·
                refine sx_iload dX11_odds_71 rfl ?_
                refine sx_iload dX11_odds_73 rfl ?_
                refine sx_imul dX11_odds_75 ?_
                refine sy_top (fun v15 ev15 => ?_)
                refine sx_istore dX11_odds_76 (by decide) ?_
                refine sx_iinc dX11_odds_78 (by decide) rfl ?_
                rw [sw_w_id (by omega) (by omega)]
                refine sx_goto (tgt := 65) dX11_odds_81 (by decide) ?_
                exact ihh9 _ _ _ ⟨Ih9, by omega, by omega⟩ (by exact sy_dec (by omega) (by omega))
            · exact ⟨hI, by omega, by omega⟩
          ·
            refine sx_bipush dX11_odds_24 ⟨by decide, by decide, by decide⟩ ?_
            refine sx_aload_n dX11_odds_26 rfl ?_
            refine sx_getR (k := 1) (t := 1) cl_11 fl_X11_10 dX11_odds_27 s_0 (by decide) rfl (by decide) (by omega) ?_
            refine sx_getI (k := 3) cl_0 fl_X11_187 dX11_odds_30 s_1 (by decide) rfl (by decide) ?_
            refine sx_isub dX11_odds_33 ?_
            refine sx_goto (tgt := 39) dX11_odds_34 (by decide) ?_
            refine sy_top (fun v16 ev16 => ?_)
            refine sx_istore_n dX11_odds_39 (by decide) ?_
            refine sx_iload_n dX11_odds_40 rfl ?_
            refine sx_bipush dX11_odds_41 ⟨by decide, by decide, by decide⟩ ?_
            refine sx_bipush dX11_odds_43 ⟨by decide, by decide, by decide⟩ ?_
            refine sx_aload_n dX11_odds_45 rfl ?_
            refine sx_getR (k := 1) (t := 1) cl_11 fl_X11_10 dX11_odds_46 s_0 (by decide) rfl (by decide) (by omega) ?_
            refine sx_getI (k := 3) cl_0 fl_X11_187 dX11_odds_49 s_1 (by decide) rfl (by decide) ?_
            refine sx_isub dX11_odds_52 ?_
            refine sx_callSi lk_X11_282 dX11_odds_53 (vs := [_, _]) rfl rfl (Nat.le_of_ble_eq_true rfl) (Nat.le_of_ble_eq_true rfl) rfl (c_X11_commonDivisor _ hI.1 _ _) (fun x18 h17 ph17 => ?_)
            obtain ⟨rfl, w_x18⟩ := ph17
            refine sx_idiv dX11_odds_56 (by omega) ?_
            refine sy_top (fun v19 ev19 => ?_)
            refine sx_istore dX11_odds_57 (by decide) ?_
            refine sx_iconst dX11_odds_59 ⟨by decide, by decide⟩ ?_
            refine sx_istore dX11_odds_60 (by decide) ?_
            refine sx_iconst dX11_odds_62 ⟨by decide, by decide⟩ ?_
            refine sx_istore dX11_odds_63 (by decide) ?_
            refine sx_loop2 (fun (h : sw_H) (p : Int) (i : Int) => (cK pr1 h0 h) ∧ (h 0 1 = h0 0 1) ∧ (0 ≤ i)) (fun (h : sw_H) (p : Int) (i : Int) => (4 - i).toNat) (fun (h : sw_H) (p : Int) (i : Int) => sw_E G NH SH (d + 2) mX11_odds 65 [some (sw_r 0), some (sw_i y1), some (sw_i y2), some (sw_i v16), some (sw_i v19), some (sw_i p), some (sw_i i)] [] h (sw_Qi (fun z h' => cK pr1 h0 h'))) ?_ _ _ _ ?_
            · rintro h20 p_21 i_22 ⟨Ih20, j23, j24⟩ ihh20
              try dsimp only at ihh20
              refine sx_iload dX11_odds_65 rfl ?_
              refine sx_iload_n dX11_odds_67 rfl ?_
              refine sx_icmp_ge (tgt := 84) dX11_odds_68 (by decide) (fun c25 => ?_) (fun c25 => ?_)
              ·
                refine sx_iload dX11_odds_84 rfl ?_
                refine sx_ireturn dX11_odds_86 ?_
                exact ⟨_, rfl, Ih20⟩
              ·
                refine sx_iload dX11_odds_71 rfl ?_
                refine sx_iload dX11_odds_73 rfl ?_
                refine sx_imul dX11_odds_75 ?_
                refine sy_top (fun v26 ev26 => ?_)
                refine sx_istore dX11_odds_76 (by decide) ?_
                refine sx_iinc dX11_odds_78 (by decide) rfl ?_
                rw [sw_w_id (by omega) (by omega)]
                refine sx_goto (tgt := 65) dX11_odds_81 (by decide) ?_
                exact ihh20 _ _ _ ⟨Ih20, by omega, by omega⟩ (by exact sy_dec (by omega) (by omega))
            · exact ⟨hI, by omega, by omega⟩
        ·
          refine sx_iconst dX11_odds_18 ⟨by decide, by decide⟩ ?_
          refine sx_ireturn dX11_odds_19 ?_
          exact ⟨_, rfl, hI⟩
set_option maxRecDepth 20000 in
set_option maxHeartbeats 4000000 in
theorem c_X11_odds_13 {G : sw_G} (d : Nat) {h0 : sw_H} (hJ : cJ h0) (hc : h0 0 1 = 13 ∧ h0 0 2 = 1) (y1 y2 : Int)  : sw_E G NH SH (d + 2) mX11_odds 0 [some (sw_r 0), some (sw_i y1), some (sw_i y2), none, none, none, none] [] h0 (sw_Qi (fun z h' => cK pr1 h0 h')) := by
  have hI : cK pr1 h0 h0 := cK.refl hJ
  have rw : (0 : Int) ≤ h0 13 0 ∧ h0 13 0 ≤ 6 := hI.1.1 13 0
  refine sx_iload_n dX11_odds_0 rfl ?_
  refine sx_if_lt (tgt := 18) dX11_odds_1 (by decide) (fun c1 => ?_) (fun c1 => ?_)
  ·
    refine sx_iconst dX11_odds_18 ⟨by decide, by decide⟩ ?_
    refine sx_ireturn dX11_odds_19 ?_
    exact ⟨_, rfl, hI⟩
  ·
    refine sx_iload_n dX11_odds_4 rfl ?_
    refine sx_iconst dX11_odds_5 ⟨by decide, by decide⟩ ?_
    refine sx_icmp_gt (tgt := 18) dX11_odds_6 (by decide) (fun c2 => ?_) (fun c2 => ?_)
    ·
      refine sx_iconst dX11_odds_18 ⟨by decide, by decide⟩ ?_
      refine sx_ireturn dX11_odds_19 ?_
      exact ⟨_, rfl, hI⟩
    ·
      refine sx_iload_n dX11_odds_9 rfl ?_
      refine sx_if_lt (tgt := 18) dX11_odds_10 (by decide) (fun c3 => ?_) (fun c3 => ?_)
      ·
        refine sx_iconst dX11_odds_18 ⟨by decide, by decide⟩ ?_
        refine sx_ireturn dX11_odds_19 ?_
        exact ⟨_, rfl, hI⟩
      ·
        refine sx_iload_n dX11_odds_13 rfl ?_
        refine sx_iconst dX11_odds_14 ⟨by decide, by decide⟩ ?_
        refine sx_icmp_le (tgt := 20) dX11_odds_15 (by decide) (fun c4 => ?_) (fun c4 => ?_)
        ·
          refine sx_iload_n dX11_odds_20 rfl ?_
          refine sx_if_ne (tgt := 37) dX11_odds_21 (by decide) (fun c5 => ?_) (fun c5 => ?_)
          ·
            refine sx_bipush dX11_odds_37 ⟨by decide, by decide, by decide⟩ ?_
            refine sx_istore_n dX11_odds_39 (by decide) ?_
            refine sx_iload_n dX11_odds_40 rfl ?_
            refine sx_bipush dX11_odds_41 ⟨by decide, by decide, by decide⟩ ?_
            refine sx_bipush dX11_odds_43 ⟨by decide, by decide, by decide⟩ ?_
            refine sx_aload_n dX11_odds_45 rfl ?_
            refine sx_getR (k := 1) (t := 13) cl_11 fl_X11_10 dX11_odds_46 s_0 (by decide) rfl (by decide) (by omega) ?_
            refine sx_getI (k := 3) cl_0 fl_X11_187 dX11_odds_49 s_13 (by decide) rfl (by decide) ?_
            refine sx_isub dX11_odds_52 ?_
            refine sx_callSi lk_X11_282 dX11_odds_53 (vs := [_, _]) rfl rfl (Nat.le_of_ble_eq_true rfl) (Nat.le_of_ble_eq_true rfl) rfl (c_X11_commonDivisor _ hI.1 _ _) (fun x7 h6 ph6 => ?_)
            obtain ⟨rfl, w_x7⟩ := ph6
            refine sx_idiv dX11_odds_56 (by omega) ?_
            refine sy_top (fun v8 ev8 => ?_)
            refine sx_istore dX11_odds_57 (by decide) ?_
            refine sx_iconst dX11_odds_59 ⟨by decide, by decide⟩ ?_
            refine sx_istore dX11_odds_60 (by decide) ?_
            refine sx_iconst dX11_odds_62 ⟨by decide, by decide⟩ ?_
            refine sx_istore dX11_odds_63 (by decide) ?_
            refine sx_loop2 (fun (h : sw_H) (p : Int) (i : Int) => (cK pr1 h0 h) ∧ (h 0 1 = h0 0 1) ∧ (0 ≤ i)) (fun (h : sw_H) (p : Int) (i : Int) => (4 - i).toNat) (fun (h : sw_H) (p : Int) (i : Int) => sw_E G NH SH (d + 2) mX11_odds 65 [some (sw_r 0), some (sw_i y1), some (sw_i y2), some (sw_i 100), some (sw_i v8), some (sw_i p), some (sw_i i)] [] h (sw_Qi (fun z h' => cK pr1 h0 h'))) ?_ _ _ _ ?_
            · rintro h9 p_10 i_11 ⟨Ih9, j12, j13⟩ ihh9
              try dsimp only at ihh9
              refine sx_iload dX11_odds_65 rfl ?_
              refine sx_iload_n dX11_odds_67 rfl ?_
              refine sx_icmp_ge (tgt := 84) dX11_odds_68 (by decide) (fun c14 => ?_) (fun c14 => ?_)
              ·
                refine sx_iload dX11_odds_84 rfl ?_
                refine sx_ireturn dX11_odds_86 ?_
                exact ⟨_, rfl, Ih9⟩
              ·
                refine sx_iload dX11_odds_71 rfl ?_
                refine sx_iload dX11_odds_73 rfl ?_
                refine sx_imul dX11_odds_75 ?_
                refine sy_top (fun v15 ev15 => ?_)
                refine sx_istore dX11_odds_76 (by decide) ?_
                refine sx_iinc dX11_odds_78 (by decide) rfl ?_
                rw [sw_w_id (by omega) (by omega)]
                refine sx_goto (tgt := 65) dX11_odds_81 (by decide) ?_
                exact ihh9 _ _ _ ⟨Ih9, by omega, by omega⟩ (by exact sy_dec (by omega) (by omega))
            · exact ⟨hI, by omega, by omega⟩
          ·
            refine sx_bipush dX11_odds_24 ⟨by decide, by decide, by decide⟩ ?_
            refine sx_aload_n dX11_odds_26 rfl ?_
            refine sx_getR (k := 1) (t := 13) cl_11 fl_X11_10 dX11_odds_27 s_0 (by decide) rfl (by decide) (by omega) ?_
            refine sx_getI (k := 3) cl_0 fl_X11_187 dX11_odds_30 s_13 (by decide) rfl (by decide) ?_
            refine sx_isub dX11_odds_33 ?_
            refine sx_goto (tgt := 39) dX11_odds_34 (by decide) ?_
            refine sy_top (fun v16 ev16 => ?_)
            refine sx_istore_n dX11_odds_39 (by decide) ?_
            refine sx_iload_n dX11_odds_40 rfl ?_
            refine sx_bipush dX11_odds_41 ⟨by decide, by decide, by decide⟩ ?_
            refine sx_bipush dX11_odds_43 ⟨by decide, by decide, by decide⟩ ?_
            refine sx_aload_n dX11_odds_45 rfl ?_
            refine sx_getR (k := 1) (t := 13) cl_11 fl_X11_10 dX11_odds_46 s_0 (by decide) rfl (by decide) (by omega) ?_
            refine sx_getI (k := 3) cl_0 fl_X11_187 dX11_odds_49 s_13 (by decide) rfl (by decide) ?_
            refine sx_isub dX11_odds_52 ?_
            refine sx_callSi lk_X11_282 dX11_odds_53 (vs := [_, _]) rfl rfl (Nat.le_of_ble_eq_true rfl) (Nat.le_of_ble_eq_true rfl) rfl (c_X11_commonDivisor _ hI.1 _ _) (fun x18 h17 ph17 => ?_)
            obtain ⟨rfl, w_x18⟩ := ph17
            refine sx_idiv dX11_odds_56 (by omega) ?_
            refine sy_top (fun v19 ev19 => ?_)
            refine sx_istore dX11_odds_57 (by decide) ?_
            refine sx_iconst dX11_odds_59 ⟨by decide, by decide⟩ ?_
            refine sx_istore dX11_odds_60 (by decide) ?_
            refine sx_iconst dX11_odds_62 ⟨by decide, by decide⟩ ?_
            refine sx_istore dX11_odds_63 (by decide) ?_
            refine sx_loop2 (fun (h : sw_H) (p : Int) (i : Int) => (cK pr1 h0 h) ∧ (h 0 1 = h0 0 1) ∧ (0 ≤ i)) (fun (h : sw_H) (p : Int) (i : Int) => (4 - i).toNat) (fun (h : sw_H) (p : Int) (i : Int) => sw_E G NH SH (d + 2) mX11_odds 65 [some (sw_r 0), some (sw_i y1), some (sw_i y2), some (sw_i v16), some (sw_i v19), some (sw_i p), some (sw_i i)] [] h (sw_Qi (fun z h' => cK pr1 h0 h'))) ?_ _ _ _ ?_
            · rintro h20 p_21 i_22 ⟨Ih20, j23, j24⟩ ihh20
              try dsimp only at ihh20
              refine sx_iload dX11_odds_65 rfl ?_
              refine sx_iload_n dX11_odds_67 rfl ?_
              refine sx_icmp_ge (tgt := 84) dX11_odds_68 (by decide) (fun c25 => ?_) (fun c25 => ?_)
              ·
                refine sx_iload dX11_odds_84 rfl ?_
                refine sx_ireturn dX11_odds_86 ?_
                exact ⟨_, rfl, Ih20⟩
              ·
                refine sx_iload dX11_odds_71 rfl ?_
                refine sx_iload dX11_odds_73 rfl ?_
                refine sx_imul dX11_odds_75 ?_
                refine sy_top (fun v26 ev26 => ?_)
                refine sx_istore dX11_odds_76 (by decide) ?_
                refine sx_iinc dX11_odds_78 (by decide) rfl ?_
                rw [sw_w_id (by omega) (by omega)]
                refine sx_goto (tgt := 65) dX11_odds_81 (by decide) ?_
                exact ihh20 _ _ _ ⟨Ih20, by omega, by omega⟩ (by exact sy_dec (by omega) (by omega))
            · exact ⟨hI, by omega, by omega⟩
        ·
          refine sx_iconst dX11_odds_18 ⟨by decide, by decide⟩ ?_
          refine sx_ireturn dX11_odds_19 ?_
          exact ⟨_, rfl, hI⟩
theorem c_X11_odds {G : sw_G} (d : Nat) {h0 : sw_H} (hJ : cJ h0) (y1 y2 : Int)  : sw_E G NH SH (d + 2) mX11_odds 0 [some (sw_r 0), some (sw_i y1), some (sw_i y2), none, none, none, none] [] h0 (sw_Qi (fun z h' => cK pr1 h0 h')) := by
  rcases (show (h0 0 1 = 1 ∧ h0 0 2 = 13) ∨ (h0 0 1 = 13 ∧ h0 0 2 = 1) from hJ.2 4 (by decide)) with q | q
  · exact c_X11_odds_1 d hJ q y1 y2 
  · exact c_X11_odds_13 d hJ q y1 y2 
set_option maxRecDepth 20000 in
set_option maxHeartbeats 4000000 in
theorem c_X11_lies {G : sw_G} (d : Nat) {h0 : sw_H} (hJ : cJ h0) (y1 : Int)  : sw_E G NH SH (d) mX11_lies 0 [some (sw_r 0), some (sw_i y1)] [] h0 (sw_Qi (fun z h' => cK pr1 h0 h')) := by
  have hI : cK pr1 h0 h0 := cK.refl hJ
  refine sx_iload_n dX11_lies_0 rfl ?_
  refine sx_if_lt (tgt := 27) dX11_lies_1 (by decide) (fun c1 => ?_) (fun c1 => ?_)
  ·
    refine sx_bipush dX11_lies_27 ⟨by decide, by decide, by decide⟩ ?_
    refine sx_ireturn dX11_lies_29 ?_
    exact ⟨_, rfl, hI⟩
  ·
    refine sx_iload_n dX11_lies_4 rfl ?_
    refine sx_aload_n dX11_lies_5 rfl ?_
    refine sx_getS (k := 10) (t := 182) cl_11 fl_X11_61 dX11_lies_6 s_0 (by decide) rfl (by decide) ?_
    refine sx_getI (k := 7) cl_6 fl_X11_118 dX11_lies_9 s_182 (by decide) rfl (by decide) ?_
    have r2 : (0 : Int) ≤ h0 182 7 ∧ h0 182 7 ≤ 364 := hI.1.1 182 7
    refine sx_icmp_ge (tgt := 27) dX11_lies_12 (by decide) (fun c3 => ?_) (fun c3 => ?_)
    ·
      refine sx_bipush dX11_lies_27 ⟨by decide, by decide, by decide⟩ ?_
      refine sx_ireturn dX11_lies_29 ?_
      exact ⟨_, rfl, hI⟩
    ·
      refine sx_aload_n dX11_lies_15 rfl ?_
      refine sx_getS (k := 10) (t := 182) cl_11 fl_X11_61 dX11_lies_16 s_0 (by decide) rfl (by decide) ?_
      refine sx_getS (k := 6) (t := 188) cl_6 fl_X11_285 dX11_lies_19 s_182 (by decide) rfl (by decide) ?_
      refine sx_iload_n dX11_lies_22 rfl ?_
      refine sx_iaload dX11_lies_23 s_188 (by decide) (by decide) ⟨by omega, by omega⟩ ?_
      refine sx_goto (tgt := 29) dX11_lies_24 (by decide) ?_
      refine sx_ireturn dX11_lies_29 ?_
      exact ⟨_, rfl, hI⟩
set_option maxRecDepth 20000 in
set_option maxHeartbeats 4000000 in
theorem c_X11_seen_1 {G : sw_G} (d : Nat) {h0 : sw_H} (hJ : cJ h0) (hc : h0 0 1 = 1 ∧ h0 0 2 = 13) (y1 y2 y3 y4 y5 : Int) (hb : y5 = 0 ∨ y5 = 1) : sw_E G NH SH (d + 1) mX11_seen 0 [some (sw_r 0), some (sw_i y1), some (sw_i y2), some (sw_i y3), some (sw_i y4), some (sw_i y5)] [] h0 (sw_Qi (fun z h' => cK pr1 h0 h')) := by
  have hI : cK pr1 h0 h0 := cK.refl hJ
  have rw : (0 : Int) ≤ h0 1 0 ∧ h0 1 0 ≤ 6 := hI.1.1 1 0
  refine sx_aload_n dX11_seen_0 rfl ?_
  refine sx_getR (k := 1) (t := 1) cl_11 fl_X11_10 dX11_seen_1 s_0 (by decide) rfl (by decide) (by omega) ?_
  refine sx_getI (k := 0) cl_0 fl_X11_121 dX11_seen_4 s_1 (by decide) rfl (by decide) ?_
  have r1 : (0 : Int) ≤ h0 1 0 ∧ h0 1 0 ≤ 6 := hI.1.1 1 0
  refine sx_if_eq (tgt := 31) dX11_seen_7 (by decide) (fun c2 => ?_) (fun c2 => ?_)
  ·
    refine sx_iconst dX11_seen_31 ⟨by decide, by decide⟩ ?_
    refine sx_ireturn dX11_seen_32 ?_
    exact ⟨_, rfl, hI⟩
  ·
    refine sx_iload_n dX11_seen_10 rfl ?_
    refine sx_callSz lk_X11_288 dX11_seen_11 (vs := [_]) rfl rfl (Nat.le_of_ble_eq_true rfl) (Nat.le_of_ble_eq_true rfl) rfl (c_X11_isDigit _ hI.1 _) (fun x4 h3 zx4 ph3 => ?_)
    obtain ⟨rfl, w_x4⟩ := ph3
    refine sx_if_eq (tgt := 31) dX11_seen_14 (by decide) (fun c5 => ?_) (fun c5 => ?_)
    ·
      refine sx_iconst dX11_seen_31 ⟨by decide, by decide⟩ ?_
      refine sx_ireturn dX11_seen_32 ?_
      exact ⟨_, rfl, hI⟩
    ·
      refine sx_iload_n dX11_seen_17 rfl ?_
      refine sx_callSz lk_X11_288 dX11_seen_18 (vs := [_]) rfl rfl (Nat.le_of_ble_eq_true rfl) (Nat.le_of_ble_eq_true rfl) rfl (c_X11_isDigit _ hI.1 _) (fun x7 h6 zx7 ph6 => ?_)
      obtain ⟨rfl, w_x7⟩ := ph6
      refine sx_if_eq (tgt := 31) dX11_seen_21 (by decide) (fun c8 => ?_) (fun c8 => ?_)
      ·
        refine sx_iconst dX11_seen_31 ⟨by decide, by decide⟩ ?_
        refine sx_ireturn dX11_seen_32 ?_
        exact ⟨_, rfl, hI⟩
      ·
        refine sx_iload_n dX11_seen_24 rfl ?_
        refine sx_callSz lk_X11_288 dX11_seen_25 (vs := [_]) rfl rfl (Nat.le_of_ble_eq_true rfl) (Nat.le_of_ble_eq_true rfl) rfl (c_X11_isDigit _ hI.1 _) (fun x10 h9 zx10 ph9 => ?_)
        obtain ⟨rfl, w_x10⟩ := ph9
        refine sx_if_ne (tgt := 33) dX11_seen_28 (by decide) (fun c11 => ?_) (fun c11 => ?_)
        ·
          refine sx_aload_n dX11_seen_33 rfl ?_
          refine sx_getS (k := 11) (t := 189) cl_11 fl_X11_68 dX11_seen_34 s_0 (by decide) rfl (by decide) ?_
          refine sx_iload_n dX11_seen_37 rfl ?_
          refine sx_bipush dX11_seen_38 ⟨by decide, by decide, by decide⟩ ?_
          refine sx_imul dX11_seen_40 ?_
          refine sy_topw (by omega) ?_
          refine sx_iload_n dX11_seen_41 rfl ?_
          refine sx_bipush dX11_seen_42 ⟨by decide, by decide, by decide⟩ ?_
          refine sx_imul dX11_seen_44 ?_
          refine sy_topw (by omega) ?_
          refine sx_iadd dX11_seen_45 ?_
          refine sy_topw (by omega) ?_
          refine sx_iload_n dX11_seen_46 rfl ?_
          refine sx_iadd dX11_seen_47 ?_
          refine sy_topw (by omega) ?_
          refine sx_iload dX11_seen_48 rfl ?_
          refine sx_iload dX11_seen_50 rfl ?_
          refine sx_aload_n dX11_seen_52 rfl ?_
          refine sx_getI (k := 12) cl_11 fl_X11_291 dX11_seen_53 s_0 (by decide) rfl (by decide) ?_
          have r12 : (0 : Int) ≤ h0 0 12 ∧ h0 0 12 ≤ 100000 := hI.1.1 0 12
          refine sx_callVi lk_X11_294 cl_7 s_189 (by decide) dX11_seen_56 (vs := [_, _, _, _]) rfl rfl (Nat.le_of_ble_eq_true rfl) (Nat.le_of_ble_eq_true rfl) rfl (c_X7_tell _ hI.1 _ _ _ _ (by omega)) (fun x14 h13 ph13 => ?_)
          have Kh13 := ph13
          have Ih13 := hI.tr Kh13 sb_pr1_prG
          have th13_0_1 := Kh13.2 (0) 1 rfl
          have th13_0_2 := Kh13.2 (0) 2 rfl
          have th13_1_0 := Kh13.2 (1) 0 rfl
          refine sx_ireturn dX11_seen_59 ?_
          exact ⟨_, rfl, Ih13⟩
        ·
          refine sx_iconst dX11_seen_31 ⟨by decide, by decide⟩ ?_
          refine sx_ireturn dX11_seen_32 ?_
          exact ⟨_, rfl, hI⟩
set_option maxRecDepth 20000 in
set_option maxHeartbeats 4000000 in
theorem c_X11_seen_13 {G : sw_G} (d : Nat) {h0 : sw_H} (hJ : cJ h0) (hc : h0 0 1 = 13 ∧ h0 0 2 = 1) (y1 y2 y3 y4 y5 : Int) (hb : y5 = 0 ∨ y5 = 1) : sw_E G NH SH (d + 1) mX11_seen 0 [some (sw_r 0), some (sw_i y1), some (sw_i y2), some (sw_i y3), some (sw_i y4), some (sw_i y5)] [] h0 (sw_Qi (fun z h' => cK pr1 h0 h')) := by
  have hI : cK pr1 h0 h0 := cK.refl hJ
  have rw : (0 : Int) ≤ h0 13 0 ∧ h0 13 0 ≤ 6 := hI.1.1 13 0
  refine sx_aload_n dX11_seen_0 rfl ?_
  refine sx_getR (k := 1) (t := 13) cl_11 fl_X11_10 dX11_seen_1 s_0 (by decide) rfl (by decide) (by omega) ?_
  refine sx_getI (k := 0) cl_0 fl_X11_121 dX11_seen_4 s_13 (by decide) rfl (by decide) ?_
  have r1 : (0 : Int) ≤ h0 13 0 ∧ h0 13 0 ≤ 6 := hI.1.1 13 0
  refine sx_if_eq (tgt := 31) dX11_seen_7 (by decide) (fun c2 => ?_) (fun c2 => ?_)
  ·
    refine sx_iconst dX11_seen_31 ⟨by decide, by decide⟩ ?_
    refine sx_ireturn dX11_seen_32 ?_
    exact ⟨_, rfl, hI⟩
  ·
    refine sx_iload_n dX11_seen_10 rfl ?_
    refine sx_callSz lk_X11_288 dX11_seen_11 (vs := [_]) rfl rfl (Nat.le_of_ble_eq_true rfl) (Nat.le_of_ble_eq_true rfl) rfl (c_X11_isDigit _ hI.1 _) (fun x4 h3 zx4 ph3 => ?_)
    obtain ⟨rfl, w_x4⟩ := ph3
    refine sx_if_eq (tgt := 31) dX11_seen_14 (by decide) (fun c5 => ?_) (fun c5 => ?_)
    ·
      refine sx_iconst dX11_seen_31 ⟨by decide, by decide⟩ ?_
      refine sx_ireturn dX11_seen_32 ?_
      exact ⟨_, rfl, hI⟩
    ·
      refine sx_iload_n dX11_seen_17 rfl ?_
      refine sx_callSz lk_X11_288 dX11_seen_18 (vs := [_]) rfl rfl (Nat.le_of_ble_eq_true rfl) (Nat.le_of_ble_eq_true rfl) rfl (c_X11_isDigit _ hI.1 _) (fun x7 h6 zx7 ph6 => ?_)
      obtain ⟨rfl, w_x7⟩ := ph6
      refine sx_if_eq (tgt := 31) dX11_seen_21 (by decide) (fun c8 => ?_) (fun c8 => ?_)
      ·
        refine sx_iconst dX11_seen_31 ⟨by decide, by decide⟩ ?_
        refine sx_ireturn dX11_seen_32 ?_
        exact ⟨_, rfl, hI⟩
      ·
        refine sx_iload_n dX11_seen_24 rfl ?_
        refine sx_callSz lk_X11_288 dX11_seen_25 (vs := [_]) rfl rfl (Nat.le_of_ble_eq_true rfl) (Nat.le_of_ble_eq_true rfl) rfl (c_X11_isDigit _ hI.1 _) (fun x10 h9 zx10 ph9 => ?_)
        obtain ⟨rfl, w_x10⟩ := ph9
        refine sx_if_ne (tgt := 33) dX11_seen_28 (by decide) (fun c11 => ?_) (fun c11 => ?_)
        ·
          refine sx_aload_n dX11_seen_33 rfl ?_
          refine sx_getS (k := 11) (t := 189) cl_11 fl_X11_68 dX11_seen_34 s_0 (by decide) rfl (by decide) ?_
          refine sx_iload_n dX11_seen_37 rfl ?_
          refine sx_bipush dX11_seen_38 ⟨by decide, by decide, by decide⟩ ?_
          refine sx_imul dX11_seen_40 ?_
          refine sy_topw (by omega) ?_
          refine sx_iload_n dX11_seen_41 rfl ?_
          refine sx_bipush dX11_seen_42 ⟨by decide, by decide, by decide⟩ ?_
          refine sx_imul dX11_seen_44 ?_
          refine sy_topw (by omega) ?_
          refine sx_iadd dX11_seen_45 ?_
          refine sy_topw (by omega) ?_
          refine sx_iload_n dX11_seen_46 rfl ?_
          refine sx_iadd dX11_seen_47 ?_
          refine sy_topw (by omega) ?_
          refine sx_iload dX11_seen_48 rfl ?_
          refine sx_iload dX11_seen_50 rfl ?_
          refine sx_aload_n dX11_seen_52 rfl ?_
          refine sx_getI (k := 12) cl_11 fl_X11_291 dX11_seen_53 s_0 (by decide) rfl (by decide) ?_
          have r12 : (0 : Int) ≤ h0 0 12 ∧ h0 0 12 ≤ 100000 := hI.1.1 0 12
          refine sx_callVi lk_X11_294 cl_7 s_189 (by decide) dX11_seen_56 (vs := [_, _, _, _]) rfl rfl (Nat.le_of_ble_eq_true rfl) (Nat.le_of_ble_eq_true rfl) rfl (c_X7_tell _ hI.1 _ _ _ _ (by omega)) (fun x14 h13 ph13 => ?_)
          have Kh13 := ph13
          have Ih13 := hI.tr Kh13 sb_pr1_prG
          have th13_0_1 := Kh13.2 (0) 1 rfl
          have th13_0_2 := Kh13.2 (0) 2 rfl
          have th13_13_0 := Kh13.2 (13) 0 rfl
          refine sx_ireturn dX11_seen_59 ?_
          exact ⟨_, rfl, Ih13⟩
        ·
          refine sx_iconst dX11_seen_31 ⟨by decide, by decide⟩ ?_
          refine sx_ireturn dX11_seen_32 ?_
          exact ⟨_, rfl, hI⟩
theorem c_X11_seen {G : sw_G} (d : Nat) {h0 : sw_H} (hJ : cJ h0) (y1 y2 y3 y4 y5 : Int) (hb : y5 = 0 ∨ y5 = 1) : sw_E G NH SH (d + 1) mX11_seen 0 [some (sw_r 0), some (sw_i y1), some (sw_i y2), some (sw_i y3), some (sw_i y4), some (sw_i y5)] [] h0 (sw_Qi (fun z h' => cK pr1 h0 h')) := by
  rcases (show (h0 0 1 = 1 ∧ h0 0 2 = 13) ∨ (h0 0 1 = 13 ∧ h0 0 2 = 1) from hJ.2 4 (by decide)) with q | q
  · exact c_X11_seen_1 d hJ q y1 y2 y3 y4 y5 hb
  · exact c_X11_seen_13 d hJ q y1 y2 y3 y4 y5 hb
set_option maxRecDepth 20000 in
set_option maxHeartbeats 4000000 in
theorem c_X11_untell {G : sw_G} (d : Nat) {h0 : sw_H} (hJ : cJ h0) (y1 : Int)  : sw_E G NH SH (d + 1) mX11_untell 0 [some (sw_r 0), some (sw_i y1)] [] h0 (sw_Qz (fun z h' => cK pr1 h0 h')) := by
  have hI : cK pr1 h0 h0 := cK.refl hJ
  refine sx_aload_n dX11_untell_0 rfl ?_
  refine sx_getS (k := 11) (t := 189) cl_11 fl_X11_68 dX11_untell_1 s_0 (by decide) rfl (by decide) ?_
  refine sx_iload_n dX11_untell_4 rfl ?_
  refine sx_aload_n dX11_untell_5 rfl ?_
  refine sx_getI (k := 12) cl_11 fl_X11_291 dX11_untell_6 s_0 (by decide) rfl (by decide) ?_
  have r1 : (0 : Int) ≤ h0 0 12 ∧ h0 0 12 ≤ 100000 := hI.1.1 0 12
  refine sx_callVz lk_X11_298 cl_7 s_189 (by decide) dX11_untell_9 (vs := [_, _]) rfl rfl (Nat.le_of_ble_eq_true rfl) (Nat.le_of_ble_eq_true rfl) rfl (c_X7_takeBack _ hI.1 _ _) (fun x3 h2 zx3 ph2 => ?_)
  have Kh2 := ph2
  have Ih2 := hI.tr Kh2 sb_pr1_prG
  have th2_0_12 := Kh2.2 (0) 12 rfl
  refine sx_ireturn dX11_untell_12 ?_
  exact ⟨_, rfl, by omega, Ih2⟩
set_option maxRecDepth 20000 in
set_option maxHeartbeats 4000000 in
theorem c_X11_later {G : sw_G} (d : Nat) {h0 : sw_H} (hJ : cJ h0) (y1 : Int)  : sw_E G NH SH (d) mX11_later 0 [some (sw_r 0), some (sw_i y1)] [] h0 (sw_Qi (fun z h' => cK prY h0 h' ∧ ((0 ≤ y1 ∧ y1 ≤ 1000 ∧ h0 0 12 + y1 ≤ 100000 ∧ z = h0 0 12 + y1 ∧ h' 0 12 = z) ∨ ((y1 < 0 ∨ 1000 < y1 ∨ 100000 < h0 0 12 + y1) ∧ z = -1 ∧ h' 0 12 = h0 0 12)))) := by
  have hI : cK prY h0 h0 := cK.refl hJ
  refine sx_iload_n dX11_later_0 rfl ?_
  refine sx_if_lt (tgt := 23) dX11_later_1 (by decide) (fun c1 => ?_) (fun c1 => ?_)
  ·
    refine sx_iconst dX11_later_23 ⟨by decide, by decide⟩ ?_
    refine sx_ireturn dX11_later_24 ?_
    exact ⟨_, rfl, ⟨hI, by omega⟩⟩
  ·
    refine sx_iload_n dX11_later_4 rfl ?_
    refine sx_sipush dX11_later_5 ⟨by decide, by decide, by decide⟩ ?_
    refine sx_icmp_gt (tgt := 23) dX11_later_8 (by decide) (fun c2 => ?_) (fun c2 => ?_)
    ·
      refine sx_iconst dX11_later_23 ⟨by decide, by decide⟩ ?_
      refine sx_ireturn dX11_later_24 ?_
      exact ⟨_, rfl, ⟨hI, by omega⟩⟩
    ·
      refine sx_aload_n dX11_later_11 rfl ?_
      refine sx_getI (k := 12) cl_11 fl_X11_291 dX11_later_12 s_0 (by decide) rfl (by decide) ?_
      have r3 : (0 : Int) ≤ h0 0 12 ∧ h0 0 12 ≤ 100000 := hI.1.1 0 12
      refine sx_iload_n dX11_later_15 rfl ?_
      refine sx_iadd dX11_later_16 ?_
      refine sy_topw (by omega) ?_
      refine sx_ldcw kc_X11_301 ⟨by decide, by decide⟩ dX11_later_17 ?_
      refine sx_icmp_le (tgt := 25) dX11_later_20 (by decide) (fun c4 => ?_) (fun c4 => ?_)
      ·
        refine sx_aload_n dX11_later_25 rfl ?_
        refine sx_dupr dX11_later_26 ?_
        refine sx_getI (k := 12) cl_11 fl_X11_291 dX11_later_27 s_0 (by decide) rfl (by decide) ?_
        have r5 : (0 : Int) ≤ h0 0 12 ∧ h0 0 12 ≤ 100000 := hI.1.1 0 12
        refine sx_iload_n dX11_later_30 rfl ?_
        refine sx_iadd dX11_later_31 ?_
        refine sy_topw (by omega) ?_
        refine sy_putI (k := 12) cl_11 fl_X11_291 dX11_later_32 s_0 (by decide) rfl (by decide) rfl rfl (fun h6 eh6 => ?_)
        have Ih6 := hI.up eh6 (show (0 : Int) ≤ _ ∧ _ ≤ (100000 : Int) from ⟨by omega, by omega⟩) rfl rfl
        have th6_0_12 := eh6.1
        refine sx_aload_n dX11_later_35 rfl ?_
        refine sx_getI (k := 12) cl_11 fl_X11_291 dX11_later_36 s_0 (by decide) rfl (by decide) ?_
        have r7 : (0 : Int) ≤ h6 0 12 ∧ h6 0 12 ≤ 100000 := Ih6.1.1 0 12
        refine sx_ireturn dX11_later_39 ?_
        exact ⟨_, rfl, ⟨Ih6, by omega⟩⟩
      ·
        refine sx_iconst dX11_later_23 ⟨by decide, by decide⟩ ?_
        refine sx_ireturn dX11_later_24 ?_
        exact ⟨_, rfl, ⟨hI, by omega⟩⟩
set_option maxRecDepth 20000 in
set_option maxHeartbeats 4000000 in
theorem c_X11_fits_1 {G : sw_G} (d : Nat) {h0 : sw_H} (hJ : cJ h0) (hc : h0 0 1 = 1 ∧ h0 0 2 = 13) (y1 : Int)  : sw_E G NH SH (d + 20) mX11_fits 0 [some (sw_r 0), some (sw_i y1)] [] h0 (sw_Qi (fun z h' => cK pr1 h0 h')) := by
  have hI : cK pr1 h0 h0 := cK.refl hJ
  have rw : (0 : Int) ≤ h0 1 0 ∧ h0 1 0 ≤ 6 := hI.1.1 1 0
  refine sx_aload_n dX11_fits_0 rfl ?_
  refine sx_getS (k := 11) (t := 189) cl_11 fl_X11_68 dX11_fits_1 s_0 (by decide) rfl (by decide) ?_
  refine sx_aload_n dX11_fits_4 rfl ?_
  refine sx_getR (k := 1) (t := 1) cl_11 fl_X11_10 dX11_fits_5 s_0 (by decide) rfl (by decide) (by omega) ?_
  refine sx_iload_n dX11_fits_8 rfl ?_
  refine sx_callVi lk_X11_302 cl_7 s_189 (by decide) dX11_fits_9 (vs := [_, _]) rfl rfl (Nat.le_of_ble_eq_true rfl) (Nat.le_of_ble_eq_true rfl) rfl (c_X7_collect_1 _ hI.1 _) (fun x2 h1 ph1 => ?_)
  obtain ⟨Kh1, n_h1, w_h1⟩ := ph1
  have Ih1 := hI.tr Kh1 sb_pr1_prG
  have th1_0_1 := Kh1.2 (0) 1 rfl
  have th1_0_2 := Kh1.2 (0) 2 rfl
  have th1_1_0 := Kh1.2 (1) 0 rfl
  refine sx_ireturn dX11_fits_12 ?_
  exact ⟨_, rfl, Ih1⟩
set_option maxRecDepth 20000 in
set_option maxHeartbeats 4000000 in
theorem c_X11_fits_13 {G : sw_G} (d : Nat) {h0 : sw_H} (hJ : cJ h0) (hc : h0 0 1 = 13 ∧ h0 0 2 = 1) (y1 : Int)  : sw_E G NH SH (d + 20) mX11_fits 0 [some (sw_r 0), some (sw_i y1)] [] h0 (sw_Qi (fun z h' => cK pr1 h0 h')) := by
  have hI : cK pr1 h0 h0 := cK.refl hJ
  have rw : (0 : Int) ≤ h0 13 0 ∧ h0 13 0 ≤ 6 := hI.1.1 13 0
  refine sx_aload_n dX11_fits_0 rfl ?_
  refine sx_getS (k := 11) (t := 189) cl_11 fl_X11_68 dX11_fits_1 s_0 (by decide) rfl (by decide) ?_
  refine sx_aload_n dX11_fits_4 rfl ?_
  refine sx_getR (k := 1) (t := 13) cl_11 fl_X11_10 dX11_fits_5 s_0 (by decide) rfl (by decide) (by omega) ?_
  refine sx_iload_n dX11_fits_8 rfl ?_
  refine sx_callVi lk_X11_302 cl_7 s_189 (by decide) dX11_fits_9 (vs := [_, _]) rfl rfl (Nat.le_of_ble_eq_true rfl) (Nat.le_of_ble_eq_true rfl) rfl (c_X7_collect_13 _ hI.1 _) (fun x2 h1 ph1 => ?_)
  obtain ⟨Kh1, n_h1, w_h1⟩ := ph1
  have Ih1 := hI.tr Kh1 sb_pr1_prG
  have th1_0_1 := Kh1.2 (0) 1 rfl
  have th1_0_2 := Kh1.2 (0) 2 rfl
  have th1_13_0 := Kh1.2 (13) 0 rfl
  refine sx_ireturn dX11_fits_12 ?_
  exact ⟨_, rfl, Ih1⟩
theorem c_X11_fits {G : sw_G} (d : Nat) {h0 : sw_H} (hJ : cJ h0) (y1 : Int)  : sw_E G NH SH (d + 20) mX11_fits 0 [some (sw_r 0), some (sw_i y1)] [] h0 (sw_Qi (fun z h' => cK pr1 h0 h')) := by
  rcases (show (h0 0 1 = 1 ∧ h0 0 2 = 13) ∨ (h0 0 1 = 13 ∧ h0 0 2 = 1) from hJ.2 4 (by decide)) with q | q
  · exact c_X11_fits_1 d hJ q y1 
  · exact c_X11_fits_13 d hJ q y1 
set_option maxRecDepth 20000 in
set_option maxHeartbeats 4000000 in
theorem c_X11_fit_1 {G : sw_G} (d : Nat) {h0 : sw_H} (hJ : cJ h0) (hc : h0 0 1 = 1 ∧ h0 0 2 = 13) (y1 y2 : Int)  : sw_E G NH SH (d + 20) mX11_fit 0 [some (sw_r 0), some (sw_i y1), some (sw_i y2), none] [] h0 (sw_Qi (fun z h' => cK pr1 h0 h')) := by
  have hI : cK pr1 h0 h0 := cK.refl hJ
  have rw : (0 : Int) ≤ h0 1 0 ∧ h0 1 0 ≤ 6 := hI.1.1 1 0
  refine sx_aload_n dX11_fit_0 rfl ?_
  refine sx_getS (k := 11) (t := 189) cl_11 fl_X11_68 dX11_fit_1 s_0 (by decide) rfl (by decide) ?_
  refine sx_aload_n dX11_fit_4 rfl ?_
  refine sx_getR (k := 1) (t := 1) cl_11 fl_X11_10 dX11_fit_5 s_0 (by decide) rfl (by decide) (by omega) ?_
  refine sx_iload_n dX11_fit_8 rfl ?_
  refine sx_callVi lk_X11_302 cl_7 s_189 (by decide) dX11_fit_9 (vs := [_, _]) rfl rfl (Nat.le_of_ble_eq_true rfl) (Nat.le_of_ble_eq_true rfl) rfl (c_X7_collect_1 _ hI.1 _) (fun x2 h1 ph1 => ?_)
  obtain ⟨Kh1, n_h1, w_h1⟩ := ph1
  have Ih1 := hI.tr Kh1 sb_pr1_prG
  have th1_0_1 := Kh1.2 (0) 1 rfl
  have th1_0_2 := Kh1.2 (0) 2 rfl
  have th1_1_0 := Kh1.2 (1) 0 rfl
  refine sx_istore_n dX11_fit_12 (by decide) ?_
  refine sx_iload_n dX11_fit_13 rfl ?_
  refine sx_if_lt (tgt := 34) dX11_fit_14 (by decide) (fun c3 => ?_) (fun c3 => ?_)
  ·
    refine sx_iconst dX11_fit_34 ⟨by decide, by decide⟩ ?_
    refine sx_ireturn dX11_fit_35 ?_
    exact ⟨_, rfl, Ih1⟩
  ·
    refine sx_iload_n dX11_fit_17 rfl ?_
    refine sx_iload_n dX11_fit_18 rfl ?_
    refine sx_icmp_ge (tgt := 34) dX11_fit_19 (by decide) (fun c4 => ?_) (fun c4 => ?_)
    ·
      refine sx_iconst dX11_fit_34 ⟨by decide, by decide⟩ ?_
      refine sx_ireturn dX11_fit_35 ?_
      exact ⟨_, rfl, Ih1⟩
    ·
      refine sx_aload_n dX11_fit_22 rfl ?_
      refine sx_getS (k := 11) (t := 189) cl_11 fl_X11_68 dX11_fit_23 s_0 (by decide) rfl (by decide) ?_
      refine sx_getS (k := 9) (t := 213) cl_7 fl_X11_305 dX11_fit_26 s_189 (by decide) rfl (by decide) ?_
      refine sx_iload_n dX11_fit_29 rfl ?_
      refine sy_iaF (F := fun z => (0 : Int) ≤ z ∧ z ≤ 14) dX11_fit_30 s_213 (by decide) (by decide) ⟨by omega, by omega⟩ (Ih1.1.1 213 _) (fun r5 => ?_)
      refine sx_goto (tgt := 35) dX11_fit_31 (by decide) ?_
      refine sx_ireturn dX11_fit_35 ?_
      exact ⟨_, rfl, Ih1⟩
set_option maxRecDepth 20000 in
set_option maxHeartbeats 4000000 in
theorem c_X11_fit_13 {G : sw_G} (d : Nat) {h0 : sw_H} (hJ : cJ h0) (hc : h0 0 1 = 13 ∧ h0 0 2 = 1) (y1 y2 : Int)  : sw_E G NH SH (d + 20) mX11_fit 0 [some (sw_r 0), some (sw_i y1), some (sw_i y2), none] [] h0 (sw_Qi (fun z h' => cK pr1 h0 h')) := by
  have hI : cK pr1 h0 h0 := cK.refl hJ
  have rw : (0 : Int) ≤ h0 13 0 ∧ h0 13 0 ≤ 6 := hI.1.1 13 0
  refine sx_aload_n dX11_fit_0 rfl ?_
  refine sx_getS (k := 11) (t := 189) cl_11 fl_X11_68 dX11_fit_1 s_0 (by decide) rfl (by decide) ?_
  refine sx_aload_n dX11_fit_4 rfl ?_
  refine sx_getR (k := 1) (t := 13) cl_11 fl_X11_10 dX11_fit_5 s_0 (by decide) rfl (by decide) (by omega) ?_
  refine sx_iload_n dX11_fit_8 rfl ?_
  refine sx_callVi lk_X11_302 cl_7 s_189 (by decide) dX11_fit_9 (vs := [_, _]) rfl rfl (Nat.le_of_ble_eq_true rfl) (Nat.le_of_ble_eq_true rfl) rfl (c_X7_collect_13 _ hI.1 _) (fun x2 h1 ph1 => ?_)
  obtain ⟨Kh1, n_h1, w_h1⟩ := ph1
  have Ih1 := hI.tr Kh1 sb_pr1_prG
  have th1_0_1 := Kh1.2 (0) 1 rfl
  have th1_0_2 := Kh1.2 (0) 2 rfl
  have th1_13_0 := Kh1.2 (13) 0 rfl
  refine sx_istore_n dX11_fit_12 (by decide) ?_
  refine sx_iload_n dX11_fit_13 rfl ?_
  refine sx_if_lt (tgt := 34) dX11_fit_14 (by decide) (fun c3 => ?_) (fun c3 => ?_)
  ·
    refine sx_iconst dX11_fit_34 ⟨by decide, by decide⟩ ?_
    refine sx_ireturn dX11_fit_35 ?_
    exact ⟨_, rfl, Ih1⟩
  ·
    refine sx_iload_n dX11_fit_17 rfl ?_
    refine sx_iload_n dX11_fit_18 rfl ?_
    refine sx_icmp_ge (tgt := 34) dX11_fit_19 (by decide) (fun c4 => ?_) (fun c4 => ?_)
    ·
      refine sx_iconst dX11_fit_34 ⟨by decide, by decide⟩ ?_
      refine sx_ireturn dX11_fit_35 ?_
      exact ⟨_, rfl, Ih1⟩
    ·
      refine sx_aload_n dX11_fit_22 rfl ?_
      refine sx_getS (k := 11) (t := 189) cl_11 fl_X11_68 dX11_fit_23 s_0 (by decide) rfl (by decide) ?_
      refine sx_getS (k := 9) (t := 213) cl_7 fl_X11_305 dX11_fit_26 s_189 (by decide) rfl (by decide) ?_
      refine sx_iload_n dX11_fit_29 rfl ?_
      refine sy_iaF (F := fun z => (0 : Int) ≤ z ∧ z ≤ 14) dX11_fit_30 s_213 (by decide) (by decide) ⟨by omega, by omega⟩ (Ih1.1.1 213 _) (fun r5 => ?_)
      refine sx_goto (tgt := 35) dX11_fit_31 (by decide) ?_
      refine sx_ireturn dX11_fit_35 ?_
      exact ⟨_, rfl, Ih1⟩
theorem c_X11_fit {G : sw_G} (d : Nat) {h0 : sw_H} (hJ : cJ h0) (y1 y2 : Int)  : sw_E G NH SH (d + 20) mX11_fit 0 [some (sw_r 0), some (sw_i y1), some (sw_i y2), none] [] h0 (sw_Qi (fun z h' => cK pr1 h0 h')) := by
  rcases (show (h0 0 1 = 1 ∧ h0 0 2 = 13) ∨ (h0 0 1 = 13 ∧ h0 0 2 = 1) from hJ.2 4 (by decide)) with q | q
  · exact c_X11_fit_1 d hJ q y1 y2 
  · exact c_X11_fit_13 d hJ q y1 y2 
set_option maxRecDepth 20000 in
set_option maxHeartbeats 4000000 in
theorem c_X11_ask_1 {G : sw_G} (d : Nat) {h0 : sw_H} (hJ : cJ h0) (hc : h0 0 1 = 1 ∧ h0 0 2 = 13) (y1 y2 y3 y4 : Int)  : sw_E G NH SH (d + 20) mX11_ask 0 [some (sw_r 0), some (sw_i y1), some (sw_i y2), some (sw_i y3), some (sw_i y4), none] [] h0 (sw_Qi (fun z h' => cK pr1 h0 h')) := by
  have hI : cK pr1 h0 h0 := cK.refl hJ
  have rw : (0 : Int) ≤ h0 1 0 ∧ h0 1 0 ≤ 6 := hI.1.1 1 0
  refine sx_iload_n dX11_ask_0 rfl ?_
  refine sx_callSz lk_X11_288 dX11_ask_1 (vs := [_]) rfl rfl (Nat.le_of_ble_eq_true rfl) (Nat.le_of_ble_eq_true rfl) rfl (c_X11_isDigit _ hI.1 _) (fun x2 h1 zx2 ph1 => ?_)
  obtain ⟨rfl, w_x2⟩ := ph1
  refine sx_if_eq (tgt := 23) dX11_ask_4 (by decide) (fun c3 => ?_) (fun c3 => ?_)
  ·
    refine sx_iconst dX11_ask_23 ⟨by decide, by decide⟩ ?_
    refine sx_ireturn dX11_ask_24 ?_
    exact ⟨_, rfl, hI⟩
  ·
    refine sx_iload_n dX11_ask_7 rfl ?_
    refine sx_callSz lk_X11_288 dX11_ask_8 (vs := [_]) rfl rfl (Nat.le_of_ble_eq_true rfl) (Nat.le_of_ble_eq_true rfl) rfl (c_X11_isDigit _ hI.1 _) (fun x5 h4 zx5 ph4 => ?_)
    obtain ⟨rfl, w_x5⟩ := ph4
    refine sx_if_eq (tgt := 23) dX11_ask_11 (by decide) (fun c6 => ?_) (fun c6 => ?_)
    ·
      refine sx_iconst dX11_ask_23 ⟨by decide, by decide⟩ ?_
      refine sx_ireturn dX11_ask_24 ?_
      exact ⟨_, rfl, hI⟩
    ·
      refine sx_iload_n dX11_ask_14 rfl ?_
      refine sx_if_lt (tgt := 23) dX11_ask_15 (by decide) (fun c7 => ?_) (fun c7 => ?_)
      ·
        refine sx_iconst dX11_ask_23 ⟨by decide, by decide⟩ ?_
        refine sx_ireturn dX11_ask_24 ?_
        exact ⟨_, rfl, hI⟩
      ·
        refine sx_iload_n dX11_ask_18 rfl ?_
        refine sx_iconst dX11_ask_19 ⟨by decide, by decide⟩ ?_
        refine sx_icmp_le (tgt := 25) dX11_ask_20 (by decide) (fun c8 => ?_) (fun c8 => ?_)
        ·
          refine sx_aload_n dX11_ask_25 rfl ?_
          refine sx_getS (k := 11) (t := 189) cl_11 fl_X11_68 dX11_ask_26 s_0 (by decide) rfl (by decide) ?_
          refine sx_aload_n dX11_ask_29 rfl ?_
          refine sx_getR (k := 1) (t := 1) cl_11 fl_X11_10 dX11_ask_30 s_0 (by decide) rfl (by decide) (by omega) ?_
          refine sx_iload dX11_ask_33 rfl ?_
          refine sx_callVi lk_X11_302 cl_7 s_189 (by decide) dX11_ask_35 (vs := [_, _]) rfl rfl (Nat.le_of_ble_eq_true rfl) (Nat.le_of_ble_eq_true rfl) rfl (c_X7_collect_1 _ hI.1 _) (fun x10 h9 ph9 => ?_)
          obtain ⟨Kh9, n_h9, w_h9⟩ := ph9
          have Ih9 := hI.tr Kh9 sb_pr1_prG
          have th9_0_1 := Kh9.2 (0) 1 rfl
          have th9_0_2 := Kh9.2 (0) 2 rfl
          have th9_1_0 := Kh9.2 (1) 0 rfl
          refine sx_if_ne (tgt := 43) dX11_ask_38 (by decide) (fun c11 => ?_) (fun c11 => ?_)
          ·
            refine sx_aload_n dX11_ask_43 rfl ?_
            refine sx_getS (k := 11) (t := 189) cl_11 fl_X11_68 dX11_ask_44 s_0 (by decide) rfl (by decide) ?_
            refine sx_aload_n dX11_ask_47 rfl ?_
            refine sx_getR (k := 1) (t := 1) cl_11 fl_X11_10 dX11_ask_48 s_0 (by decide) rfl (by decide) (by omega) ?_
            refine sx_iload_n dX11_ask_51 rfl ?_
            refine sx_bipush dX11_ask_52 ⟨by decide, by decide, by decide⟩ ?_
            refine sx_imul dX11_ask_54 ?_
            refine sy_topw (by omega) ?_
            refine sx_iload_n dX11_ask_55 rfl ?_
            refine sx_iadd dX11_ask_56 ?_
            refine sy_topw (by omega) ?_
            refine sx_callVi lk_X11_308 cl_7 s_189 (by decide) dX11_ask_57 (vs := [_, _]) rfl rfl (Nat.le_of_ble_eq_true rfl) (Nat.le_of_ble_eq_true rfl) rfl (c_X7_nextToTry_1 _ Ih9.1 _ (by omega)) (fun x13 h12 ph12 => ?_)
            have Kh12 := ph12
            have Ih12 := Ih9.tr Kh12 sb_pr1_prG
            have th12_0_1 := Kh12.2 (0) 1 rfl
            have th12_0_2 := Kh12.2 (0) 2 rfl
            have th12_1_0 := Kh12.2 (1) 0 rfl
            refine sx_istore dX11_ask_60 (by decide) ?_
            refine sx_iload_n dX11_ask_62 rfl ?_
            refine sx_if_ne (tgt := 71) dX11_ask_63 (by decide) (fun c14 => ?_) (fun c14 => ?_)
            ·
              refine sx_aload_n dX11_ask_71 rfl ?_
              refine sx_getS (k := 11) (t := 189) cl_11 fl_X11_68 dX11_ask_72 s_0 (by decide) rfl (by decide) ?_
              refine sx_aload_n dX11_ask_75 rfl ?_
              refine sx_getR (k := 1) (t := 1) cl_11 fl_X11_10 dX11_ask_76 s_0 (by decide) rfl (by decide) (by omega) ?_
              refine sx_iload_n dX11_ask_79 rfl ?_
              refine sx_bipush dX11_ask_80 ⟨by decide, by decide, by decide⟩ ?_
              refine sx_imul dX11_ask_82 ?_
              refine sy_topw (by omega) ?_
              refine sx_iload_n dX11_ask_83 rfl ?_
              refine sx_bipush dX11_ask_84 ⟨by decide, by decide, by decide⟩ ?_
              refine sx_imul dX11_ask_86 ?_
              refine sy_topw (by omega) ?_
              refine sx_iadd dX11_ask_87 ?_
              refine sy_topw (by omega) ?_
              refine sx_iload dX11_ask_88 rfl ?_
              refine sx_iadd dX11_ask_90 ?_
              refine sx_callVi lk_X11_311 cl_7 s_189 (by decide) dX11_ask_91 (vs := [_, _]) rfl rfl (Nat.le_of_ble_eq_true rfl) (Nat.le_of_ble_eq_true rfl) rfl (c_X7_leftAtMost_1 _ Ih12.1 _ (by omega)) (fun x16 h15 ph15 => ?_)
              have Kh15 := ph15
              have Ih15 := Ih12.tr Kh15 sb_pr1_prG
              have th15_0_1 := Kh15.2 (0) 1 rfl
              have th15_0_2 := Kh15.2 (0) 2 rfl
              have th15_1_0 := Kh15.2 (1) 0 rfl
              refine sx_ireturn dX11_ask_94 ?_
              exact ⟨_, rfl, Ih15⟩
            ·
              refine sx_iload dX11_ask_66 rfl ?_
              refine sx_goto (tgt := 94) dX11_ask_68 (by decide) ?_
              refine sx_ireturn dX11_ask_94 ?_
              exact ⟨_, rfl, Ih12⟩
          ·
            refine sx_iconst dX11_ask_41 ⟨by decide, by decide⟩ ?_
            refine sx_ireturn dX11_ask_42 ?_
            exact ⟨_, rfl, Ih9⟩
        ·
          refine sx_iconst dX11_ask_23 ⟨by decide, by decide⟩ ?_
          refine sx_ireturn dX11_ask_24 ?_
          exact ⟨_, rfl, hI⟩
set_option maxRecDepth 20000 in
set_option maxHeartbeats 4000000 in
theorem c_X11_ask_13 {G : sw_G} (d : Nat) {h0 : sw_H} (hJ : cJ h0) (hc : h0 0 1 = 13 ∧ h0 0 2 = 1) (y1 y2 y3 y4 : Int)  : sw_E G NH SH (d + 20) mX11_ask 0 [some (sw_r 0), some (sw_i y1), some (sw_i y2), some (sw_i y3), some (sw_i y4), none] [] h0 (sw_Qi (fun z h' => cK pr1 h0 h')) := by
  have hI : cK pr1 h0 h0 := cK.refl hJ
  have rw : (0 : Int) ≤ h0 13 0 ∧ h0 13 0 ≤ 6 := hI.1.1 13 0
  refine sx_iload_n dX11_ask_0 rfl ?_
  refine sx_callSz lk_X11_288 dX11_ask_1 (vs := [_]) rfl rfl (Nat.le_of_ble_eq_true rfl) (Nat.le_of_ble_eq_true rfl) rfl (c_X11_isDigit _ hI.1 _) (fun x2 h1 zx2 ph1 => ?_)
  obtain ⟨rfl, w_x2⟩ := ph1
  refine sx_if_eq (tgt := 23) dX11_ask_4 (by decide) (fun c3 => ?_) (fun c3 => ?_)
  ·
    refine sx_iconst dX11_ask_23 ⟨by decide, by decide⟩ ?_
    refine sx_ireturn dX11_ask_24 ?_
    exact ⟨_, rfl, hI⟩
  ·
    refine sx_iload_n dX11_ask_7 rfl ?_
    refine sx_callSz lk_X11_288 dX11_ask_8 (vs := [_]) rfl rfl (Nat.le_of_ble_eq_true rfl) (Nat.le_of_ble_eq_true rfl) rfl (c_X11_isDigit _ hI.1 _) (fun x5 h4 zx5 ph4 => ?_)
    obtain ⟨rfl, w_x5⟩ := ph4
    refine sx_if_eq (tgt := 23) dX11_ask_11 (by decide) (fun c6 => ?_) (fun c6 => ?_)
    ·
      refine sx_iconst dX11_ask_23 ⟨by decide, by decide⟩ ?_
      refine sx_ireturn dX11_ask_24 ?_
      exact ⟨_, rfl, hI⟩
    ·
      refine sx_iload_n dX11_ask_14 rfl ?_
      refine sx_if_lt (tgt := 23) dX11_ask_15 (by decide) (fun c7 => ?_) (fun c7 => ?_)
      ·
        refine sx_iconst dX11_ask_23 ⟨by decide, by decide⟩ ?_
        refine sx_ireturn dX11_ask_24 ?_
        exact ⟨_, rfl, hI⟩
      ·
        refine sx_iload_n dX11_ask_18 rfl ?_
        refine sx_iconst dX11_ask_19 ⟨by decide, by decide⟩ ?_
        refine sx_icmp_le (tgt := 25) dX11_ask_20 (by decide) (fun c8 => ?_) (fun c8 => ?_)
        ·
          refine sx_aload_n dX11_ask_25 rfl ?_
          refine sx_getS (k := 11) (t := 189) cl_11 fl_X11_68 dX11_ask_26 s_0 (by decide) rfl (by decide) ?_
          refine sx_aload_n dX11_ask_29 rfl ?_
          refine sx_getR (k := 1) (t := 13) cl_11 fl_X11_10 dX11_ask_30 s_0 (by decide) rfl (by decide) (by omega) ?_
          refine sx_iload dX11_ask_33 rfl ?_
          refine sx_callVi lk_X11_302 cl_7 s_189 (by decide) dX11_ask_35 (vs := [_, _]) rfl rfl (Nat.le_of_ble_eq_true rfl) (Nat.le_of_ble_eq_true rfl) rfl (c_X7_collect_13 _ hI.1 _) (fun x10 h9 ph9 => ?_)
          obtain ⟨Kh9, n_h9, w_h9⟩ := ph9
          have Ih9 := hI.tr Kh9 sb_pr1_prG
          have th9_0_1 := Kh9.2 (0) 1 rfl
          have th9_0_2 := Kh9.2 (0) 2 rfl
          have th9_13_0 := Kh9.2 (13) 0 rfl
          refine sx_if_ne (tgt := 43) dX11_ask_38 (by decide) (fun c11 => ?_) (fun c11 => ?_)
          ·
            refine sx_aload_n dX11_ask_43 rfl ?_
            refine sx_getS (k := 11) (t := 189) cl_11 fl_X11_68 dX11_ask_44 s_0 (by decide) rfl (by decide) ?_
            refine sx_aload_n dX11_ask_47 rfl ?_
            refine sx_getR (k := 1) (t := 13) cl_11 fl_X11_10 dX11_ask_48 s_0 (by decide) rfl (by decide) (by omega) ?_
            refine sx_iload_n dX11_ask_51 rfl ?_
            refine sx_bipush dX11_ask_52 ⟨by decide, by decide, by decide⟩ ?_
            refine sx_imul dX11_ask_54 ?_
            refine sy_topw (by omega) ?_
            refine sx_iload_n dX11_ask_55 rfl ?_
            refine sx_iadd dX11_ask_56 ?_
            refine sy_topw (by omega) ?_
            refine sx_callVi lk_X11_308 cl_7 s_189 (by decide) dX11_ask_57 (vs := [_, _]) rfl rfl (Nat.le_of_ble_eq_true rfl) (Nat.le_of_ble_eq_true rfl) rfl (c_X7_nextToTry_13 _ Ih9.1 _ (by omega)) (fun x13 h12 ph12 => ?_)
            have Kh12 := ph12
            have Ih12 := Ih9.tr Kh12 sb_pr1_prG
            have th12_0_1 := Kh12.2 (0) 1 rfl
            have th12_0_2 := Kh12.2 (0) 2 rfl
            have th12_13_0 := Kh12.2 (13) 0 rfl
            refine sx_istore dX11_ask_60 (by decide) ?_
            refine sx_iload_n dX11_ask_62 rfl ?_
            refine sx_if_ne (tgt := 71) dX11_ask_63 (by decide) (fun c14 => ?_) (fun c14 => ?_)
            ·
              refine sx_aload_n dX11_ask_71 rfl ?_
              refine sx_getS (k := 11) (t := 189) cl_11 fl_X11_68 dX11_ask_72 s_0 (by decide) rfl (by decide) ?_
              refine sx_aload_n dX11_ask_75 rfl ?_
              refine sx_getR (k := 1) (t := 13) cl_11 fl_X11_10 dX11_ask_76 s_0 (by decide) rfl (by decide) (by omega) ?_
              refine sx_iload_n dX11_ask_79 rfl ?_
              refine sx_bipush dX11_ask_80 ⟨by decide, by decide, by decide⟩ ?_
              refine sx_imul dX11_ask_82 ?_
              refine sy_topw (by omega) ?_
              refine sx_iload_n dX11_ask_83 rfl ?_
              refine sx_bipush dX11_ask_84 ⟨by decide, by decide, by decide⟩ ?_
              refine sx_imul dX11_ask_86 ?_
              refine sy_topw (by omega) ?_
              refine sx_iadd dX11_ask_87 ?_
              refine sy_topw (by omega) ?_
              refine sx_iload dX11_ask_88 rfl ?_
              refine sx_iadd dX11_ask_90 ?_
              refine sx_callVi lk_X11_311 cl_7 s_189 (by decide) dX11_ask_91 (vs := [_, _]) rfl rfl (Nat.le_of_ble_eq_true rfl) (Nat.le_of_ble_eq_true rfl) rfl (c_X7_leftAtMost_13 _ Ih12.1 _ (by omega)) (fun x16 h15 ph15 => ?_)
              have Kh15 := ph15
              have Ih15 := Ih12.tr Kh15 sb_pr1_prG
              have th15_0_1 := Kh15.2 (0) 1 rfl
              have th15_0_2 := Kh15.2 (0) 2 rfl
              have th15_13_0 := Kh15.2 (13) 0 rfl
              refine sx_ireturn dX11_ask_94 ?_
              exact ⟨_, rfl, Ih15⟩
            ·
              refine sx_iload dX11_ask_66 rfl ?_
              refine sx_goto (tgt := 94) dX11_ask_68 (by decide) ?_
              refine sx_ireturn dX11_ask_94 ?_
              exact ⟨_, rfl, Ih12⟩
          ·
            refine sx_iconst dX11_ask_41 ⟨by decide, by decide⟩ ?_
            refine sx_ireturn dX11_ask_42 ?_
            exact ⟨_, rfl, Ih9⟩
        ·
          refine sx_iconst dX11_ask_23 ⟨by decide, by decide⟩ ?_
          refine sx_ireturn dX11_ask_24 ?_
          exact ⟨_, rfl, hI⟩
theorem c_X11_ask {G : sw_G} (d : Nat) {h0 : sw_H} (hJ : cJ h0) (y1 y2 y3 y4 : Int)  : sw_E G NH SH (d + 20) mX11_ask 0 [some (sw_r 0), some (sw_i y1), some (sw_i y2), some (sw_i y3), some (sw_i y4), none] [] h0 (sw_Qi (fun z h' => cK pr1 h0 h')) := by
  rcases (show (h0 0 1 = 1 ∧ h0 0 2 = 13) ∨ (h0 0 1 = 13 ∧ h0 0 2 = 1) from hJ.2 4 (by decide)) with q | q
  · exact c_X11_ask_1 d hJ q y1 y2 y3 y4 
  · exact c_X11_ask_13 d hJ q y1 y2 y3 y4 
set_option maxRecDepth 20000 in
set_option maxHeartbeats 4000000 in
theorem c_X11_image {G : sw_G} (d : Nat) {h0 : sw_H} (hJ : cJ h0) (y1 : Int)  : sw_E G NH SH (d + 2) mX11_image 0 [some (sw_r 0), some (sw_i y1)] [] h0 (sw_Qi (fun z h' => cK pr1 h0 h')) := by
  have hI : cK pr1 h0 h0 := cK.refl hJ
  refine sx_iload_n dX11_image_0 rfl ?_
  refine sx_if_lt (tgt := 9) dX11_image_1 (by decide) (fun c1 => ?_) (fun c1 => ?_)
  ·
    refine sx_iconst dX11_image_9 ⟨by decide, by decide⟩ ?_
    refine sx_ireturn dX11_image_10 ?_
    exact ⟨_, rfl, hI⟩
  ·
    refine sx_iload_n dX11_image_4 rfl ?_
    refine sx_iconst dX11_image_5 ⟨by decide, by decide⟩ ?_
    refine sx_icmp_lt (tgt := 11) dX11_image_6 (by decide) (fun c2 => ?_) (fun c2 => ?_)
    ·
      refine sx_aload_n dX11_image_11 rfl ?_
      refine sx_dupr dX11_image_12 ?_
      refine sx_getI (k := 7) cl_11 fl_X11_112 dX11_image_13 s_0 (by decide) rfl (by decide) ?_
      refine sx_iconst dX11_image_16 ⟨by decide, by decide⟩ ?_
      refine sx_iload_n dX11_image_17 rfl ?_
      refine sx_ishl dX11_image_18 ?_
      refine sx_ior dX11_image_19 ?_
      refine sy_putI (k := 7) cl_11 fl_X11_112 dX11_image_20 s_0 (by decide) rfl (by decide) rfl rfl (fun h3 eh3 => ?_)
      have Ih3 := hI.up eh3 trivial rfl rfl
      have th3_0_7 := eh3.1
      refine sx_aload_n dX11_image_23 rfl ?_
      refine sx_getS (k := 6) (t := 173) cl_11 fl_X11_42 dX11_image_24 s_0 (by decide) rfl (by decide) ?_
      refine sx_iload_n dX11_image_27 rfl ?_
      refine sx_aaload dX11_image_28 s_173 (by decide) (by decide) ⟨by omega, by omega⟩ ?_
      refine sy_refn (fun b4 eb4 => ?_)
      have hb4m : b4 ∈ stL := by rw [eb4]; exact box_mem (by omega) (by omega)
      obtain ⟨Sb40, Sb41, Sb42, bb4⟩ := s_St b4 hb4m
      have Bb40 : b4 < NH := show b4 < 290 by omega
      have Bb41 : b4 + 1 < NH := show b4 + 1 < 290 by omega
      have Bb42 : b4 + 2 < NH := show b4 + 2 < 290 by omega
      refine sx_aload_n dX11_image_29 rfl ?_
      refine sx_getS (k := 5) (t := 48) cl_11 fl_X11_36 dX11_image_30 s_0 (by decide) rfl (by decide) ?_
      refine sx_callVr lk_X11_147 cl_9 s_48 (by decide) dX11_image_33 (vs := []) rfl rfl (Nat.le_of_ble_eq_true rfl) (Nat.le_of_ble_eq_true rfl) ⟨_, rfl⟩ (c_X9_state _ Ih3.1) (fun x6 h5 ph5 => ?_)
      obtain ⟨Kh5, m_h5⟩ := ph5
      have Ih5 := Ih3.tr Kh5 sb_pr1_prL
      have th5_0_7 := Kh5.2 (0) 7 rfl
      have hx6m := m_h5
      obtain ⟨Sx60, Sx61, Sx62, bx6⟩ := s_St x6 hx6m
      have Bx60 : x6 < NH := show x6 < 290 by omega
      have Bx61 : x6 + 1 < NH := show x6 + 1 < 290 by omega
      have Bx62 : x6 + 2 < NH := show x6 + 2 < 290 by omega
      refine sx_callVv lk_X11_314 cl_8 Sb40 Bb40 dX11_image_36 (vs := [_]) rfl rfl (Nat.le_of_ble_eq_true rfl) (Nat.le_of_ble_eq_true rfl) rfl (c_X8_copyFrom _ Ih5.1 (b4) hb4m (x6) hx6m) (fun h7 ph7 => ?_)
      have Kh7 := ph7
      have Ih7 := Ih5.tr Kh7 sb_pr1_prS
      have th7_0_7 := Kh7.2 (0) 7 rfl
      refine sx_aload_n dX11_image_39 rfl ?_
      refine sx_getS (k := 6) (t := 173) cl_11 fl_X11_42 dX11_image_40 s_0 (by decide) rfl (by decide) ?_
      refine sx_iload_n dX11_image_43 rfl ?_
      refine sx_aaload dX11_image_44 s_173 (by decide) (by decide) ⟨by omega, by omega⟩ ?_
      refine sy_refn (fun b9 eb9 => ?_)
      have hb9m : b9 ∈ stL := by rw [eb9]; exact box_mem (by omega) (by omega)
      obtain ⟨Sb90, Sb91, Sb92, bb9⟩ := s_St b9 hb9m
      have Bb90 : b9 < NH := show b9 < 290 by omega
      have Bb91 : b9 + 1 < NH := show b9 + 1 < 290 by omega
      have Bb92 : b9 + 2 < NH := show b9 + 2 < 290 by omega
      refine sx_getI (k := 1) cl_8 fl_X11_163 dX11_image_45 Sb90 Bb90 rfl (by decide) ?_
      have r10 : (0 : Int) ≤ h7 (b9) 1 ∧ h7 (b9) 1 ≤ 24 := (okc_of (St_ok1 b9 hb9m).1) ▸ Ih7.1.1 (b9) 1
      refine sx_ireturn dX11_image_48 ?_
      exact ⟨_, rfl, Ih7⟩
    ·
      refine sx_iconst dX11_image_9 ⟨by decide, by decide⟩ ?_
      refine sx_ireturn dX11_image_10 ?_
      exact ⟨_, rfl, hI⟩
set_option maxRecDepth 20000 in
set_option maxHeartbeats 4000000 in
theorem c_X11_back {G : sw_G} (d : Nat) {h0 : sw_H} (hJ : cJ h0) (y1 : Int)  : sw_E G NH SH (d + 2) mX11_back 0 [some (sw_r 0), some (sw_i y1)] [] h0 (sw_Qi (fun z h' => cK pr1 h0 h')) := by
  have hI : cK pr1 h0 h0 := cK.refl hJ
  refine sx_iload_n dX11_back_0 rfl ?_
  refine sx_if_lt (tgt := 20) dX11_back_1 (by decide) (fun c1 => ?_) (fun c1 => ?_)
  ·
    refine sx_iconst dX11_back_20 ⟨by decide, by decide⟩ ?_
    refine sx_ireturn dX11_back_21 ?_
    exact ⟨_, rfl, hI⟩
  ·
    refine sx_iload_n dX11_back_4 rfl ?_
    refine sx_iconst dX11_back_5 ⟨by decide, by decide⟩ ?_
    refine sx_icmp_ge (tgt := 20) dX11_back_6 (by decide) (fun c2 => ?_) (fun c2 => ?_)
    ·
      refine sx_iconst dX11_back_20 ⟨by decide, by decide⟩ ?_
      refine sx_ireturn dX11_back_21 ?_
      exact ⟨_, rfl, hI⟩
    ·
      refine sx_aload_n dX11_back_9 rfl ?_
      refine sx_getI (k := 7) cl_11 fl_X11_112 dX11_back_10 s_0 (by decide) rfl (by decide) ?_
      refine sx_iload_n dX11_back_13 rfl ?_
      refine sx_ishr dX11_back_14 ?_
      refine sx_iconst dX11_back_15 ⟨by decide, by decide⟩ ?_
      refine sx_iand dX11_back_16 ?_
      refine sx_if_ne (tgt := 22) dX11_back_17 (by decide) (fun c3 => ?_) (fun c3 => ?_)
      ·
        refine sx_aload_n dX11_back_22 rfl ?_
        refine sx_getS (k := 5) (t := 48) cl_11 fl_X11_36 dX11_back_23 s_0 (by decide) rfl (by decide) ?_
        refine sx_callVr lk_X11_102 cl_9 s_48 (by decide) dX11_back_26 (vs := []) rfl rfl (Nat.le_of_ble_eq_true rfl) (Nat.le_of_ble_eq_true rfl) ⟨_, rfl⟩ (c_X9_restart _ hI.1) (fun x5 h4 ph4 => ?_)
        obtain ⟨Kh4, m_h4⟩ := ph4
        have Ih4 := hI.tr Kh4 sb_pr1_prL
        have th4_0_7 := Kh4.2 (0) 7 rfl
        have hx5m := m_h4
        obtain ⟨Sx50, Sx51, Sx52, bx5⟩ := s_St x5 hx5m
        have Bx50 : x5 < NH := show x5 < 290 by omega
        have Bx51 : x5 + 1 < NH := show x5 + 1 < 290 by omega
        have Bx52 : x5 + 2 < NH := show x5 + 2 < 290 by omega
        refine sx_aload_n dX11_back_29 rfl ?_
        refine sx_getS (k := 6) (t := 173) cl_11 fl_X11_42 dX11_back_30 s_0 (by decide) rfl (by decide) ?_
        refine sx_iload_n dX11_back_33 rfl ?_
        refine sx_aaload dX11_back_34 s_173 (by decide) (by decide) ⟨by omega, by omega⟩ ?_
        refine sy_refn (fun b6 eb6 => ?_)
        have hb6m : b6 ∈ stL := by rw [eb6]; exact box_mem (by omega) (by omega)
        obtain ⟨Sb60, Sb61, Sb62, bb6⟩ := s_St b6 hb6m
        have Bb60 : b6 < NH := show b6 < 290 by omega
        have Bb61 : b6 + 1 < NH := show b6 + 1 < 290 by omega
        have Bb62 : b6 + 2 < NH := show b6 + 2 < 290 by omega
        refine sx_callVv lk_X11_314 cl_8 Sx50 Bx50 dX11_back_35 (vs := [_]) rfl rfl (Nat.le_of_ble_eq_true rfl) (Nat.le_of_ble_eq_true rfl) rfl (c_X8_copyFrom _ Ih4.1 (x5) hx5m (b6) hb6m) (fun h7 ph7 => ?_)
        have Kh7 := ph7
        have Ih7 := Ih4.tr Kh7 sb_pr1_prS
        have th7_0_7 := Kh7.2 (0) 7 rfl
        refine sx_aload_n dX11_back_38 rfl ?_
        refine sx_getS (k := 6) (t := 173) cl_11 fl_X11_42 dX11_back_39 s_0 (by decide) rfl (by decide) ?_
        refine sx_iload_n dX11_back_42 rfl ?_
        refine sx_aaload dX11_back_43 s_173 (by decide) (by decide) ⟨by omega, by omega⟩ ?_
        refine sy_refn (fun b9 eb9 => ?_)
        have hb9m : b9 ∈ stL := by rw [eb9]; exact box_mem (by omega) (by omega)
        obtain ⟨Sb90, Sb91, Sb92, bb9⟩ := s_St b9 hb9m
        have Bb90 : b9 < NH := show b9 < 290 by omega
        have Bb91 : b9 + 1 < NH := show b9 + 1 < 290 by omega
        have Bb92 : b9 + 2 < NH := show b9 + 2 < 290 by omega
        refine sx_getI (k := 1) cl_8 fl_X11_163 dX11_back_44 Sb90 Bb90 rfl (by decide) ?_
        have r10 : (0 : Int) ≤ h7 (b9) 1 ∧ h7 (b9) 1 ≤ 24 := (okc_of (St_ok1 b9 hb9m).1) ▸ Ih7.1.1 (b9) 1
        refine sx_ireturn dX11_back_47 ?_
        exact ⟨_, rfl, Ih7⟩
      ·
        refine sx_iconst dX11_back_20 ⟨by decide, by decide⟩ ?_
        refine sx_ireturn dX11_back_21 ?_
        exact ⟨_, rfl, hI⟩
set_option maxRecDepth 20000 in
set_option maxHeartbeats 4000000 in
theorem c_X11_about_1 {G : sw_G} (d : Nat) {h0 : sw_H} (hJ : cJ h0) (hc : h0 0 1 = 1 ∧ h0 0 2 = 13) (y1 : Int)  : sw_E G NH SH (d + 1) mX11_about 0 [some (sw_r 0), some (sw_i y1)] [] h0 (sw_Qi (fun z h' => cK pr1 h0 h')) := by
  have hI : cK pr1 h0 h0 := cK.refl hJ
  have rw : (0 : Int) ≤ h0 1 0 ∧ h0 1 0 ≤ 6 := hI.1.1 1 0
  refine sx_iload_n dX11_about_0 rfl ?_
  refine sx_tsw (dt := 198) (ts := [72, 80, 88, 99, 110, 121, 132, 140, 156, 164, 169, 174, 182, 190]) dX11_about_1 (by decide) (by decide) (by decide) (fun c1 => ?_) (And.intro (fun c1 => ?_) (And.intro (fun c1 => ?_) (And.intro (fun c1 => ?_) (And.intro (fun c1 => ?_) (And.intro (fun c1 => ?_) (And.intro (fun c1 => ?_) (And.intro (fun c1 => ?_) (And.intro (fun c1 => ?_) (And.intro (fun c1 => ?_) (And.intro (fun c1 => ?_) (And.intro (fun c1 => ?_) (And.intro (fun c1 => ?_) (And.intro (fun c1 => ?_) (And.intro (fun c1 => ?_) trivial))))))))))))))
  ·
    refine sx_iconst dX11_about_198 ⟨by decide, by decide⟩ ?_
    refine sx_ireturn dX11_about_199 ?_
    exact ⟨_, rfl, hI⟩
  ·
    refine sx_aload_n dX11_about_72 rfl ?_
    refine sx_getR (k := 1) (t := 1) cl_11 fl_X11_10 dX11_about_73 s_0 (by decide) rfl (by decide) (by omega) ?_
    refine sx_getI (k := 0) cl_0 fl_X11_121 dX11_about_76 s_1 (by decide) rfl (by decide) ?_
    have r2 : (0 : Int) ≤ h0 1 0 ∧ h0 1 0 ≤ 6 := hI.1.1 1 0
    refine sx_ireturn dX11_about_79 ?_
    exact ⟨_, rfl, hI⟩
  ·
    refine sx_aload_n dX11_about_80 rfl ?_
    refine sx_getR (k := 1) (t := 1) cl_11 fl_X11_10 dX11_about_81 s_0 (by decide) rfl (by decide) (by omega) ?_
    refine sx_getI (k := 1) cl_0 fl_X11_318 dX11_about_84 s_1 (by decide) rfl (by decide) ?_
    have r3 : (0 : Int) ≤ h0 1 1 ∧ h0 1 1 ≤ 60 := hI.1.1 1 1
    refine sx_ireturn dX11_about_87 ?_
    exact ⟨_, rfl, hI⟩
  ·
    refine sx_aload_n dX11_about_88 rfl ?_
    refine sx_getS (k := 5) (t := 48) cl_11 fl_X11_36 dX11_about_89 s_0 (by decide) rfl (by decide) ?_
    refine sx_callVr lk_X11_147 cl_9 s_48 (by decide) dX11_about_92 (vs := []) rfl rfl (Nat.le_of_ble_eq_true rfl) (Nat.le_of_ble_eq_true rfl) ⟨_, rfl⟩ (c_X9_state _ hI.1) (fun x5 h4 ph4 => ?_)
    obtain ⟨Kh4, m_h4⟩ := ph4
    have Ih4 := hI.tr Kh4 sb_pr1_prL
    have th4_0_1 := Kh4.2 (0) 1 rfl
    have th4_0_2 := Kh4.2 (0) 2 rfl
    have th4_1_0 := Kh4.2 (1) 0 rfl
    have hx5m := m_h4
    obtain ⟨Sx50, Sx51, Sx52, bx5⟩ := s_St x5 hx5m
    have Bx50 : x5 < NH := show x5 < 290 by omega
    have Bx51 : x5 + 1 < NH := show x5 + 1 < 290 by omega
    have Bx52 : x5 + 2 < NH := show x5 + 2 < 290 by omega
    refine sx_getI (k := 1) cl_8 fl_X11_163 dX11_about_95 Sx50 Bx50 rfl (by decide) ?_
    have r6 : (0 : Int) ≤ h4 (x5) 1 ∧ h4 (x5) 1 ≤ 24 := (okc_of (St_ok1 x5 hx5m).1) ▸ Ih4.1.1 (x5) 1
    refine sx_ireturn dX11_about_98 ?_
    exact ⟨_, rfl, Ih4⟩
  ·
    refine sx_aload_n dX11_about_99 rfl ?_
    refine sx_getS (k := 5) (t := 48) cl_11 fl_X11_36 dX11_about_100 s_0 (by decide) rfl (by decide) ?_
    refine sx_callVr lk_X11_147 cl_9 s_48 (by decide) dX11_about_103 (vs := []) rfl rfl (Nat.le_of_ble_eq_true rfl) (Nat.le_of_ble_eq_true rfl) ⟨_, rfl⟩ (c_X9_state _ hI.1) (fun x8 h7 ph7 => ?_)
    obtain ⟨Kh7, m_h7⟩ := ph7
    have Ih7 := hI.tr Kh7 sb_pr1_prL
    have th7_0_1 := Kh7.2 (0) 1 rfl
    have th7_0_2 := Kh7.2 (0) 2 rfl
    have th7_1_0 := Kh7.2 (1) 0 rfl
    have hx8m := m_h7
    obtain ⟨Sx80, Sx81, Sx82, bx8⟩ := s_St x8 hx8m
    have Bx80 : x8 < NH := show x8 < 290 by omega
    have Bx81 : x8 + 1 < NH := show x8 + 1 < 290 by omega
    have Bx82 : x8 + 2 < NH := show x8 + 2 < 290 by omega
    refine sx_getI (k := 3) cl_8 fl_X11_181 dX11_about_106 Sx80 Bx80 rfl (by decide) ?_
    have r9 : (0 : Int) ≤ h7 (x8) 3 ∧ h7 (x8) 3 ≤ 42 := (okc_of (St_ok1 x8 hx8m).2.1) ▸ Ih7.1.1 (x8) 3
    refine sx_ireturn dX11_about_109 ?_
    exact ⟨_, rfl, Ih7⟩
  ·
    refine sx_aload_n dX11_about_110 rfl ?_
    refine sx_getS (k := 5) (t := 48) cl_11 fl_X11_36 dX11_about_111 s_0 (by decide) rfl (by decide) ?_
    refine sx_callVr lk_X11_147 cl_9 s_48 (by decide) dX11_about_114 (vs := []) rfl rfl (Nat.le_of_ble_eq_true rfl) (Nat.le_of_ble_eq_true rfl) ⟨_, rfl⟩ (c_X9_state _ hI.1) (fun x11 h10 ph10 => ?_)
    obtain ⟨Kh10, m_h10⟩ := ph10
    have Ih10 := hI.tr Kh10 sb_pr1_prL
    have th10_0_1 := Kh10.2 (0) 1 rfl
    have th10_0_2 := Kh10.2 (0) 2 rfl
    have th10_1_0 := Kh10.2 (1) 0 rfl
    have hx11m := m_h10
    obtain ⟨Sx110, Sx111, Sx112, bx11⟩ := s_St x11 hx11m
    have Bx110 : x11 < NH := show x11 < 290 by omega
    have Bx111 : x11 + 1 < NH := show x11 + 1 < 290 by omega
    have Bx112 : x11 + 2 < NH := show x11 + 2 < 290 by omega
    refine sx_getI (k := 4) cl_8 fl_X11_150 dX11_about_117 Sx110 Bx110 rfl (by decide) ?_
    refine sx_ireturn dX11_about_120 ?_
    exact ⟨_, rfl, Ih10⟩
  ·
    refine sx_aload_n dX11_about_121 rfl ?_
    refine sx_getS (k := 5) (t := 48) cl_11 fl_X11_36 dX11_about_122 s_0 (by decide) rfl (by decide) ?_
    refine sx_callVr lk_X11_147 cl_9 s_48 (by decide) dX11_about_125 (vs := []) rfl rfl (Nat.le_of_ble_eq_true rfl) (Nat.le_of_ble_eq_true rfl) ⟨_, rfl⟩ (c_X9_state _ hI.1) (fun x13 h12 ph12 => ?_)
    obtain ⟨Kh12, m_h12⟩ := ph12
    have Ih12 := hI.tr Kh12 sb_pr1_prL
    have th12_0_1 := Kh12.2 (0) 1 rfl
    have th12_0_2 := Kh12.2 (0) 2 rfl
    have th12_1_0 := Kh12.2 (1) 0 rfl
    have hx13m := m_h12
    obtain ⟨Sx130, Sx131, Sx132, bx13⟩ := s_St x13 hx13m
    have Bx130 : x13 < NH := show x13 < 290 by omega
    have Bx131 : x13 + 1 < NH := show x13 + 1 < 290 by omega
    have Bx132 : x13 + 2 < NH := show x13 + 2 < 290 by omega
    refine sx_getI (k := 5) cl_8 fl_X11_321 dX11_about_128 Sx130 Bx130 rfl (by decide) ?_
    refine sx_ireturn dX11_about_131 ?_
    exact ⟨_, rfl, Ih12⟩
  ·
    refine sx_aload_n dX11_about_132 rfl ?_
    refine sx_getS (k := 5) (t := 48) cl_11 fl_X11_36 dX11_about_133 s_0 (by decide) rfl (by decide) ?_
    refine sx_getI (k := 2) cl_9 fl_X11_324 dX11_about_136 s_48 (by decide) rfl (by decide) ?_
    have r14 : (0 : Int) ≤ h0 48 2 ∧ h0 48 2 ≤ 40 := hI.1.1 48 2
    refine sx_ireturn dX11_about_139 ?_
    exact ⟨_, rfl, hI⟩
  ·
    refine sx_aload_n dX11_about_140 rfl ?_
    refine sx_getS (k := 5) (t := 48) cl_11 fl_X11_36 dX11_about_141 s_0 (by decide) rfl (by decide) ?_
    refine sx_getI (k := 3) cl_9 fl_X11_327 dX11_about_144 s_48 (by decide) rfl (by decide) ?_
    have r15 : (0 : Int) ≤ h0 48 3 ∧ h0 48 3 ≤ 40 := hI.1.1 48 3
    refine sx_aload_n dX11_about_147 rfl ?_
    refine sx_getS (k := 5) (t := 48) cl_11 fl_X11_36 dX11_about_148 s_0 (by decide) rfl (by decide) ?_
    refine sx_getI (k := 2) cl_9 fl_X11_324 dX11_about_151 s_48 (by decide) rfl (by decide) ?_
    have r16 : (0 : Int) ≤ h0 48 2 ∧ h0 48 2 ≤ 40 := hI.1.1 48 2
    refine sx_isub dX11_about_154 ?_
    refine sy_topw (by omega) ?_
    refine sx_ireturn dX11_about_155 ?_
    exact ⟨_, rfl, hI⟩
  ·
    refine sx_aload_n dX11_about_156 rfl ?_
    refine sx_getS (k := 11) (t := 189) cl_11 fl_X11_68 dX11_about_157 s_0 (by decide) rfl (by decide) ?_
    refine sx_getI (k := 8) cl_7 fl_X11_330 dX11_about_160 s_189 (by decide) rfl (by decide) ?_
    have r17 : (0 : Int) ≤ h0 189 8 ∧ h0 189 8 ≤ 30 := hI.1.1 189 8
    refine sx_ireturn dX11_about_163 ?_
    exact ⟨_, rfl, hI⟩
  ·
    refine sx_aload_n dX11_about_164 rfl ?_
    refine sx_getI (k := 12) cl_11 fl_X11_291 dX11_about_165 s_0 (by decide) rfl (by decide) ?_
    have r18 : (0 : Int) ≤ h0 0 12 ∧ h0 0 12 ≤ 100000 := hI.1.1 0 12
    refine sx_ireturn dX11_about_168 ?_
    exact ⟨_, rfl, hI⟩
  ·
    refine sx_aload_n dX11_about_169 rfl ?_
    refine sx_getI (k := 0) cl_11 fl_X11_76 dX11_about_170 s_0 (by decide) rfl (by decide) ?_
    have r19 : (0 : Int) ≤ h0 0 0 ∧ h0 0 0 ≤ 1600 := hI.1.1 0 0
    refine sx_ireturn dX11_about_173 ?_
    exact ⟨_, rfl, hI⟩
  ·
    refine sx_aload_n dX11_about_174 rfl ?_
    refine sx_getR (k := 1) (t := 1) cl_11 fl_X11_10 dX11_about_175 s_0 (by decide) rfl (by decide) (by omega) ?_
    refine sx_getI (k := 2) cl_0 fl_X11_333 dX11_about_178 s_1 (by decide) rfl (by decide) ?_
    refine sx_ireturn dX11_about_181 ?_
    exact ⟨_, rfl, hI⟩
  ·
    refine sx_aload_n dX11_about_182 rfl ?_
    refine sx_getS (k := 10) (t := 182) cl_11 fl_X11_61 dX11_about_183 s_0 (by decide) rfl (by decide) ?_
    refine sx_getI (k := 7) cl_6 fl_X11_118 dX11_about_186 s_182 (by decide) rfl (by decide) ?_
    have r20 : (0 : Int) ≤ h0 182 7 ∧ h0 182 7 ≤ 364 := hI.1.1 182 7
    refine sx_ireturn dX11_about_189 ?_
    exact ⟨_, rfl, hI⟩
  ·
    refine sx_aload_n dX11_about_190 rfl ?_
    refine sx_getR (k := 1) (t := 1) cl_11 fl_X11_10 dX11_about_191 s_0 (by decide) rfl (by decide) (by omega) ?_
    refine sx_getI (k := 3) cl_0 fl_X11_187 dX11_about_194 s_1 (by decide) rfl (by decide) ?_
    refine sx_ireturn dX11_about_197 ?_
    exact ⟨_, rfl, hI⟩
set_option maxRecDepth 20000 in
set_option maxHeartbeats 4000000 in
theorem c_X11_about_13 {G : sw_G} (d : Nat) {h0 : sw_H} (hJ : cJ h0) (hc : h0 0 1 = 13 ∧ h0 0 2 = 1) (y1 : Int)  : sw_E G NH SH (d + 1) mX11_about 0 [some (sw_r 0), some (sw_i y1)] [] h0 (sw_Qi (fun z h' => cK pr1 h0 h')) := by
  have hI : cK pr1 h0 h0 := cK.refl hJ
  have rw : (0 : Int) ≤ h0 13 0 ∧ h0 13 0 ≤ 6 := hI.1.1 13 0
  refine sx_iload_n dX11_about_0 rfl ?_
  refine sx_tsw (dt := 198) (ts := [72, 80, 88, 99, 110, 121, 132, 140, 156, 164, 169, 174, 182, 190]) dX11_about_1 (by decide) (by decide) (by decide) (fun c1 => ?_) (And.intro (fun c1 => ?_) (And.intro (fun c1 => ?_) (And.intro (fun c1 => ?_) (And.intro (fun c1 => ?_) (And.intro (fun c1 => ?_) (And.intro (fun c1 => ?_) (And.intro (fun c1 => ?_) (And.intro (fun c1 => ?_) (And.intro (fun c1 => ?_) (And.intro (fun c1 => ?_) (And.intro (fun c1 => ?_) (And.intro (fun c1 => ?_) (And.intro (fun c1 => ?_) (And.intro (fun c1 => ?_) trivial))))))))))))))
  ·
    refine sx_iconst dX11_about_198 ⟨by decide, by decide⟩ ?_
    refine sx_ireturn dX11_about_199 ?_
    exact ⟨_, rfl, hI⟩
  ·
    refine sx_aload_n dX11_about_72 rfl ?_
    refine sx_getR (k := 1) (t := 13) cl_11 fl_X11_10 dX11_about_73 s_0 (by decide) rfl (by decide) (by omega) ?_
    refine sx_getI (k := 0) cl_0 fl_X11_121 dX11_about_76 s_13 (by decide) rfl (by decide) ?_
    have r2 : (0 : Int) ≤ h0 13 0 ∧ h0 13 0 ≤ 6 := hI.1.1 13 0
    refine sx_ireturn dX11_about_79 ?_
    exact ⟨_, rfl, hI⟩
  ·
    refine sx_aload_n dX11_about_80 rfl ?_
    refine sx_getR (k := 1) (t := 13) cl_11 fl_X11_10 dX11_about_81 s_0 (by decide) rfl (by decide) (by omega) ?_
    refine sx_getI (k := 1) cl_0 fl_X11_318 dX11_about_84 s_13 (by decide) rfl (by decide) ?_
    have r3 : (0 : Int) ≤ h0 13 1 ∧ h0 13 1 ≤ 60 := hI.1.1 13 1
    refine sx_ireturn dX11_about_87 ?_
    exact ⟨_, rfl, hI⟩
  ·
    refine sx_aload_n dX11_about_88 rfl ?_
    refine sx_getS (k := 5) (t := 48) cl_11 fl_X11_36 dX11_about_89 s_0 (by decide) rfl (by decide) ?_
    refine sx_callVr lk_X11_147 cl_9 s_48 (by decide) dX11_about_92 (vs := []) rfl rfl (Nat.le_of_ble_eq_true rfl) (Nat.le_of_ble_eq_true rfl) ⟨_, rfl⟩ (c_X9_state _ hI.1) (fun x5 h4 ph4 => ?_)
    obtain ⟨Kh4, m_h4⟩ := ph4
    have Ih4 := hI.tr Kh4 sb_pr1_prL
    have th4_0_1 := Kh4.2 (0) 1 rfl
    have th4_0_2 := Kh4.2 (0) 2 rfl
    have th4_13_0 := Kh4.2 (13) 0 rfl
    have hx5m := m_h4
    obtain ⟨Sx50, Sx51, Sx52, bx5⟩ := s_St x5 hx5m
    have Bx50 : x5 < NH := show x5 < 290 by omega
    have Bx51 : x5 + 1 < NH := show x5 + 1 < 290 by omega
    have Bx52 : x5 + 2 < NH := show x5 + 2 < 290 by omega
    refine sx_getI (k := 1) cl_8 fl_X11_163 dX11_about_95 Sx50 Bx50 rfl (by decide) ?_
    have r6 : (0 : Int) ≤ h4 (x5) 1 ∧ h4 (x5) 1 ≤ 24 := (okc_of (St_ok1 x5 hx5m).1) ▸ Ih4.1.1 (x5) 1
    refine sx_ireturn dX11_about_98 ?_
    exact ⟨_, rfl, Ih4⟩
  ·
    refine sx_aload_n dX11_about_99 rfl ?_
    refine sx_getS (k := 5) (t := 48) cl_11 fl_X11_36 dX11_about_100 s_0 (by decide) rfl (by decide) ?_
    refine sx_callVr lk_X11_147 cl_9 s_48 (by decide) dX11_about_103 (vs := []) rfl rfl (Nat.le_of_ble_eq_true rfl) (Nat.le_of_ble_eq_true rfl) ⟨_, rfl⟩ (c_X9_state _ hI.1) (fun x8 h7 ph7 => ?_)
    obtain ⟨Kh7, m_h7⟩ := ph7
    have Ih7 := hI.tr Kh7 sb_pr1_prL
    have th7_0_1 := Kh7.2 (0) 1 rfl
    have th7_0_2 := Kh7.2 (0) 2 rfl
    have th7_13_0 := Kh7.2 (13) 0 rfl
    have hx8m := m_h7
    obtain ⟨Sx80, Sx81, Sx82, bx8⟩ := s_St x8 hx8m
    have Bx80 : x8 < NH := show x8 < 290 by omega
    have Bx81 : x8 + 1 < NH := show x8 + 1 < 290 by omega
    have Bx82 : x8 + 2 < NH := show x8 + 2 < 290 by omega
    refine sx_getI (k := 3) cl_8 fl_X11_181 dX11_about_106 Sx80 Bx80 rfl (by decide) ?_
    have r9 : (0 : Int) ≤ h7 (x8) 3 ∧ h7 (x8) 3 ≤ 42 := (okc_of (St_ok1 x8 hx8m).2.1) ▸ Ih7.1.1 (x8) 3
    refine sx_ireturn dX11_about_109 ?_
    exact ⟨_, rfl, Ih7⟩
  ·
    refine sx_aload_n dX11_about_110 rfl ?_
    refine sx_getS (k := 5) (t := 48) cl_11 fl_X11_36 dX11_about_111 s_0 (by decide) rfl (by decide) ?_
    refine sx_callVr lk_X11_147 cl_9 s_48 (by decide) dX11_about_114 (vs := []) rfl rfl (Nat.le_of_ble_eq_true rfl) (Nat.le_of_ble_eq_true rfl) ⟨_, rfl⟩ (c_X9_state _ hI.1) (fun x11 h10 ph10 => ?_)
    obtain ⟨Kh10, m_h10⟩ := ph10
    have Ih10 := hI.tr Kh10 sb_pr1_prL
    have th10_0_1 := Kh10.2 (0) 1 rfl
    have th10_0_2 := Kh10.2 (0) 2 rfl
    have th10_13_0 := Kh10.2 (13) 0 rfl
    have hx11m := m_h10
    obtain ⟨Sx110, Sx111, Sx112, bx11⟩ := s_St x11 hx11m
    have Bx110 : x11 < NH := show x11 < 290 by omega
    have Bx111 : x11 + 1 < NH := show x11 + 1 < 290 by omega
    have Bx112 : x11 + 2 < NH := show x11 + 2 < 290 by omega
    refine sx_getI (k := 4) cl_8 fl_X11_150 dX11_about_117 Sx110 Bx110 rfl (by decide) ?_
    refine sx_ireturn dX11_about_120 ?_
    exact ⟨_, rfl, Ih10⟩
  ·
    refine sx_aload_n dX11_about_121 rfl ?_
    refine sx_getS (k := 5) (t := 48) cl_11 fl_X11_36 dX11_about_122 s_0 (by decide) rfl (by decide) ?_
    refine sx_callVr lk_X11_147 cl_9 s_48 (by decide) dX11_about_125 (vs := []) rfl rfl (Nat.le_of_ble_eq_true rfl) (Nat.le_of_ble_eq_true rfl) ⟨_, rfl⟩ (c_X9_state _ hI.1) (fun x13 h12 ph12 => ?_)
    obtain ⟨Kh12, m_h12⟩ := ph12
    have Ih12 := hI.tr Kh12 sb_pr1_prL
    have th12_0_1 := Kh12.2 (0) 1 rfl
    have th12_0_2 := Kh12.2 (0) 2 rfl
    have th12_13_0 := Kh12.2 (13) 0 rfl
    have hx13m := m_h12
    obtain ⟨Sx130, Sx131, Sx132, bx13⟩ := s_St x13 hx13m
    have Bx130 : x13 < NH := show x13 < 290 by omega
    have Bx131 : x13 + 1 < NH := show x13 + 1 < 290 by omega
    have Bx132 : x13 + 2 < NH := show x13 + 2 < 290 by omega
    refine sx_getI (k := 5) cl_8 fl_X11_321 dX11_about_128 Sx130 Bx130 rfl (by decide) ?_
    refine sx_ireturn dX11_about_131 ?_
    exact ⟨_, rfl, Ih12⟩
  ·
    refine sx_aload_n dX11_about_132 rfl ?_
    refine sx_getS (k := 5) (t := 48) cl_11 fl_X11_36 dX11_about_133 s_0 (by decide) rfl (by decide) ?_
    refine sx_getI (k := 2) cl_9 fl_X11_324 dX11_about_136 s_48 (by decide) rfl (by decide) ?_
    have r14 : (0 : Int) ≤ h0 48 2 ∧ h0 48 2 ≤ 40 := hI.1.1 48 2
    refine sx_ireturn dX11_about_139 ?_
    exact ⟨_, rfl, hI⟩
  ·
    refine sx_aload_n dX11_about_140 rfl ?_
    refine sx_getS (k := 5) (t := 48) cl_11 fl_X11_36 dX11_about_141 s_0 (by decide) rfl (by decide) ?_
    refine sx_getI (k := 3) cl_9 fl_X11_327 dX11_about_144 s_48 (by decide) rfl (by decide) ?_
    have r15 : (0 : Int) ≤ h0 48 3 ∧ h0 48 3 ≤ 40 := hI.1.1 48 3
    refine sx_aload_n dX11_about_147 rfl ?_
    refine sx_getS (k := 5) (t := 48) cl_11 fl_X11_36 dX11_about_148 s_0 (by decide) rfl (by decide) ?_
    refine sx_getI (k := 2) cl_9 fl_X11_324 dX11_about_151 s_48 (by decide) rfl (by decide) ?_
    have r16 : (0 : Int) ≤ h0 48 2 ∧ h0 48 2 ≤ 40 := hI.1.1 48 2
    refine sx_isub dX11_about_154 ?_
    refine sy_topw (by omega) ?_
    refine sx_ireturn dX11_about_155 ?_
    exact ⟨_, rfl, hI⟩
  ·
    refine sx_aload_n dX11_about_156 rfl ?_
    refine sx_getS (k := 11) (t := 189) cl_11 fl_X11_68 dX11_about_157 s_0 (by decide) rfl (by decide) ?_
    refine sx_getI (k := 8) cl_7 fl_X11_330 dX11_about_160 s_189 (by decide) rfl (by decide) ?_
    have r17 : (0 : Int) ≤ h0 189 8 ∧ h0 189 8 ≤ 30 := hI.1.1 189 8
    refine sx_ireturn dX11_about_163 ?_
    exact ⟨_, rfl, hI⟩
  ·
    refine sx_aload_n dX11_about_164 rfl ?_
    refine sx_getI (k := 12) cl_11 fl_X11_291 dX11_about_165 s_0 (by decide) rfl (by decide) ?_
    have r18 : (0 : Int) ≤ h0 0 12 ∧ h0 0 12 ≤ 100000 := hI.1.1 0 12
    refine sx_ireturn dX11_about_168 ?_
    exact ⟨_, rfl, hI⟩
  ·
    refine sx_aload_n dX11_about_169 rfl ?_
    refine sx_getI (k := 0) cl_11 fl_X11_76 dX11_about_170 s_0 (by decide) rfl (by decide) ?_
    have r19 : (0 : Int) ≤ h0 0 0 ∧ h0 0 0 ≤ 1600 := hI.1.1 0 0
    refine sx_ireturn dX11_about_173 ?_
    exact ⟨_, rfl, hI⟩
  ·
    refine sx_aload_n dX11_about_174 rfl ?_
    refine sx_getR (k := 1) (t := 13) cl_11 fl_X11_10 dX11_about_175 s_0 (by decide) rfl (by decide) (by omega) ?_
    refine sx_getI (k := 2) cl_0 fl_X11_333 dX11_about_178 s_13 (by decide) rfl (by decide) ?_
    refine sx_ireturn dX11_about_181 ?_
    exact ⟨_, rfl, hI⟩
  ·
    refine sx_aload_n dX11_about_182 rfl ?_
    refine sx_getS (k := 10) (t := 182) cl_11 fl_X11_61 dX11_about_183 s_0 (by decide) rfl (by decide) ?_
    refine sx_getI (k := 7) cl_6 fl_X11_118 dX11_about_186 s_182 (by decide) rfl (by decide) ?_
    have r20 : (0 : Int) ≤ h0 182 7 ∧ h0 182 7 ≤ 364 := hI.1.1 182 7
    refine sx_ireturn dX11_about_189 ?_
    exact ⟨_, rfl, hI⟩
  ·
    refine sx_aload_n dX11_about_190 rfl ?_
    refine sx_getR (k := 1) (t := 13) cl_11 fl_X11_10 dX11_about_191 s_0 (by decide) rfl (by decide) (by omega) ?_
    refine sx_getI (k := 3) cl_0 fl_X11_187 dX11_about_194 s_13 (by decide) rfl (by decide) ?_
    refine sx_ireturn dX11_about_197 ?_
    exact ⟨_, rfl, hI⟩
theorem c_X11_about {G : sw_G} (d : Nat) {h0 : sw_H} (hJ : cJ h0) (y1 : Int)  : sw_E G NH SH (d + 1) mX11_about 0 [some (sw_r 0), some (sw_i y1)] [] h0 (sw_Qi (fun z h' => cK pr1 h0 h')) := by
  rcases (show (h0 0 1 = 1 ∧ h0 0 2 = 13) ∨ (h0 0 1 = 13 ∧ h0 0 2 = 1) from hJ.2 4 (by decide)) with q | q
  · exact c_X11_about_1 d hJ q y1 
  · exact c_X11_about_13 d hJ q y1 
set_option maxRecDepth 20000 in
set_option maxHeartbeats 4000000 in
theorem c_X11_code_1 {G : sw_G} (d : Nat) {h0 : sw_H} (hJ : cJ h0) (hc : h0 0 1 = 1 ∧ h0 0 2 = 13)  : sw_E G NH SH (d + 157) mX11_code 0 [some (sw_r 0), none, none] [] h0 (sw_Qi (fun z h' => cK prZ h0 h')) := by
  have hI : cK prZ h0 h0 := cK.refl hJ
  have rw : (0 : Int) ≤ h0 1 0 ∧ h0 1 0 ≤ 6 := hI.1.1 1 0
  refine sx_aload_n dX11_code_0 rfl ?_
  refine sx_getS (k := 4) (t := 33) cl_11 fl_X11_29 dX11_code_1 s_0 (by decide) rfl (by decide) ?_
  refine sx_aload_n dX11_code_4 rfl ?_
  refine sx_getR (k := 2) (t := 13) cl_11 fl_X11_16 dX11_code_5 s_0 (by decide) rfl (by decide) (by omega) ?_
  refine sx_aload_n dX11_code_8 rfl ?_
  refine sx_getI (k := 0) cl_11 fl_X11_76 dX11_code_9 s_0 (by decide) rfl (by decide) ?_
  have r1 : (0 : Int) ≤ h0 0 0 ∧ h0 0 0 ≤ 1600 := hI.1.1 0 0
  refine sx_callVz lk_X11_83 cl_3 s_33 (by decide) dX11_code_12 (vs := [_, _]) rfl rfl (Nat.le_of_ble_eq_true rfl) (Nat.le_of_ble_eq_true rfl) rfl (c_X3_readAll_13 _ hI.1 _ (by omega)) (fun x3 h2 zx3 ph2 => ?_)
  have Kh2 := ph2
  have Ih2 := hI.tr Kh2 sb_prZ_pr1
  have th2_0_1 := Kh2.2 (0) 1 rfl
  have th2_0_2 := Kh2.2 (0) 2 rfl
  refine sx_istore_n dX11_code_15 (by decide) ?_
  refine sx_aload_n dX11_code_16 rfl ?_
  refine sx_aload_n dX11_code_17 rfl ?_
  refine sx_getS (k := 4) (t := 33) cl_11 fl_X11_29 dX11_code_18 s_0 (by decide) rfl (by decide) ?_
  refine sx_getS (k := 0) (t := 34) cl_3 fl_X11_87 dX11_code_21 s_33 (by decide) rfl (by decide) ?_
  refine sx_getI (k := 7) cl_5 fl_X11_91 dX11_code_24 s_34 (by decide) rfl (by decide) ?_
  refine sy_putI (k := 13) cl_11 fl_X11_96 dX11_code_27 s_0 (by decide) rfl (by decide) rfl rfl (fun h4 eh4 => ?_)
  have Ih4 := Ih2.up eh4 trivial rfl rfl
  have th4_0_1 := eh4.2 (0) 1 (by decide)
  have th4_0_2 := eh4.2 (0) 2 (by decide)
  have th4_1_0 := eh4.2 (1) 0 (by decide)
  refine sx_aload_n dX11_code_30 rfl ?_
  refine sx_aload_n dX11_code_31 rfl ?_
  refine sx_getS (k := 4) (t := 33) cl_11 fl_X11_29 dX11_code_32 s_0 (by decide) rfl (by decide) ?_
  refine sx_getS (k := 0) (t := 34) cl_3 fl_X11_87 dX11_code_35 s_33 (by decide) rfl (by decide) ?_
  refine sx_getI (k := 8) cl_5 fl_X11_99 dX11_code_38 s_34 (by decide) rfl (by decide) ?_
  refine sy_putI (k := 14) cl_11 fl_X11_72 dX11_code_41 s_0 (by decide) rfl (by decide) rfl rfl (fun h5 eh5 => ?_)
  have Ih5 := Ih4.up eh5 trivial rfl rfl
  have th5_0_1 := eh5.2 (0) 1 (by decide)
  have th5_0_2 := eh5.2 (0) 2 (by decide)
  have th5_1_0 := eh5.2 (1) 0 (by decide)
  refine sx_iload_n dX11_code_44 rfl ?_
  refine sx_if_ne (tgt := 50) dX11_code_45 (by decide) (fun c6 => ?_) (fun c6 => ?_)
  ·
    refine sx_aload_n dX11_code_50 rfl ?_
    refine sx_getR (k := 1) (t := 1) cl_11 fl_X11_10 dX11_code_51 s_0 (by decide) rfl (by decide) (by omega) ?_
    refine sx_astore_n dX11_code_54 (by decide) ?_
    refine sx_aload_n dX11_code_55 rfl ?_
    refine sx_aload_n dX11_code_56 rfl ?_
    refine sx_getR (k := 2) (t := 13) cl_11 fl_X11_16 dX11_code_57 s_0 (by decide) rfl (by decide) (by omega) ?_
    refine sy_putR (k := 1) cl_11 fl_X11_10 dX11_code_60 s_0 (by decide) rfl (by decide) rfl rfl (by decide) (fun h7 eh7 => ?_)
    have EA := eh7
    have Ih7 := (Ih5.wide 4).up eh7 trivial (Or.inr rfl) rfl
    have th7_0_1 := eh7.1
    have th7_0_2 := eh7.2 (0) 2 (by decide)
    have th7_1_0 := eh7.2 (1) 0 (by decide)
    refine sx_aload_n dX11_code_63 rfl ?_
    refine sx_aload_n dX11_code_64 rfl ?_
    refine sy_putR (k := 2) cl_11 fl_X11_16 dX11_code_65 s_0 (by decide) rfl (by decide) rfl rfl (by decide) (fun h8 eh8 => ?_)
    have Ih8 : cK prZ h0 h8 := (Ih7.up eh8 trivial (Or.inr rfl) rfl).shut (show (h8 0 1 = 1 ∧ h8 0 2 = 13) ∨ (h8 0 1 = 13 ∧ h8 0 2 = 1) by have q1 := eh8.1; have q2 := eh8.2 0 1 (by decide); have q3 := EA.1; omega)
    have th8_0_1 := eh8.2 (0) 1 (by decide)
    have th8_0_2 := eh8.1
    have th8_1_0 := eh8.2 (1) 0 (by decide)
    refine sx_aload_n dX11_code_68 rfl ?_
    refine sx_iconst dX11_code_69 ⟨by decide, by decide⟩ ?_
    refine sy_putI (k := 0) cl_11 fl_X11_76 dX11_code_70 s_0 (by decide) rfl (by decide) rfl rfl (fun h9 eh9 => ?_)
    have Ih9 := Ih8.up eh9 (show (0 : Int) ≤ _ ∧ _ ≤ (1600 : Int) from ⟨by omega, by omega⟩) rfl rfl
    have th9_0_1 := eh9.2 (0) 1 (by decide)
    have th9_0_2 := eh9.2 (0) 2 (by decide)
    have th9_1_0 := eh9.2 (1) 0 (by decide)
    refine sx_aload_n dX11_code_73 rfl ?_
    refine sx_getS (k := 5) (t := 48) cl_11 fl_X11_36 dX11_code_74 s_0 (by decide) rfl (by decide) ?_
    refine sx_callVr lk_X11_102 cl_9 s_48 (by decide) dX11_code_77 (vs := []) rfl rfl (Nat.le_of_ble_eq_true rfl) (Nat.le_of_ble_eq_true rfl) ⟨_, rfl⟩ (c_X9_restart _ Ih9.1) (fun x11 h10 ph10 => ?_)
    obtain ⟨Kh10, m_h10⟩ := ph10
    have Ih10 := Ih9.tr Kh10 sb_prZ_prL
    have th10_0_1 := Kh10.2 (0) 1 rfl
    have th10_0_2 := Kh10.2 (0) 2 rfl
    have th10_1_0 := Kh10.2 (1) 0 rfl
    have hx11m := m_h10
    obtain ⟨Sx110, Sx111, Sx112, bx11⟩ := s_St x11 hx11m
    have Bx110 : x11 < NH := show x11 < 290 by omega
    have Bx111 : x11 + 1 < NH := show x11 + 1 < 290 by omega
    have Bx112 : x11 + 2 < NH := show x11 + 2 < 290 by omega
    refine sx_aload_n dX11_code_80 rfl ?_
    refine sx_getR (k := 1) (t := 13) cl_11 fl_X11_10 dX11_code_81 s_0 (by decide) rfl (by decide) (by omega) ?_
    refine sx_getI (k := 4) cl_0 fl_X11_106 dX11_code_84 s_13 (by decide) rfl (by decide) ?_
    refine sx_callVv lk_X11_109 cl_8 Sx110 Bx110 dX11_code_87 (vs := [_]) rfl rfl (Nat.le_of_ble_eq_true rfl) (Nat.le_of_ble_eq_true rfl) rfl (c_X8_begin _ Ih10.1 (x11) hx11m _) (fun h12 ph12 => ?_)
    have Kh12 := ph12
    have Ih12 := Ih10.tr Kh12 sb_prZ_prS
    have th12_0_1 := Kh12.2 (0) 1 rfl
    have th12_0_2 := Kh12.2 (0) 2 rfl
    have th12_1_0 := Kh12.2 (1) 0 rfl
    refine sx_aload_n dX11_code_90 rfl ?_
    refine sx_iconst dX11_code_91 ⟨by decide, by decide⟩ ?_
    refine sy_putI (k := 7) cl_11 fl_X11_112 dX11_code_92 s_0 (by decide) rfl (by decide) rfl rfl (fun h14 eh14 => ?_)
    have Ih14 := Ih12.up eh14 trivial rfl rfl
    have th14_0_1 := eh14.2 (0) 1 (by decide)
    have th14_0_2 := eh14.2 (0) 2 (by decide)
    have th14_1_0 := eh14.2 (1) 0 (by decide)
    refine sx_aload_n dX11_code_95 rfl ?_
    refine sx_getS (k := 11) (t := 189) cl_11 fl_X11_68 dX11_code_96 s_0 (by decide) rfl (by decide) ?_
    refine sx_callVv lk_X11_115 cl_7 s_189 (by decide) dX11_code_99 (vs := []) rfl rfl (Nat.le_of_ble_eq_true rfl) (Nat.le_of_ble_eq_true rfl) rfl (c_X7_forget _ Ih14.1) (fun h15 ph15 => ?_)
    have Kh15 := ph15
    have Ih15 := Ih14.tr Kh15 sb_prZ_prG
    have th15_0_1 := Kh15.2 (0) 1 rfl
    have th15_0_2 := Kh15.2 (0) 2 rfl
    have th15_1_0 := Kh15.2 (1) 0 rfl
    refine sx_aload_n dX11_code_102 rfl ?_
    refine sx_getS (k := 10) (t := 182) cl_11 fl_X11_61 dX11_code_103 s_0 (by decide) rfl (by decide) ?_
    refine sx_iconst dX11_code_106 ⟨by decide, by decide⟩ ?_
    refine sy_putI (k := 7) cl_6 fl_X11_118 dX11_code_107 s_182 (by decide) rfl (by decide) rfl rfl (fun h17 eh17 => ?_)
    have Ih17 := Ih15.up eh17 (show (0 : Int) ≤ _ ∧ _ ≤ (364 : Int) from ⟨by omega, by omega⟩) rfl rfl
    have th17_0_1 := eh17.2 (0) 1 (by decide)
    have th17_0_2 := eh17.2 (0) 2 (by decide)
    have th17_1_0 := eh17.2 (1) 0 (by decide)
    refine sx_aload_n dX11_code_110 rfl ?_
    refine sx_getR (k := 1) (t := 13) cl_11 fl_X11_10 dX11_code_111 s_0 (by decide) rfl (by decide) (by omega) ?_
    refine sx_getI (k := 0) cl_0 fl_X11_121 dX11_code_114 s_13 (by decide) rfl (by decide) ?_
    have r18 : (0 : Int) ≤ h17 13 0 ∧ h17 13 0 ≤ 6 := Ih17.1.1 13 0
    refine sx_ireturn dX11_code_117 ?_
    exact ⟨_, rfl, Ih17⟩
  ·
    refine sx_iconst dX11_code_48 ⟨by decide, by decide⟩ ?_
    refine sx_ireturn dX11_code_49 ?_
    exact ⟨_, rfl, Ih5⟩
set_option maxRecDepth 20000 in
set_option maxHeartbeats 4000000 in
theorem c_X11_code_13 {G : sw_G} (d : Nat) {h0 : sw_H} (hJ : cJ h0) (hc : h0 0 1 = 13 ∧ h0 0 2 = 1)  : sw_E G NH SH (d + 157) mX11_code 0 [some (sw_r 0), none, none] [] h0 (sw_Qi (fun z h' => cK prZ h0 h')) := by
  have hI : cK prZ h0 h0 := cK.refl hJ
  have rw : (0 : Int) ≤ h0 13 0 ∧ h0 13 0 ≤ 6 := hI.1.1 13 0
  refine sx_aload_n dX11_code_0 rfl ?_
  refine sx_getS (k := 4) (t := 33) cl_11 fl_X11_29 dX11_code_1 s_0 (by decide) rfl (by decide) ?_
  refine sx_aload_n dX11_code_4 rfl ?_
  refine sx_getR (k := 2) (t := 1) cl_11 fl_X11_16 dX11_code_5 s_0 (by decide) rfl (by decide) (by omega) ?_
  refine sx_aload_n dX11_code_8 rfl ?_
  refine sx_getI (k := 0) cl_11 fl_X11_76 dX11_code_9 s_0 (by decide) rfl (by decide) ?_
  have r1 : (0 : Int) ≤ h0 0 0 ∧ h0 0 0 ≤ 1600 := hI.1.1 0 0
  refine sx_callVz lk_X11_83 cl_3 s_33 (by decide) dX11_code_12 (vs := [_, _]) rfl rfl (Nat.le_of_ble_eq_true rfl) (Nat.le_of_ble_eq_true rfl) rfl (c_X3_readAll_1 _ hI.1 _ (by omega)) (fun x3 h2 zx3 ph2 => ?_)
  have Kh2 := ph2
  have Ih2 := hI.tr Kh2 sb_prZ_pr1
  have th2_0_1 := Kh2.2 (0) 1 rfl
  have th2_0_2 := Kh2.2 (0) 2 rfl
  refine sx_istore_n dX11_code_15 (by decide) ?_
  refine sx_aload_n dX11_code_16 rfl ?_
  refine sx_aload_n dX11_code_17 rfl ?_
  refine sx_getS (k := 4) (t := 33) cl_11 fl_X11_29 dX11_code_18 s_0 (by decide) rfl (by decide) ?_
  refine sx_getS (k := 0) (t := 34) cl_3 fl_X11_87 dX11_code_21 s_33 (by decide) rfl (by decide) ?_
  refine sx_getI (k := 7) cl_5 fl_X11_91 dX11_code_24 s_34 (by decide) rfl (by decide) ?_
  refine sy_putI (k := 13) cl_11 fl_X11_96 dX11_code_27 s_0 (by decide) rfl (by decide) rfl rfl (fun h4 eh4 => ?_)
  have Ih4 := Ih2.up eh4 trivial rfl rfl
  have th4_0_1 := eh4.2 (0) 1 (by decide)
  have th4_0_2 := eh4.2 (0) 2 (by decide)
  have th4_13_0 := eh4.2 (13) 0 (by decide)
  refine sx_aload_n dX11_code_30 rfl ?_
  refine sx_aload_n dX11_code_31 rfl ?_
  refine sx_getS (k := 4) (t := 33) cl_11 fl_X11_29 dX11_code_32 s_0 (by decide) rfl (by decide) ?_
  refine sx_getS (k := 0) (t := 34) cl_3 fl_X11_87 dX11_code_35 s_33 (by decide) rfl (by decide) ?_
  refine sx_getI (k := 8) cl_5 fl_X11_99 dX11_code_38 s_34 (by decide) rfl (by decide) ?_
  refine sy_putI (k := 14) cl_11 fl_X11_72 dX11_code_41 s_0 (by decide) rfl (by decide) rfl rfl (fun h5 eh5 => ?_)
  have Ih5 := Ih4.up eh5 trivial rfl rfl
  have th5_0_1 := eh5.2 (0) 1 (by decide)
  have th5_0_2 := eh5.2 (0) 2 (by decide)
  have th5_13_0 := eh5.2 (13) 0 (by decide)
  refine sx_iload_n dX11_code_44 rfl ?_
  refine sx_if_ne (tgt := 50) dX11_code_45 (by decide) (fun c6 => ?_) (fun c6 => ?_)
  ·
    refine sx_aload_n dX11_code_50 rfl ?_
    refine sx_getR (k := 1) (t := 13) cl_11 fl_X11_10 dX11_code_51 s_0 (by decide) rfl (by decide) (by omega) ?_
    refine sx_astore_n dX11_code_54 (by decide) ?_
    refine sx_aload_n dX11_code_55 rfl ?_
    refine sx_aload_n dX11_code_56 rfl ?_
    refine sx_getR (k := 2) (t := 1) cl_11 fl_X11_16 dX11_code_57 s_0 (by decide) rfl (by decide) (by omega) ?_
    refine sy_putR (k := 1) cl_11 fl_X11_10 dX11_code_60 s_0 (by decide) rfl (by decide) rfl rfl (by decide) (fun h7 eh7 => ?_)
    have EA := eh7
    have Ih7 := (Ih5.wide 4).up eh7 trivial (Or.inr rfl) rfl
    have th7_0_1 := eh7.1
    have th7_0_2 := eh7.2 (0) 2 (by decide)
    have th7_13_0 := eh7.2 (13) 0 (by decide)
    refine sx_aload_n dX11_code_63 rfl ?_
    refine sx_aload_n dX11_code_64 rfl ?_
    refine sy_putR (k := 2) cl_11 fl_X11_16 dX11_code_65 s_0 (by decide) rfl (by decide) rfl rfl (by decide) (fun h8 eh8 => ?_)
    have Ih8 : cK prZ h0 h8 := (Ih7.up eh8 trivial (Or.inr rfl) rfl).shut (show (h8 0 1 = 1 ∧ h8 0 2 = 13) ∨ (h8 0 1 = 13 ∧ h8 0 2 = 1) by have q1 := eh8.1; have q2 := eh8.2 0 1 (by decide); have q3 := EA.1; omega)
    have th8_0_1 := eh8.2 (0) 1 (by decide)
    have th8_0_2 := eh8.1
    have th8_13_0 := eh8.2 (13) 0 (by decide)
    refine sx_aload_n dX11_code_68 rfl ?_
    refine sx_iconst dX11_code_69 ⟨by decide, by decide⟩ ?_
    refine sy_putI (k := 0) cl_11 fl_X11_76 dX11_code_70 s_0 (by decide) rfl (by decide) rfl rfl (fun h9 eh9 => ?_)
    have Ih9 := Ih8.up eh9 (show (0 : Int) ≤ _ ∧ _ ≤ (1600 : Int) from ⟨by omega, by omega⟩) rfl rfl
    have th9_0_1 := eh9.2 (0) 1 (by decide)
    have th9_0_2 := eh9.2 (0) 2 (by decide)
    have th9_13_0 := eh9.2 (13) 0 (by decide)
    refine sx_aload_n dX11_code_73 rfl ?_
    refine sx_getS (k := 5) (t := 48) cl_11 fl_X11_36 dX11_code_74 s_0 (by decide) rfl (by decide) ?_
    refine sx_callVr lk_X11_102 cl_9 s_48 (by decide) dX11_code_77 (vs := []) rfl rfl (Nat.le_of_ble_eq_true rfl) (Nat.le_of_ble_eq_true rfl) ⟨_, rfl⟩ (c_X9_restart _ Ih9.1) (fun x11 h10 ph10 => ?_)
    obtain ⟨Kh10, m_h10⟩ := ph10
    have Ih10 := Ih9.tr Kh10 sb_prZ_prL
    have th10_0_1 := Kh10.2 (0) 1 rfl
    have th10_0_2 := Kh10.2 (0) 2 rfl
    have th10_13_0 := Kh10.2 (13) 0 rfl
    have hx11m := m_h10
    obtain ⟨Sx110, Sx111, Sx112, bx11⟩ := s_St x11 hx11m
    have Bx110 : x11 < NH := show x11 < 290 by omega
    have Bx111 : x11 + 1 < NH := show x11 + 1 < 290 by omega
    have Bx112 : x11 + 2 < NH := show x11 + 2 < 290 by omega
    refine sx_aload_n dX11_code_80 rfl ?_
    refine sx_getR (k := 1) (t := 1) cl_11 fl_X11_10 dX11_code_81 s_0 (by decide) rfl (by decide) (by omega) ?_
    refine sx_getI (k := 4) cl_0 fl_X11_106 dX11_code_84 s_1 (by decide) rfl (by decide) ?_
    refine sx_callVv lk_X11_109 cl_8 Sx110 Bx110 dX11_code_87 (vs := [_]) rfl rfl (Nat.le_of_ble_eq_true rfl) (Nat.le_of_ble_eq_true rfl) rfl (c_X8_begin _ Ih10.1 (x11) hx11m _) (fun h12 ph12 => ?_)
    have Kh12 := ph12
    have Ih12 := Ih10.tr Kh12 sb_prZ_prS
    have th12_0_1 := Kh12.2 (0) 1 rfl
    have th12_0_2 := Kh12.2 (0) 2 rfl
    have th12_13_0 := Kh12.2 (13) 0 rfl
    refine sx_aload_n dX11_code_90 rfl ?_
    refine sx_iconst dX11_code_91 ⟨by decide, by decide⟩ ?_
    refine sy_putI (k := 7) cl_11 fl_X11_112 dX11_code_92 s_0 (by decide) rfl (by decide) rfl rfl (fun h14 eh14 => ?_)
    have Ih14 := Ih12.up eh14 trivial rfl rfl
    have th14_0_1 := eh14.2 (0) 1 (by decide)
    have th14_0_2 := eh14.2 (0) 2 (by decide)
    have th14_13_0 := eh14.2 (13) 0 (by decide)
    refine sx_aload_n dX11_code_95 rfl ?_
    refine sx_getS (k := 11) (t := 189) cl_11 fl_X11_68 dX11_code_96 s_0 (by decide) rfl (by decide) ?_
    refine sx_callVv lk_X11_115 cl_7 s_189 (by decide) dX11_code_99 (vs := []) rfl rfl (Nat.le_of_ble_eq_true rfl) (Nat.le_of_ble_eq_true rfl) rfl (c_X7_forget _ Ih14.1) (fun h15 ph15 => ?_)
    have Kh15 := ph15
    have Ih15 := Ih14.tr Kh15 sb_prZ_prG
    have th15_0_1 := Kh15.2 (0) 1 rfl
    have th15_0_2 := Kh15.2 (0) 2 rfl
    have th15_13_0 := Kh15.2 (13) 0 rfl
    refine sx_aload_n dX11_code_102 rfl ?_
    refine sx_getS (k := 10) (t := 182) cl_11 fl_X11_61 dX11_code_103 s_0 (by decide) rfl (by decide) ?_
    refine sx_iconst dX11_code_106 ⟨by decide, by decide⟩ ?_
    refine sy_putI (k := 7) cl_6 fl_X11_118 dX11_code_107 s_182 (by decide) rfl (by decide) rfl rfl (fun h17 eh17 => ?_)
    have Ih17 := Ih15.up eh17 (show (0 : Int) ≤ _ ∧ _ ≤ (364 : Int) from ⟨by omega, by omega⟩) rfl rfl
    have th17_0_1 := eh17.2 (0) 1 (by decide)
    have th17_0_2 := eh17.2 (0) 2 (by decide)
    have th17_13_0 := eh17.2 (13) 0 (by decide)
    refine sx_aload_n dX11_code_110 rfl ?_
    refine sx_getR (k := 1) (t := 1) cl_11 fl_X11_10 dX11_code_111 s_0 (by decide) rfl (by decide) (by omega) ?_
    refine sx_getI (k := 0) cl_0 fl_X11_121 dX11_code_114 s_1 (by decide) rfl (by decide) ?_
    have r18 : (0 : Int) ≤ h17 1 0 ∧ h17 1 0 ≤ 6 := Ih17.1.1 1 0
    refine sx_ireturn dX11_code_117 ?_
    exact ⟨_, rfl, Ih17⟩
  ·
    refine sx_iconst dX11_code_48 ⟨by decide, by decide⟩ ?_
    refine sx_ireturn dX11_code_49 ?_
    exact ⟨_, rfl, Ih5⟩
theorem c_X11_code {G : sw_G} (d : Nat) {h0 : sw_H} (hJ : cJ h0)  : sw_E G NH SH (d + 157) mX11_code 0 [some (sw_r 0), none, none] [] h0 (sw_Qi (fun z h' => cK prZ h0 h')) := by
  rcases (show (h0 0 1 = 1 ∧ h0 0 2 = 13) ∨ (h0 0 1 = 13 ∧ h0 0 2 = 1) from hJ.2 4 (by decide)) with q | q
  · exact c_X11_code_1 d hJ q  
  · exact c_X11_code_13 d hJ q  

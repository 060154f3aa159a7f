set_option maxRecDepth 20000 in
set_option maxHeartbeats 4000000 in
theorem c2_X12_isWord {G : sw_G} (d : Nat) {h0 : sw_H} (hJ : mI h0) (y1 : Int)  : sw_E G NH SH (d) mX12_isWord 0 [some (sw_r 224), some (sw_l y1), none] [] h0 (sw_Qz (fun z h' => h0 = h' ∧ ((z = 1 ↔ h0 224 8 = 3 ∧ sw_cmp (h0 224 10) y1 = 0)))) := by
  have hI : mK (prW [] []) h0 h0 := mK.refl hJ
  refine sx_aload_n dX12_isWord_0 rfl ?_
  refine sx_getI (k := 8) cl_12 fl_X12_302 dX12_isWord_1 s_224 (by decide) rfl (by decide) ?_
  have r1 : (0 : Int) ≤ h0 224 8 ∧ h0 224 8 ≤ 5 := hI.1 224 8
  refine sx_iconst dX12_isWord_4 ⟨by decide, by decide⟩ ?_
  refine sx_icmp_ne (tgt := 21) dX12_isWord_5 (by decide) (fun c2 => ?_) (fun c2 => ?_)
  ·
    refine sx_iconst dX12_isWord_21 ⟨by decide, by decide⟩ ?_
    refine sx_ireturn dX12_isWord_22 ?_
    exact ⟨_, rfl, by omega, ⟨rfl, by omega⟩⟩
  ·
    refine sx_aload_n dX12_isWord_8 rfl ?_
    refine sx_getL (k := 10) cl_12 fl_X12_309 dX12_isWord_9 s_224 (by decide) rfl (by decide) ?_
    refine sx_lload_n dX12_isWord_12 rfl ?_
    refine sx_lcmp dX12_isWord_13 ?_
    refine sx_if_ne (tgt := 21) dX12_isWord_14 (by decide) (fun c3 => ?_) (fun c3 => ?_)
    ·
      refine sx_iconst dX12_isWord_21 ⟨by decide, by decide⟩ ?_
      refine sx_ireturn dX12_isWord_22 ?_
      exact ⟨_, rfl, by omega, ⟨rfl, by omega⟩⟩
    ·
      refine sx_iconst dX12_isWord_17 ⟨by decide, by decide⟩ ?_
      refine sx_goto (tgt := 22) dX12_isWord_18 (by decide) ?_
      refine sx_ireturn dX12_isWord_22 ?_
      exact ⟨_, rfl, by omega, ⟨rfl, by omega⟩⟩
set_option maxRecDepth 20000 in
set_option maxHeartbeats 4000000 in
theorem c_X12_isFull {G : sw_G} (d : Nat) {h0 : sw_H} (hJ : mI h0)  : sw_E G NH SH (d + 1) mX12_isFull 0 [some (sw_r 224)] [] h0 (sw_Qz (fun z h' => h0 = h' ∧ (imp (z = 0 ∧ h0 224 8 = 3 ∧ sw_cmp (h0 224 10) 2003792484 = 0) (h0 227 (h0 224 37).toNat ≠ 6)))) := by
  have hI : mK (prW [] []) h0 h0 := mK.refl hJ
  refine sx_aload_n dX12_isFull_0 rfl ?_
  refine sx_ldc2 kc_X12_230 ⟨by decide, by decide⟩ dX12_isFull_1 ?_
  refine sx_callVz lk_X12_355 cl_12 s_224 (by decide) dX12_isFull_4 (vs := [_]) rfl rfl (Nat.le_of_ble_eq_true rfl) (Nat.le_of_ble_eq_true rfl) rfl (c2_X12_isWord _ hI.1 _) (fun x2 h1 zx2 ph1 => ?_)
  obtain ⟨rfl, p_x2⟩ := ph1
  refine sx_if_eq (tgt := 30) dX12_isFull_7 (by decide) (fun c3 => ?_) (fun c3 => ?_)
  ·
    replace p_x2 := mt p_x2.mpr (show ¬ (x2 = 1) by rw [c3]; decide)
    clear zx2
    refine sx_aload_n dX12_isFull_30 rfl ?_
    refine sx_ldc2 kc_X12_242 ⟨by decide, by decide⟩ dX12_isFull_31 ?_
    refine sx_callVz lk_X12_355 cl_12 s_224 (by decide) dX12_isFull_34 (vs := [_]) rfl rfl (Nat.le_of_ble_eq_true rfl) (Nat.le_of_ble_eq_true rfl) rfl (c2_X12_isWord _ hI.1 _) (fun x5 h4 zx5 ph4 => ?_)
    obtain ⟨rfl, p_x5⟩ := ph4
    refine sx_if_eq (tgt := 54) dX12_isFull_37 (by decide) (fun c6 => ?_) (fun c6 => ?_)
    ·
      replace p_x5 := mt p_x5.mpr (show ¬ (x5 = 1) by rw [c6]; decide)
      clear zx5
      refine sx_aload_n dX12_isFull_54 rfl ?_
      refine sx_ldc2 kc_X12_244 ⟨by decide, by decide⟩ dX12_isFull_55 ?_
      refine sx_callVz lk_X12_355 cl_12 s_224 (by decide) dX12_isFull_58 (vs := [_]) rfl rfl (Nat.le_of_ble_eq_true rfl) (Nat.le_of_ble_eq_true rfl) rfl (c2_X12_isWord _ hI.1 _) (fun x8 h7 zx8 ph7 => ?_)
      obtain ⟨rfl, p_x8⟩ := ph7
      refine sx_if_eq (tgt := 78) dX12_isFull_61 (by decide) (fun c9 => ?_) (fun c9 => ?_)
      ·
        replace p_x8 := mt p_x8.mpr (show ¬ (x8 = 1) by rw [c9]; decide)
        clear zx8
        refine sx_aload_n dX12_isFull_78 rfl ?_
        refine sx_ldc2 kc_X12_246 ⟨by decide, by decide⟩ dX12_isFull_79 ?_
        refine sx_callVz lk_X12_355 cl_12 s_224 (by decide) dX12_isFull_82 (vs := [_]) rfl rfl (Nat.le_of_ble_eq_true rfl) (Nat.le_of_ble_eq_true rfl) rfl (c2_X12_isWord _ hI.1 _) (fun x11 h10 zx11 ph10 => ?_)
        obtain ⟨rfl, p_x11⟩ := ph10
        refine sx_if_eq (tgt := 104) dX12_isFull_85 (by decide) (fun c12 => ?_) (fun c12 => ?_)
        ·
          replace p_x11 := mt p_x11.mpr (show ¬ (x11 = 1) by rw [c12]; decide)
          clear zx11
          refine sx_iconst dX12_isFull_104 ⟨by decide, by decide⟩ ?_
          refine sx_goto (tgt := 109) dX12_isFull_105 (by decide) ?_
          refine sx_ireturn dX12_isFull_109 ?_
          exact ⟨_, rfl, by omega, ⟨rfl, fun q => by omega⟩⟩
        ·
          have vx11 : x11 = 1 := by rcases zx11 with q | q; (exact absurd q c12); exact q
          replace p_x11 := p_x11.mp vx11
          clear zx11
          refine sx_aload_n dX12_isFull_88 rfl ?_
          refine sx_getS (k := 16) (t := 232) cl_12 fl_X12_36 dX12_isFull_89 s_224 (by decide) rfl (by decide) ?_
          refine sx_aload_n dX12_isFull_92 rfl ?_
          refine sx_getI (k := 37) cl_12 fl_X12_340 dX12_isFull_93 s_224 (by decide) rfl (by decide) ?_
          have r13 : (0 : Int) ≤ h0 224 37 ∧ h0 224 37 ≤ 1 := hI.1 224 37
          refine sx_iaload dX12_isFull_96 s_232 (by decide) (by decide) ⟨by first | omega | (rw [Int.tmod_eq_emod_of_nonneg (by omega)]; omega) | (rw [Int.tdiv_eq_ediv_of_nonneg (by omega)]; omega), by first | omega | (rw [Int.tmod_eq_emod_of_nonneg (by omega)]; omega) | (rw [Int.tdiv_eq_ediv_of_nonneg (by omega)]; omega)⟩ ?_
          refine sx_iconst dX12_isFull_97 ⟨by decide, by decide⟩ ?_
          refine sx_callSz lk_X12_358 dX12_isFull_98 (vs := [_, _]) rfl rfl (Nat.le_of_ble_eq_true rfl) (Nat.le_of_ble_eq_true rfl) rfl (c_X12_bit _ hI.1 _ _) (fun x15 h14 zx15 ph14 => ?_)
          subst ph14
          refine sx_if_eq (tgt := 108) dX12_isFull_101 (by decide) (fun c16 => ?_) (fun c16 => ?_)
          ·
            clear zx15
            refine sx_iconst dX12_isFull_108 ⟨by decide, by decide⟩ ?_
            refine sx_ireturn dX12_isFull_109 ?_
            exact ⟨_, rfl, by omega, ⟨rfl, fun q => by omega⟩⟩
          ·
            have vx15 : x15 = 1 := by rcases zx15 with q | q; (exact absurd q c16); exact q
            clear zx15
            refine sx_iconst dX12_isFull_104 ⟨by decide, by decide⟩ ?_
            refine sx_goto (tgt := 109) dX12_isFull_105 (by decide) ?_
            refine sx_ireturn dX12_isFull_109 ?_
            exact ⟨_, rfl, by omega, ⟨rfl, fun q => by omega⟩⟩
      ·
        have vx8 : x8 = 1 := by rcases zx8 with q | q; (exact absurd q c9); exact q
        replace p_x8 := p_x8.mp vx8
        clear zx8
        refine sx_aload_n dX12_isFull_64 rfl ?_
        refine sx_getS (k := 16) (t := 232) cl_12 fl_X12_36 dX12_isFull_65 s_224 (by decide) rfl (by decide) ?_
        refine sx_aload_n dX12_isFull_68 rfl ?_
        refine sx_getI (k := 37) cl_12 fl_X12_340 dX12_isFull_69 s_224 (by decide) rfl (by decide) ?_
        have r17 : (0 : Int) ≤ h0 224 37 ∧ h0 224 37 ≤ 1 := hI.1 224 37
        refine sx_iaload dX12_isFull_72 s_232 (by decide) (by decide) ⟨by first | omega | (rw [Int.tmod_eq_emod_of_nonneg (by omega)]; omega) | (rw [Int.tdiv_eq_ediv_of_nonneg (by omega)]; omega), by first | omega | (rw [Int.tmod_eq_emod_of_nonneg (by omega)]; omega) | (rw [Int.tdiv_eq_ediv_of_nonneg (by omega)]; omega)⟩ ?_
        refine sx_iconst dX12_isFull_73 ⟨by decide, by decide⟩ ?_
        refine sx_callSz lk_X12_358 dX12_isFull_74 (vs := [_, _]) rfl rfl (Nat.le_of_ble_eq_true rfl) (Nat.le_of_ble_eq_true rfl) rfl (c_X12_bit _ hI.1 _ _) (fun x19 h18 zx19 ph18 => ?_)
        subst ph18
        refine sx_ireturn dX12_isFull_77 ?_
        exact ⟨_, rfl, by omega, ⟨rfl, fun q => by omega⟩⟩
    ·
      have vx5 : x5 = 1 := by rcases zx5 with q | q; (exact absurd q c6); exact q
      replace p_x5 := p_x5.mp vx5
      clear zx5
      refine sx_aload_n dX12_isFull_40 rfl ?_
      refine sx_getS (k := 16) (t := 232) cl_12 fl_X12_36 dX12_isFull_41 s_224 (by decide) rfl (by decide) ?_
      refine sx_aload_n dX12_isFull_44 rfl ?_
      refine sx_getI (k := 37) cl_12 fl_X12_340 dX12_isFull_45 s_224 (by decide) rfl (by decide) ?_
      have r20 : (0 : Int) ≤ h0 224 37 ∧ h0 224 37 ≤ 1 := hI.1 224 37
      refine sx_iaload dX12_isFull_48 s_232 (by decide) (by decide) ⟨by first | omega | (rw [Int.tmod_eq_emod_of_nonneg (by omega)]; omega) | (rw [Int.tdiv_eq_ediv_of_nonneg (by omega)]; omega), by first | omega | (rw [Int.tmod_eq_emod_of_nonneg (by omega)]; omega) | (rw [Int.tdiv_eq_ediv_of_nonneg (by omega)]; omega)⟩ ?_
      refine sx_iconst dX12_isFull_49 ⟨by decide, by decide⟩ ?_
      refine sx_callSz lk_X12_358 dX12_isFull_50 (vs := [_, _]) rfl rfl (Nat.le_of_ble_eq_true rfl) (Nat.le_of_ble_eq_true rfl) rfl (c_X12_bit _ hI.1 _ _) (fun x22 h21 zx22 ph21 => ?_)
      subst ph21
      refine sx_ireturn dX12_isFull_53 ?_
      exact ⟨_, rfl, by omega, ⟨rfl, fun q => by omega⟩⟩
  ·
    have vx2 : x2 = 1 := by rcases zx2 with q | q; (exact absurd q c3); exact q
    replace p_x2 := p_x2.mp vx2
    clear zx2
    refine sx_aload_n dX12_isFull_10 rfl ?_
    refine sx_getS (k := 11) (t := 227) cl_12 fl_X12_20 dX12_isFull_11 s_224 (by decide) rfl (by decide) ?_
    refine sx_aload_n dX12_isFull_14 rfl ?_
    refine sx_getI (k := 37) cl_12 fl_X12_340 dX12_isFull_15 s_224 (by decide) rfl (by decide) ?_
    have r23 : (0 : Int) ≤ h0 224 37 ∧ h0 224 37 ≤ 1 := hI.1 224 37
    refine sy_iaF (F := fun z => (0 : Int) ≤ z ∧ z ≤ 6) dX12_isFull_18 s_227 (by decide) (by decide) ⟨by first | omega | (rw [Int.tmod_eq_emod_of_nonneg (by omega)]; omega) | (rw [Int.tdiv_eq_ediv_of_nonneg (by omega)]; omega), by first | omega | (rw [Int.tmod_eq_emod_of_nonneg (by omega)]; omega) | (rw [Int.tdiv_eq_ediv_of_nonneg (by omega)]; omega)⟩ (hI.1 227 _) (fun r24 => ?_)
    refine sx_bipush dX12_isFull_19 ⟨by decide, by decide, by decide⟩ ?_
    refine sx_icmp_ne (tgt := 28) dX12_isFull_21 (by decide) (fun c25 => ?_) (fun c25 => ?_)
    ·
      refine sx_iconst dX12_isFull_28 ⟨by decide, by decide⟩ ?_
      refine sx_ireturn dX12_isFull_29 ?_
      exact ⟨_, rfl, by omega, ⟨rfl, fun q => by omega⟩⟩
    ·
      refine sx_iconst dX12_isFull_24 ⟨by decide, by decide⟩ ?_
      refine sx_goto (tgt := 29) dX12_isFull_25 (by decide) ?_
      refine sx_ireturn dX12_isFull_29 ?_
      exact ⟨_, rfl, by omega, ⟨rfl, fun q => by omega⟩⟩
set_option maxRecDepth 20000 in
set_option maxHeartbeats 4000000 in
theorem c_X12_once {G : sw_G} (d : Nat) {h0 : sw_H} (hJ : mI h0) (b : Nat) (y1 y2 y3 : Int) (hr : h0 224 37 = 1 - (b : Int) ∧ b ≤ 1) (ht : h0 224 7 ≤ h0 224 3 ∧ (h0 224 8 = 0 → h0 224 7 = h0 224 3)) (hb : y2 ≤ y3)  : sw_E G NH SH (d + 4) mX12_once 0 [some (sw_r 224), some (sw_i y1), some (sw_i y2), some (sw_i y3)] [] h0 (sw_Qi (fun z h' => mK (prB b [4, 5, 6, 7, 8, 9, 10] [232]) h0 h' ∧ (h' 224 7 ≤ h' 224 3 ∧ (h' 224 8 = 0 → h' 224 7 = h' 224 3)) ∧ (h0 224 7 ≤ h' 224 7 ∧ (h0 224 8 = 0 → h' 224 8 = 0)) ∧ ((h0 224 4 ≠ 0 → h' 224 4 ≠ 0)) ∧ (y2 ≤ z ∧ z ≤ y3))) := by
  have hI : mK (prB b [4, 5, 6, 7, 8, 9, 10] [232]) h0 h0 := mK.refl hJ
  refine sx_aload_n dX12_once_0 rfl ?_
  refine sx_getS (k := 16) (t := 232) cl_12 fl_X12_36 dX12_once_1 s_224 (by decide) rfl (by decide) ?_
  refine sx_aload_n dX12_once_4 rfl ?_
  refine sx_getI (k := 37) cl_12 fl_X12_340 dX12_once_5 s_224 (by decide) rfl (by decide) ?_
  have r1 : (0 : Int) ≤ h0 224 37 ∧ h0 224 37 ≤ 1 := hI.1 224 37
  refine sx_dup2 dX12_once_8 ?_
  refine sx_iaload dX12_once_9 s_232 (by decide) (by decide) ⟨by first | omega | (rw [Int.tmod_eq_emod_of_nonneg (by omega)]; omega) | (rw [Int.tdiv_eq_ediv_of_nonneg (by omega)]; omega), by first | omega | (rw [Int.tmod_eq_emod_of_nonneg (by omega)]; omega) | (rw [Int.tdiv_eq_ediv_of_nonneg (by omega)]; omega)⟩ ?_
  refine sx_iconst dX12_once_10 ⟨by decide, by decide⟩ ?_
  refine sx_iload_n dX12_once_11 rfl ?_
  refine sx_ishl dX12_once_12 ?_
  refine sx_ior dX12_once_13 ?_
  refine sy_iastore dX12_once_14 s_232 (by decide) (by decide) ⟨by first | omega | (rw [Int.tmod_eq_emod_of_nonneg (by omega)]; omega) | (rw [Int.tdiv_eq_ediv_of_nonneg (by omega)]; omega), by first | omega | (rw [Int.tmod_eq_emod_of_nonneg (by omega)]; omega) | (rw [Int.tdiv_eq_ediv_of_nonneg (by omega)]; omega)⟩ (fun h2 eh2 => ?_)
  have Ih2 := hI.up eh2 trivial (beq_eq_false_iff_ne.mpr (show _ ≠ _ by first | omega | (rw [Int.tmod_eq_emod_of_nonneg (by omega)]; omega) | (rw [Int.tdiv_eq_ediv_of_nonneg (by omega)]; omega)))
  have th2_224_3 := eh2.2 (224) 3 (by omega)
  have th2_224_4 := eh2.2 (224) 4 (by omega)
  have th2_224_7 := eh2.2 (224) 7 (by omega)
  have th2_224_8 := eh2.2 (224) 8 (by omega)
  have th2_224_37 := eh2.2 (224) 37 (by omega)
  have th2_224_38 := eh2.2 (224) 38 (by omega)
  refine sx_aload_n dX12_once_15 rfl ?_
  refine sx_iload_n dX12_once_16 rfl ?_
  refine sx_iload_n dX12_once_17 rfl ?_
  refine sx_callVi lk_X12_362 cl_12 s_224 (by decide) dX12_once_18 (vs := [_, _]) rfl rfl (Nat.le_of_ble_eq_true rfl) (Nat.le_of_ble_eq_true rfl) rfl (c_X12_numeral _ Ih2.1 _ _ (by omega) (hb)) (fun x4 h3 ph3 => ?_)
  obtain ⟨Kh3, a_h3, m_h3, g_h3, v_h3⟩ := ph3
  have Ih3 := Ih2.tr Kh3 (prBW_sub rfl rfl rfl)
  have th3_224_3 := Kh3.2 224 3 rfl
  have th3_224_37 := Kh3.2 224 37 rfl
  have th3_224_38 := Kh3.2 224 38 rfl
  refine sx_ireturn dX12_once_21 ?_
  exact ⟨_, rfl, ⟨Ih3, by omega, by omega, by omega, by omega⟩⟩
set_option maxRecDepth 20000 in
set_option maxHeartbeats 4000000 in
theorem c_X12_readLine {G : sw_G} (d : Nat) {h0 : sw_H} (hJ : mI h0) (b : Nat) (hr : h0 224 37 = 1 - (b : Int) ∧ b ≤ 1) (ht : h0 224 7 ≤ h0 224 3 ∧ (h0 224 8 = 0 → h0 224 7 = h0 224 3)) (hg : h0 224 4 = 0) (h8 : h0 224 8 ≠ 0) (hL : LnI h0 (1 - (b : Int))) (hRR : RR h0 (1 - (b : Int)))  : sw_E G NH SH (d + 7) mX12_readLine 0 [some (sw_r 224), none, none] [] h0 (sw_Qv (fun h' => mK (prB b [4, 5, 6, 7, 8, 9, 10, 38, 39, 40, 41, 52, 53, 54, 55, 56, 57, 58] [227, 228, 229, 230, 231, 232, 233, 234, 235, 236, 237, 238, 239, 240, 241, 242, 243, 244, 245, 246, 247, 248, 249, 250, 252, 253, 254, 255, 256, 257, 258, 259, 260]) h0 h' ∧ (h' 224 7 ≤ h' 224 3 ∧ (h' 224 8 = 0 → h' 224 7 = h' 224 3)) ∧ (h0 224 7 ≤ h' 224 7 ∧ (h0 224 8 = 0 → h' 224 8 = 0)) ∧ (RR h' (1 - (b : Int))) ∧ (imp (h' 224 4 = 0) (LnI h' (1 - (b : Int)) ∧ (h' 224 8 = 0 ∨ h0 224 7 < h' 224 7))) ∧ (h' 224 37 = h0 224 37))) := by
  have hI : mK (prB b [4, 5, 6, 7, 8, 9, 10, 38, 39, 40, 41, 52, 53, 54, 55, 56, 57, 58] [227, 228, 229, 230, 231, 232, 233, 234, 235, 236, 237, 238, 239, 240, 241, 242, 243, 244, 245, 246, 247, 248, 249, 250, 252, 253, 254, 255, 256, 257, 258, 259, 260]) h0 h0 := mK.refl hJ
  have hL2 := hL.2
  have bb : 0 ≤ (b : Int) ∧ (b : Int) ≤ 1 := by omega
  refine sx_aload_n dX12_readLine_0 rfl ?_
  refine sx_getL (k := 10) cl_12 fl_X12_309 dX12_readLine_1 s_224 (by decide) rfl (by decide) ?_
  refine sx_lstore_n dX12_readLine_4 (by decide) ?_
  refine sx_aload_n dX12_readLine_5 rfl ?_
  refine sx_getI (k := 8) cl_12 fl_X12_302 dX12_readLine_6 s_224 (by decide) rfl (by decide) ?_
  have r1 : (0 : Int) ≤ h0 224 8 ∧ h0 224 8 ≤ 5 := hI.1 224 8
  refine sx_iconst dX12_readLine_9 ⟨by decide, by decide⟩ ?_
  refine sx_icmp_ne (tgt := 20) dX12_readLine_10 (by decide) (fun c2 => ?_) (fun c2 => ?_)
  ·
    refine sx_aload_n dX12_readLine_20 rfl ?_
    refine sx_callVv lk_X12_337 cl_12 s_224 (by decide) dX12_readLine_21 (vs := []) rfl rfl (Nat.le_of_ble_eq_true rfl) (Nat.le_of_ble_eq_true rfl) rfl (c_X12_misplaced _ hI.1) (fun h3 ph3 => ?_)
    obtain ⟨Kh3, g_h3⟩ := ph3
    have Ih3 := hI.tr Kh3 (prBW_sub rfl rfl rfl)
    have th3_224_3 := Kh3.2 224 3 rfl
    have th3_224_7 := Kh3.2 224 7 rfl
    have th3_224_8 := Kh3.2 224 8 rfl
    have th3_224_37 := Kh3.2 224 37 rfl
    have th3_224_38 := Kh3.2 224 38 rfl
    refine sx_aload_n dX12_readLine_24 rfl ?_
    refine sx_callVz lk_X12_330 cl_12 s_224 (by decide) dX12_readLine_25 (vs := []) rfl rfl (Nat.le_of_ble_eq_true rfl) (Nat.le_of_ble_eq_true rfl) rfl (c_X12_isGood _ Ih3.1) (fun x6 h5 zx6 ph5 => ?_)
    obtain ⟨rfl, p_x6⟩ := ph5
    refine sx_if_ne (tgt := 32) dX12_readLine_28 (by decide) (fun c7 => ?_) (fun c7 => ?_)
    ·
      exfalso; omega
    ·
      replace p_x6 := mt p_x6.mpr (show ¬ (x6 = 1) by rw [c7]; decide)
      clear zx6
      refine sx_ret dX12_readLine_31 ?_
      exact ⟨rfl, ⟨Ih3, by omega, by omega, (RR_eq (by omega) (by rw [show h3 244 _ = _ from Kh3.2 244 _ rfl]) (by rw [show h3 245 _ = _ from Kh3.2 245 _ rfl]) (fun k _ _ => (by rw [show h3 247 k = _ from Kh3.2 247 k rfl])) hRR), fun q => by exfalso; omega, by omega⟩⟩
  ·
    refine sx_aload_n dX12_readLine_13 rfl ?_
    refine sx_callVz lk_X12_366 cl_12 s_224 (by decide) dX12_readLine_14 (vs := []) rfl rfl (Nat.le_of_ble_eq_true rfl) (Nat.le_of_ble_eq_true rfl) rfl (c_X12_isFull _ hI.1) (fun x9 h8 zx9 ph8 => ?_)
    obtain ⟨rfl, p_x9⟩ := ph8
    have hfull := p_x9
    refine sx_if_eq (tgt := 24) dX12_readLine_17 (by decide) (fun c10 => ?_) (fun c10 => ?_)
    ·
      clear zx9
      refine sx_aload_n dX12_readLine_24 rfl ?_
      refine sx_callVz lk_X12_330 cl_12 s_224 (by decide) dX12_readLine_25 (vs := []) rfl rfl (Nat.le_of_ble_eq_true rfl) (Nat.le_of_ble_eq_true rfl) rfl (c_X12_isGood _ hI.1) (fun x12 h11 zx12 ph11 => ?_)
      obtain ⟨rfl, p_x12⟩ := ph11
      refine sx_if_ne (tgt := 32) dX12_readLine_28 (by decide) (fun c13 => ?_) (fun c13 => ?_)
      ·
        have vx12 : x12 = 1 := by rcases zx12 with q | q; (exact absurd q c13); exact q
        replace p_x12 := p_x12.mp vx12
        clear zx12
        refine sx_aload_n dX12_readLine_32 rfl ?_
        refine sx_callVv lk_X12_334 cl_12 s_224 (by decide) dX12_readLine_33 (vs := []) rfl rfl (Nat.le_of_ble_eq_true rfl) (Nat.le_of_ble_eq_true rfl) rfl (c_X12_goOn _ hI.1 (by omega)) (fun h14 ph14 => ?_)
        obtain ⟨Kh14, a_h14, s_h14, l_h14⟩ := ph14
        have Ih14 := hI.tr Kh14 (prBW_sub rfl rfl rfl)
        have th14_224_3 := Kh14.2 224 3 rfl
        have th14_224_4 := Kh14.2 224 4 rfl
        have th14_224_37 := Kh14.2 224 37 rfl
        have th14_224_38 := Kh14.2 224 38 rfl
        refine sx_lload_n dX12_readLine_36 rfl ?_
        refine sx_ldc2 kc_X12_230 ⟨by decide, by decide⟩ dX12_readLine_37 ?_
        refine sx_lcmp dX12_readLine_40 ?_
        refine sx_if_ne (tgt := 49) dX12_readLine_41 (by decide) (fun c16 => ?_) (fun c16 => ?_)
        ·
          refine sx_lload_n dX12_readLine_49 rfl ?_
          refine sx_ldc2 kc_X12_242 ⟨by decide, by decide⟩ dX12_readLine_50 ?_
          refine sx_lcmp dX12_readLine_53 ?_
          refine sx_if_ne (tgt := 61) dX12_readLine_54 (by decide) (fun c17 => ?_) (fun c17 => ?_)
          ·
            refine sx_lload_n dX12_readLine_61 rfl ?_
            refine sx_ldc2 kc_X12_244 ⟨by decide, by decide⟩ dX12_readLine_62 ?_
            refine sx_lcmp dX12_readLine_65 ?_
            refine sx_if_ne (tgt := 86) dX12_readLine_66 (by decide) (fun c18 => ?_) (fun c18 => ?_)
            ·
              refine sx_lload_n dX12_readLine_86 rfl ?_
              refine sx_ldc2 kc_X12_246 ⟨by decide, by decide⟩ dX12_readLine_87 ?_
              refine sx_lcmp dX12_readLine_90 ?_
              refine sx_if_ne (tgt := 112) dX12_readLine_91 (by decide) (fun c19 => ?_) (fun c19 => ?_)
              ·
                refine sx_aload_n dX12_readLine_112 rfl ?_
                refine sx_aload_n dX12_readLine_113 rfl ?_
                refine sx_bipush dX12_readLine_114 ⟨by decide, by decide, by decide⟩ ?_
                refine sx_callVz lk_X12_379 cl_12 s_224 (by decide) dX12_readLine_116 (vs := [_]) rfl rfl (Nat.le_of_ble_eq_true rfl) (Nat.le_of_ble_eq_true rfl) rfl (c2_X12_isSignHere _ Ih14.1 _) (fun x21 h20 zx21 ph20 => ?_)
                obtain ⟨rfl, p_x21⟩ := ph20
                refine sx_callVv lk_X12_382 cl_12 s_224 (by decide) dX12_readLine_119 (vs := [_]) rfl rfl (Nat.le_of_ble_eq_true rfl) (Nat.le_of_ble_eq_true rfl) rfl (c_X12_must _ Ih14.1 _ (by omega)) (fun h22 ph22 => ?_)
                obtain ⟨Kh22, a_h22, m_h22, g_h22⟩ := ph22
                have Ih22 := Ih14.tr Kh22 (prBW_sub rfl rfl rfl)
                have th22_224_3 := Kh22.2 224 3 rfl
                have th22_224_37 := Kh22.2 224 37 rfl
                have th22_224_38 := Kh22.2 224 38 rfl
                refine sx_ret dX12_readLine_122 ?_
                have e29 : h22 229 (1 - (b : Int)).toNat = h0 229 (1 - (b : Int)).toNat := (by rw [show h22 229 _ = _ from Kh22.2 229 _ rfl, show h14 229 _ = _ from Kh14.2 229 _ rfl])
                have e27 : h22 227 (1 - (b : Int)).toNat = h0 227 (1 - (b : Int)).toNat := (by rw [show h22 227 _ = _ from Kh22.2 227 _ rfl, show h14 227 _ = _ from Kh14.2 227 _ rfl])
                have e28 : h22 228 (1 - (b : Int)).toNat = h0 228 (1 - (b : Int)).toNat := (by rw [show h22 228 _ = _ from Kh22.2 228 _ rfl, show h14 228 _ = _ from Kh14.2 228 _ rfl])
                exact ⟨rfl, ⟨Ih22, by omega, by omega, (RR_eq (by omega) (by rw [show h22 244 _ = _ from Kh22.2 244 _ rfl, show h14 244 _ = _ from Kh14.2 244 _ rfl]) (by rw [show h22 245 _ = _ from Kh22.2 245 _ rfl, show h14 245 _ = _ from Kh14.2 245 _ rfl]) (fun k _ _ => (by rw [show h22 247 k = _ from Kh22.2 247 k rfl, show h14 247 k = _ from Kh14.2 247 k rfl])) hRR), fun q => ⟨⟨(by rw [e27, e28]; exact RBx_fr (by omega) (fun a k q1 q2 => by have q : a = 233 ∨ a = 234 ∨ a = 235 ∨ a = 236 ∨ a = 237 := (by omega); rcases q with rfl | rfl | rfl | rfl | rfl; (focus rw [show h22 233 k = _ from Kh22.2 233 k rfl, show h14 233 k = _ from Kh14.2 233 k rfl]); (focus rw [show h22 234 k = _ from Kh22.2 234 k rfl, show h14 234 k = _ from Kh14.2 234 k rfl]); (focus rw [show h22 235 k = _ from Kh22.2 235 k rfl, show h14 235 k = _ from Kh14.2 235 k rfl]); (focus rw [show h22 236 k = _ from Kh22.2 236 k rfl, show h14 236 k = _ from Kh14.2 236 k rfl]); (focus rw [show h22 237 k = _ from Kh22.2 237 k rfl, show h14 237 k = _ from Kh14.2 237 k rfl])) (fun a k q => by rcases q with rfl | rfl | rfl; (focus rw [show h22 240 k = _ from Kh22.2 240 k rfl, show h14 240 k = _ from Kh14.2 240 k rfl]); (focus rw [show h22 241 k = _ from Kh22.2 241 k rfl, show h14 241 k = _ from Kh14.2 241 k rfl]); (focus rw [show h22 243 k = _ from Kh22.2 243 k rfl, show h14 243 k = _ from Kh14.2 243 k rfl])) hL.1), by omega, by omega⟩, by omega⟩, by omega⟩⟩
              ·
                refine sx_aload_n dX12_readLine_94 rfl ?_
                refine sx_getS (k := 15) (t := 231) cl_12 fl_X12_33 dX12_readLine_95 s_224 (by decide) rfl (by decide) ?_
                refine sx_aload_n dX12_readLine_98 rfl ?_
                refine sx_getI (k := 37) cl_12 fl_X12_340 dX12_readLine_99 s_224 (by decide) rfl (by decide) ?_
                have r24 : (0 : Int) ≤ h14 224 37 ∧ h14 224 37 ≤ 1 := Ih14.1 224 37
                refine sx_aload_n dX12_readLine_102 rfl ?_
                refine sx_iconst dX12_readLine_103 ⟨by decide, by decide⟩ ?_
                refine sx_iconst dX12_readLine_104 ⟨by decide, by decide⟩ ?_
                refine sx_sipush dX12_readLine_105 ⟨by decide, by decide, by decide⟩ ?_
                refine sx_callVi lk_X12_375 cl_12 s_224 (by decide) dX12_readLine_108 (vs := [_, _, _]) rfl rfl (Nat.le_of_ble_eq_true rfl) (Nat.le_of_ble_eq_true rfl) rfl (c_X12_once _ Ih14.1 b _ _ _ (by omega) (by omega) (by decide)) (fun x26 h25 ph25 => ?_)
                obtain ⟨Kh25, a_h25, m_h25, g_h25, v_h25⟩ := ph25
                have Ih25 := Ih14.tr Kh25 (prB_sub rfl rfl)
                have th25_224_3 := Kh25.2 224 3 rfl
                have th25_224_37 := Kh25.2 224 37 rfl
                have th25_224_38 := Kh25.2 224 38 rfl
                refine sy_iastore dX12_readLine_111 s_231 (by decide) (by decide) ⟨by omega, by omega⟩ (fun h27 eh27 => ?_)
                have Ih27 := Ih25.up eh27 trivial (beq_eq_false_iff_ne.mpr (show _ ≠ _ by omega))
                have th27_224_3 := eh27.2 (224) 3 (fun q => absurd q.1 (by decide))
                have th27_224_4 := eh27.2 (224) 4 (fun q => absurd q.1 (by decide))
                have th27_224_7 := eh27.2 (224) 7 (fun q => absurd q.1 (by decide))
                have th27_224_8 := eh27.2 (224) 8 (fun q => absurd q.1 (by decide))
                have th27_224_37 := eh27.2 (224) 37 (fun q => absurd q.1 (by decide))
                have th27_224_38 := eh27.2 (224) 38 (fun q => absurd q.1 (by decide))
                refine sx_aload_n dX12_readLine_112 rfl ?_
                refine sx_aload_n dX12_readLine_113 rfl ?_
                refine sx_bipush dX12_readLine_114 ⟨by decide, by decide, by decide⟩ ?_
                refine sx_callVz lk_X12_379 cl_12 s_224 (by decide) dX12_readLine_116 (vs := [_]) rfl rfl (Nat.le_of_ble_eq_true rfl) (Nat.le_of_ble_eq_true rfl) rfl (c2_X12_isSignHere _ Ih27.1 _) (fun x29 h28 zx29 ph28 => ?_)
                obtain ⟨rfl, p_x29⟩ := ph28
                refine sx_callVv lk_X12_382 cl_12 s_224 (by decide) dX12_readLine_119 (vs := [_]) rfl rfl (Nat.le_of_ble_eq_true rfl) (Nat.le_of_ble_eq_true rfl) rfl (c_X12_must _ Ih27.1 _ (by omega)) (fun h30 ph30 => ?_)
                obtain ⟨Kh30, a_h30, m_h30, g_h30⟩ := ph30
                have Ih30 := Ih27.tr Kh30 (prBW_sub rfl rfl rfl)
                have th30_224_3 := Kh30.2 224 3 rfl
                have th30_224_37 := Kh30.2 224 37 rfl
                have th30_224_38 := Kh30.2 224 38 rfl
                refine sx_ret dX12_readLine_122 ?_
                have e29 : h30 229 (1 - (b : Int)).toNat = h0 229 (1 - (b : Int)).toNat := (by rw [show h30 229 _ = _ from Kh30.2 229 _ rfl, eh27.2 229 _ (fun q => absurd q.1 (by decide)), show h25 229 _ = _ from Kh25.2 229 _ rfl, show h14 229 _ = _ from Kh14.2 229 _ rfl])
                have e27 : h30 227 (1 - (b : Int)).toNat = h0 227 (1 - (b : Int)).toNat := (by rw [show h30 227 _ = _ from Kh30.2 227 _ rfl, eh27.2 227 _ (fun q => absurd q.1 (by decide)), show h25 227 _ = _ from Kh25.2 227 _ rfl, show h14 227 _ = _ from Kh14.2 227 _ rfl])
                have e28 : h30 228 (1 - (b : Int)).toNat = h0 228 (1 - (b : Int)).toNat := (by rw [show h30 228 _ = _ from Kh30.2 228 _ rfl, eh27.2 228 _ (fun q => absurd q.1 (by decide)), show h25 228 _ = _ from Kh25.2 228 _ rfl, show h14 228 _ = _ from Kh14.2 228 _ rfl])
                exact ⟨rfl, ⟨Ih30, by omega, by omega, (RR_eq (by omega) (by rw [show h30 244 _ = _ from Kh30.2 244 _ rfl, eh27.2 244 _ (fun q => absurd q.1 (by decide)), show h25 244 _ = _ from Kh25.2 244 _ rfl, show h14 244 _ = _ from Kh14.2 244 _ rfl]) (by rw [show h30 245 _ = _ from Kh30.2 245 _ rfl, eh27.2 245 _ (fun q => absurd q.1 (by decide)), show h25 245 _ = _ from Kh25.2 245 _ rfl, show h14 245 _ = _ from Kh14.2 245 _ rfl]) (fun k _ _ => (by rw [show h30 247 k = _ from Kh30.2 247 k rfl, eh27.2 247 k (fun q => absurd q.1 (by decide)), show h25 247 k = _ from Kh25.2 247 k rfl, show h14 247 k = _ from Kh14.2 247 k rfl])) hRR), fun q => ⟨⟨(by rw [e27, e28]; exact RBx_fr (by omega) (fun a k q1 q2 => by have q : a = 233 ∨ a = 234 ∨ a = 235 ∨ a = 236 ∨ a = 237 := (by omega); rcases q with rfl | rfl | rfl | rfl | rfl; (focus rw [show h30 233 k = _ from Kh30.2 233 k rfl, eh27.2 233 k (fun q => absurd q.1 (by decide)), show h25 233 k = _ from Kh25.2 233 k rfl, show h14 233 k = _ from Kh14.2 233 k rfl]); (focus rw [show h30 234 k = _ from Kh30.2 234 k rfl, eh27.2 234 k (fun q => absurd q.1 (by decide)), show h25 234 k = _ from Kh25.2 234 k rfl, show h14 234 k = _ from Kh14.2 234 k rfl]); (focus rw [show h30 235 k = _ from Kh30.2 235 k rfl, eh27.2 235 k (fun q => absurd q.1 (by decide)), show h25 235 k = _ from Kh25.2 235 k rfl, show h14 235 k = _ from Kh14.2 235 k rfl]); (focus rw [show h30 236 k = _ from Kh30.2 236 k rfl, eh27.2 236 k (fun q => absurd q.1 (by decide)), show h25 236 k = _ from Kh25.2 236 k rfl, show h14 236 k = _ from Kh14.2 236 k rfl]); (focus rw [show h30 237 k = _ from Kh30.2 237 k rfl, eh27.2 237 k (fun q => absurd q.1 (by decide)), show h25 237 k = _ from Kh25.2 237 k rfl, show h14 237 k = _ from Kh14.2 237 k rfl])) (fun a k q => by rcases q with rfl | rfl | rfl; (focus rw [show h30 240 k = _ from Kh30.2 240 k rfl, eh27.2 240 k (fun q => absurd q.1 (by decide)), show h25 240 k = _ from Kh25.2 240 k rfl, show h14 240 k = _ from Kh14.2 240 k rfl]); (focus rw [show h30 241 k = _ from Kh30.2 241 k rfl, eh27.2 241 k (fun q => absurd q.1 (by decide)), show h25 241 k = _ from Kh25.2 241 k rfl, show h14 241 k = _ from Kh14.2 241 k rfl]); (focus rw [show h30 243 k = _ from Kh30.2 243 k rfl, eh27.2 243 k (fun q => absurd q.1 (by decide)), show h25 243 k = _ from Kh25.2 243 k rfl, show h14 243 k = _ from Kh14.2 243 k rfl])) hL.1), by omega, by omega⟩, by omega⟩, by omega⟩⟩
            ·
              refine sx_aload_n dX12_readLine_69 rfl ?_
              refine sx_getS (k := 14) (t := 230) cl_12 fl_X12_30 dX12_readLine_70 s_224 (by decide) rfl (by decide) ?_
              refine sx_aload_n dX12_readLine_73 rfl ?_
              refine sx_getI (k := 37) cl_12 fl_X12_340 dX12_readLine_74 s_224 (by decide) rfl (by decide) ?_
              have r32 : (0 : Int) ≤ h14 224 37 ∧ h14 224 37 ≤ 1 := Ih14.1 224 37
              refine sx_aload_n dX12_readLine_77 rfl ?_
              refine sx_iconst dX12_readLine_78 ⟨by decide, by decide⟩ ?_
              refine sx_iconst dX12_readLine_79 ⟨by decide, by decide⟩ ?_
              refine sx_bipush dX12_readLine_80 ⟨by decide, by decide, by decide⟩ ?_
              refine sx_callVi lk_X12_375 cl_12 s_224 (by decide) dX12_readLine_82 (vs := [_, _, _]) rfl rfl (Nat.le_of_ble_eq_true rfl) (Nat.le_of_ble_eq_true rfl) rfl (c_X12_once _ Ih14.1 b _ _ _ (by omega) (by omega) (by decide)) (fun x34 h33 ph33 => ?_)
              obtain ⟨Kh33, a_h33, m_h33, g_h33, v_h33⟩ := ph33
              have Ih33 := Ih14.tr Kh33 (prB_sub rfl rfl)
              have th33_224_3 := Kh33.2 224 3 rfl
              have th33_224_37 := Kh33.2 224 37 rfl
              have th33_224_38 := Kh33.2 224 38 rfl
              refine sy_iastore dX12_readLine_85 s_230 (by decide) (by decide) ⟨by omega, by omega⟩ (fun h35 eh35 => ?_)
              have Ih35 := Ih33.up eh35 (show (0 : Int) ≤ _ ∧ _ ≤ (100 : Int) from ⟨by omega, by omega⟩) (beq_eq_false_iff_ne.mpr (show _ ≠ _ by omega))
              have th35_224_3 := eh35.2 (224) 3 (fun q => absurd q.1 (by decide))
              have th35_224_4 := eh35.2 (224) 4 (fun q => absurd q.1 (by decide))
              have th35_224_7 := eh35.2 (224) 7 (fun q => absurd q.1 (by decide))
              have th35_224_8 := eh35.2 (224) 8 (fun q => absurd q.1 (by decide))
              have th35_224_37 := eh35.2 (224) 37 (fun q => absurd q.1 (by decide))
              have th35_224_38 := eh35.2 (224) 38 (fun q => absurd q.1 (by decide))
              refine sx_lload_n dX12_readLine_86 rfl ?_
              refine sx_ldc2 kc_X12_246 ⟨by decide, by decide⟩ dX12_readLine_87 ?_
              refine sx_lcmp dX12_readLine_90 ?_
              refine sx_if_ne (tgt := 112) dX12_readLine_91 (by decide) (fun c36 => ?_) (fun c36 => ?_)
              ·
                refine sx_aload_n dX12_readLine_112 rfl ?_
                refine sx_aload_n dX12_readLine_113 rfl ?_
                refine sx_bipush dX12_readLine_114 ⟨by decide, by decide, by decide⟩ ?_
                refine sx_callVz lk_X12_379 cl_12 s_224 (by decide) dX12_readLine_116 (vs := [_]) rfl rfl (Nat.le_of_ble_eq_true rfl) (Nat.le_of_ble_eq_true rfl) rfl (c2_X12_isSignHere _ Ih35.1 _) (fun x38 h37 zx38 ph37 => ?_)
                obtain ⟨rfl, p_x38⟩ := ph37
                refine sx_callVv lk_X12_382 cl_12 s_224 (by decide) dX12_readLine_119 (vs := [_]) rfl rfl (Nat.le_of_ble_eq_true rfl) (Nat.le_of_ble_eq_true rfl) rfl (c_X12_must _ Ih35.1 _ (by omega)) (fun h39 ph39 => ?_)
                obtain ⟨Kh39, a_h39, m_h39, g_h39⟩ := ph39
                have Ih39 := Ih35.tr Kh39 (prBW_sub rfl rfl rfl)
                have th39_224_3 := Kh39.2 224 3 rfl
                have th39_224_37 := Kh39.2 224 37 rfl
                have th39_224_38 := Kh39.2 224 38 rfl
                refine sx_ret dX12_readLine_122 ?_
                have e29 : h39 229 (1 - (b : Int)).toNat = h0 229 (1 - (b : Int)).toNat := (by rw [show h39 229 _ = _ from Kh39.2 229 _ rfl, eh35.2 229 _ (fun q => absurd q.1 (by decide)), show h33 229 _ = _ from Kh33.2 229 _ rfl, show h14 229 _ = _ from Kh14.2 229 _ rfl])
                have e27 : h39 227 (1 - (b : Int)).toNat = h0 227 (1 - (b : Int)).toNat := (by rw [show h39 227 _ = _ from Kh39.2 227 _ rfl, eh35.2 227 _ (fun q => absurd q.1 (by decide)), show h33 227 _ = _ from Kh33.2 227 _ rfl, show h14 227 _ = _ from Kh14.2 227 _ rfl])
                have e28 : h39 228 (1 - (b : Int)).toNat = h0 228 (1 - (b : Int)).toNat := (by rw [show h39 228 _ = _ from Kh39.2 228 _ rfl, eh35.2 228 _ (fun q => absurd q.1 (by decide)), show h33 228 _ = _ from Kh33.2 228 _ rfl, show h14 228 _ = _ from Kh14.2 228 _ rfl])
                exact ⟨rfl, ⟨Ih39, by omega, by omega, (RR_eq (by omega) (by rw [show h39 244 _ = _ from Kh39.2 244 _ rfl, eh35.2 244 _ (fun q => absurd q.1 (by decide)), show h33 244 _ = _ from Kh33.2 244 _ rfl, show h14 244 _ = _ from Kh14.2 244 _ rfl]) (by rw [show h39 245 _ = _ from Kh39.2 245 _ rfl, eh35.2 245 _ (fun q => absurd q.1 (by decide)), show h33 245 _ = _ from Kh33.2 245 _ rfl, show h14 245 _ = _ from Kh14.2 245 _ rfl]) (fun k _ _ => (by rw [show h39 247 k = _ from Kh39.2 247 k rfl, eh35.2 247 k (fun q => absurd q.1 (by decide)), show h33 247 k = _ from Kh33.2 247 k rfl, show h14 247 k = _ from Kh14.2 247 k rfl])) hRR), fun q => ⟨⟨(by rw [e27, e28]; exact RBx_fr (by omega) (fun a k q1 q2 => by have q : a = 233 ∨ a = 234 ∨ a = 235 ∨ a = 236 ∨ a = 237 := (by omega); rcases q with rfl | rfl | rfl | rfl | rfl; (focus rw [show h39 233 k = _ from Kh39.2 233 k rfl, eh35.2 233 k (fun q => absurd q.1 (by decide)), show h33 233 k = _ from Kh33.2 233 k rfl, show h14 233 k = _ from Kh14.2 233 k rfl]); (focus rw [show h39 234 k = _ from Kh39.2 234 k rfl, eh35.2 234 k (fun q => absurd q.1 (by decide)), show h33 234 k = _ from Kh33.2 234 k rfl, show h14 234 k = _ from Kh14.2 234 k rfl]); (focus rw [show h39 235 k = _ from Kh39.2 235 k rfl, eh35.2 235 k (fun q => absurd q.1 (by decide)), show h33 235 k = _ from Kh33.2 235 k rfl, show h14 235 k = _ from Kh14.2 235 k rfl]); (focus rw [show h39 236 k = _ from Kh39.2 236 k rfl, eh35.2 236 k (fun q => absurd q.1 (by decide)), show h33 236 k = _ from Kh33.2 236 k rfl, show h14 236 k = _ from Kh14.2 236 k rfl]); (focus rw [show h39 237 k = _ from Kh39.2 237 k rfl, eh35.2 237 k (fun q => absurd q.1 (by decide)), show h33 237 k = _ from Kh33.2 237 k rfl, show h14 237 k = _ from Kh14.2 237 k rfl])) (fun a k q => by rcases q with rfl | rfl | rfl; (focus rw [show h39 240 k = _ from Kh39.2 240 k rfl, eh35.2 240 k (fun q => absurd q.1 (by decide)), show h33 240 k = _ from Kh33.2 240 k rfl, show h14 240 k = _ from Kh14.2 240 k rfl]); (focus rw [show h39 241 k = _ from Kh39.2 241 k rfl, eh35.2 241 k (fun q => absurd q.1 (by decide)), show h33 241 k = _ from Kh33.2 241 k rfl, show h14 241 k = _ from Kh14.2 241 k rfl]); (focus rw [show h39 243 k = _ from Kh39.2 243 k rfl, eh35.2 243 k (fun q => absurd q.1 (by decide)), show h33 243 k = _ from Kh33.2 243 k rfl, show h14 243 k = _ from Kh14.2 243 k rfl])) hL.1), by omega, by omega⟩, by omega⟩, by omega⟩⟩
              ·
                refine sx_aload_n dX12_readLine_94 rfl ?_
                refine sx_getS (k := 15) (t := 231) cl_12 fl_X12_33 dX12_readLine_95 s_224 (by decide) rfl (by decide) ?_
                refine sx_aload_n dX12_readLine_98 rfl ?_
                refine sx_getI (k := 37) cl_12 fl_X12_340 dX12_readLine_99 s_224 (by decide) rfl (by decide) ?_
                have r41 : (0 : Int) ≤ h35 224 37 ∧ h35 224 37 ≤ 1 := Ih35.1 224 37
                refine sx_aload_n dX12_readLine_102 rfl ?_
                refine sx_iconst dX12_readLine_103 ⟨by decide, by decide⟩ ?_
                refine sx_iconst dX12_readLine_104 ⟨by decide, by decide⟩ ?_
                refine sx_sipush dX12_readLine_105 ⟨by decide, by decide, by decide⟩ ?_
                refine sx_callVi lk_X12_375 cl_12 s_224 (by decide) dX12_readLine_108 (vs := [_, _, _]) rfl rfl (Nat.le_of_ble_eq_true rfl) (Nat.le_of_ble_eq_true rfl) rfl (c_X12_once _ Ih35.1 b _ _ _ (by omega) (by omega) (by decide)) (fun x43 h42 ph42 => ?_)
                obtain ⟨Kh42, a_h42, m_h42, g_h42, v_h42⟩ := ph42
                have Ih42 := Ih35.tr Kh42 (prB_sub rfl rfl)
                have th42_224_3 := Kh42.2 224 3 rfl
                have th42_224_37 := Kh42.2 224 37 rfl
                have th42_224_38 := Kh42.2 224 38 rfl
                refine sy_iastore dX12_readLine_111 s_231 (by decide) (by decide) ⟨by omega, by omega⟩ (fun h44 eh44 => ?_)
                have Ih44 := Ih42.up eh44 trivial (beq_eq_false_iff_ne.mpr (show _ ≠ _ by omega))
                have th44_224_3 := eh44.2 (224) 3 (fun q => absurd q.1 (by decide))
                have th44_224_4 := eh44.2 (224) 4 (fun q => absurd q.1 (by decide))
                have th44_224_7 := eh44.2 (224) 7 (fun q => absurd q.1 (by decide))
                have th44_224_8 := eh44.2 (224) 8 (fun q => absurd q.1 (by decide))
                have th44_224_37 := eh44.2 (224) 37 (fun q => absurd q.1 (by decide))
                have th44_224_38 := eh44.2 (224) 38 (fun q => absurd q.1 (by decide))
                refine sx_aload_n dX12_readLine_112 rfl ?_
                refine sx_aload_n dX12_readLine_113 rfl ?_
                refine sx_bipush dX12_readLine_114 ⟨by decide, by decide, by decide⟩ ?_
                refine sx_callVz lk_X12_379 cl_12 s_224 (by decide) dX12_readLine_116 (vs := [_]) rfl rfl (Nat.le_of_ble_eq_true rfl) (Nat.le_of_ble_eq_true rfl) rfl (c2_X12_isSignHere _ Ih44.1 _) (fun x46 h45 zx46 ph45 => ?_)
                obtain ⟨rfl, p_x46⟩ := ph45
                refine sx_callVv lk_X12_382 cl_12 s_224 (by decide) dX12_readLine_119 (vs := [_]) rfl rfl (Nat.le_of_ble_eq_true rfl) (Nat.le_of_ble_eq_true rfl) rfl (c_X12_must _ Ih44.1 _ (by omega)) (fun h47 ph47 => ?_)
                obtain ⟨Kh47, a_h47, m_h47, g_h47⟩ := ph47
                have Ih47 := Ih44.tr Kh47 (prBW_sub rfl rfl rfl)
                have th47_224_3 := Kh47.2 224 3 rfl
                have th47_224_37 := Kh47.2 224 37 rfl
                have th47_224_38 := Kh47.2 224 38 rfl
                refine sx_ret dX12_readLine_122 ?_
                have e29 : h47 229 (1 - (b : Int)).toNat = h0 229 (1 - (b : Int)).toNat := (by rw [show h47 229 _ = _ from Kh47.2 229 _ rfl, eh44.2 229 _ (fun q => absurd q.1 (by decide)), show h42 229 _ = _ from Kh42.2 229 _ rfl, eh35.2 229 _ (fun q => absurd q.1 (by decide)), show h33 229 _ = _ from Kh33.2 229 _ rfl, show h14 229 _ = _ from Kh14.2 229 _ rfl])
                have e27 : h47 227 (1 - (b : Int)).toNat = h0 227 (1 - (b : Int)).toNat := (by rw [show h47 227 _ = _ from Kh47.2 227 _ rfl, eh44.2 227 _ (fun q => absurd q.1 (by decide)), show h42 227 _ = _ from Kh42.2 227 _ rfl, eh35.2 227 _ (fun q => absurd q.1 (by decide)), show h33 227 _ = _ from Kh33.2 227 _ rfl, show h14 227 _ = _ from Kh14.2 227 _ rfl])
                have e28 : h47 228 (1 - (b : Int)).toNat = h0 228 (1 - (b : Int)).toNat := (by rw [show h47 228 _ = _ from Kh47.2 228 _ rfl, eh44.2 228 _ (fun q => absurd q.1 (by decide)), show h42 228 _ = _ from Kh42.2 228 _ rfl, eh35.2 228 _ (fun q => absurd q.1 (by decide)), show h33 228 _ = _ from Kh33.2 228 _ rfl, show h14 228 _ = _ from Kh14.2 228 _ rfl])
                exact ⟨rfl, ⟨Ih47, by omega, by omega, (RR_eq (by omega) (by rw [show h47 244 _ = _ from Kh47.2 244 _ rfl, eh44.2 244 _ (fun q => absurd q.1 (by decide)), show h42 244 _ = _ from Kh42.2 244 _ rfl, eh35.2 244 _ (fun q => absurd q.1 (by decide)), show h33 244 _ = _ from Kh33.2 244 _ rfl, show h14 244 _ = _ from Kh14.2 244 _ rfl]) (by rw [show h47 245 _ = _ from Kh47.2 245 _ rfl, eh44.2 245 _ (fun q => absurd q.1 (by decide)), show h42 245 _ = _ from Kh42.2 245 _ rfl, eh35.2 245 _ (fun q => absurd q.1 (by decide)), show h33 245 _ = _ from Kh33.2 245 _ rfl, show h14 245 _ = _ from Kh14.2 245 _ rfl]) (fun k _ _ => (by rw [show h47 247 k = _ from Kh47.2 247 k rfl, eh44.2 247 k (fun q => absurd q.1 (by decide)), show h42 247 k = _ from Kh42.2 247 k rfl, eh35.2 247 k (fun q => absurd q.1 (by decide)), show h33 247 k = _ from Kh33.2 247 k rfl, show h14 247 k = _ from Kh14.2 247 k rfl])) hRR), fun q => ⟨⟨(by rw [e27, e28]; exact RBx_fr (by omega) (fun a k q1 q2 => by have q : a = 233 ∨ a = 234 ∨ a = 235 ∨ a = 236 ∨ a = 237 := (by omega); rcases q with rfl | rfl | rfl | rfl | rfl; (focus rw [show h47 233 k = _ from Kh47.2 233 k rfl, eh44.2 233 k (fun q => absurd q.1 (by decide)), show h42 233 k = _ from Kh42.2 233 k rfl, eh35.2 233 k (fun q => absurd q.1 (by decide)), show h33 233 k = _ from Kh33.2 233 k rfl, show h14 233 k = _ from Kh14.2 233 k rfl]); (focus rw [show h47 234 k = _ from Kh47.2 234 k rfl, eh44.2 234 k (fun q => absurd q.1 (by decide)), show h42 234 k = _ from Kh42.2 234 k rfl, eh35.2 234 k (fun q => absurd q.1 (by decide)), show h33 234 k = _ from Kh33.2 234 k rfl, show h14 234 k = _ from Kh14.2 234 k rfl]); (focus rw [show h47 235 k = _ from Kh47.2 235 k rfl, eh44.2 235 k (fun q => absurd q.1 (by decide)), show h42 235 k = _ from Kh42.2 235 k rfl, eh35.2 235 k (fun q => absurd q.1 (by decide)), show h33 235 k = _ from Kh33.2 235 k rfl, show h14 235 k = _ from Kh14.2 235 k rfl]); (focus rw [show h47 236 k = _ from Kh47.2 236 k rfl, eh44.2 236 k (fun q => absurd q.1 (by decide)), show h42 236 k = _ from Kh42.2 236 k rfl, eh35.2 236 k (fun q => absurd q.1 (by decide)), show h33 236 k = _ from Kh33.2 236 k rfl, show h14 236 k = _ from Kh14.2 236 k rfl]); (focus rw [show h47 237 k = _ from Kh47.2 237 k rfl, eh44.2 237 k (fun q => absurd q.1 (by decide)), show h42 237 k = _ from Kh42.2 237 k rfl, eh35.2 237 k (fun q => absurd q.1 (by decide)), show h33 237 k = _ from Kh33.2 237 k rfl, show h14 237 k = _ from Kh14.2 237 k rfl])) (fun a k q => by rcases q with rfl | rfl | rfl; (focus rw [show h47 240 k = _ from Kh47.2 240 k rfl, eh44.2 240 k (fun q => absurd q.1 (by decide)), show h42 240 k = _ from Kh42.2 240 k rfl, eh35.2 240 k (fun q => absurd q.1 (by decide)), show h33 240 k = _ from Kh33.2 240 k rfl, show h14 240 k = _ from Kh14.2 240 k rfl]); (focus rw [show h47 241 k = _ from Kh47.2 241 k rfl, eh44.2 241 k (fun q => absurd q.1 (by decide)), show h42 241 k = _ from Kh42.2 241 k rfl, eh35.2 241 k (fun q => absurd q.1 (by decide)), show h33 241 k = _ from Kh33.2 241 k rfl, show h14 241 k = _ from Kh14.2 241 k rfl]); (focus rw [show h47 243 k = _ from Kh47.2 243 k rfl, eh44.2 243 k (fun q => absurd q.1 (by decide)), show h42 243 k = _ from Kh42.2 243 k rfl, eh35.2 243 k (fun q => absurd q.1 (by decide)), show h33 243 k = _ from Kh33.2 243 k rfl, show h14 243 k = _ from Kh14.2 243 k rfl])) hL.1), by omega, by omega⟩, by omega⟩, by omega⟩⟩
          ·
            have k29 : h14 229 (1 - (b : Int)).toNat = h0 229 (1 - (b : Int)).toNat := (by rw [show h14 229 _ = _ from Kh14.2 229 _ rfl])
            refine sx_aload_n dX12_readLine_57 rfl ?_
            refine sx_callVv lk_X12_372 cl_12 s_224 (by decide) dX12_readLine_58 (vs := []) rfl rfl (Nat.le_of_ble_eq_true rfl) (Nat.le_of_ble_eq_true rfl) rfl (c_X12_readRule _ Ih14.1 b (by omega) (by omega) (by omega)) (fun h49 ph49 => ?_)
            obtain ⟨Kh49, a_h49, m_h49, f_h49, c_h49, d_h49⟩ := ph49
            have Ih49 := Ih14.tr Kh49 (prB_sub rfl rfl)
            have th49_224_3 := Kh49.2 224 3 rfl
            have th49_224_37 := Kh49.2 224 37 rfl
            refine sx_lload_n dX12_readLine_61 rfl ?_
            refine sx_ldc2 kc_X12_244 ⟨by decide, by decide⟩ dX12_readLine_62 ?_
            refine sx_lcmp dX12_readLine_65 ?_
            refine sx_if_ne (tgt := 86) dX12_readLine_66 (by decide) (fun c51 => ?_) (fun c51 => ?_)
            ·
              refine sx_lload_n dX12_readLine_86 rfl ?_
              refine sx_ldc2 kc_X12_246 ⟨by decide, by decide⟩ dX12_readLine_87 ?_
              refine sx_lcmp dX12_readLine_90 ?_
              refine sx_if_ne (tgt := 112) dX12_readLine_91 (by decide) (fun c52 => ?_) (fun c52 => ?_)
              ·
                refine sx_aload_n dX12_readLine_112 rfl ?_
                refine sx_aload_n dX12_readLine_113 rfl ?_
                refine sx_bipush dX12_readLine_114 ⟨by decide, by decide, by decide⟩ ?_
                refine sx_callVz lk_X12_379 cl_12 s_224 (by decide) dX12_readLine_116 (vs := [_]) rfl rfl (Nat.le_of_ble_eq_true rfl) (Nat.le_of_ble_eq_true rfl) rfl (c2_X12_isSignHere _ Ih49.1 _) (fun x54 h53 zx54 ph53 => ?_)
                obtain ⟨rfl, p_x54⟩ := ph53
                refine sx_callVv lk_X12_382 cl_12 s_224 (by decide) dX12_readLine_119 (vs := [_]) rfl rfl (Nat.le_of_ble_eq_true rfl) (Nat.le_of_ble_eq_true rfl) rfl (c_X12_must _ Ih49.1 _ (by omega)) (fun h55 ph55 => ?_)
                obtain ⟨Kh55, a_h55, m_h55, g_h55⟩ := ph55
                have Ih55 := Ih49.tr Kh55 (prBW_sub rfl rfl rfl)
                have th55_224_3 := Kh55.2 224 3 rfl
                have th55_224_37 := Kh55.2 224 37 rfl
                have th55_224_38 := Kh55.2 224 38 rfl
                refine sx_ret dX12_readLine_122 ?_
                have e29 : h55 229 (1 - (b : Int)).toNat = h49 229 (1 - (b : Int)).toNat := (by rw [show h55 229 _ = _ from Kh55.2 229 _ rfl])
                have e27 : h55 227 (1 - (b : Int)).toNat = h0 227 (1 - (b : Int)).toNat := (by rw [show h55 227 _ = _ from Kh55.2 227 _ rfl, show h49 227 _ = _ from Kh49.2 227 _ rfl, show h14 227 _ = _ from Kh14.2 227 _ rfl])
                have e28 : h55 228 (1 - (b : Int)).toNat = h0 228 (1 - (b : Int)).toNat := (by rw [show h55 228 _ = _ from Kh55.2 228 _ rfl, show h49 228 _ = _ from Kh49.2 228 _ rfl, show h14 228 _ = _ from Kh14.2 228 _ rfl])
                exact ⟨rfl, ⟨Ih55, by omega, by omega, (RR_eq (by omega) (by rw [show h55 244 _ = _ from Kh55.2 244 _ rfl]) (by rw [show h55 245 _ = _ from Kh55.2 245 _ rfl]) (fun k _ _ => (by rw [show h55 247 k = _ from Kh55.2 247 k rfl])) f_h49), fun q => ⟨⟨(by rw [e27, e28]; exact RBx_fr (by omega) (fun a k q1 q2 => by have q : a = 233 ∨ a = 234 ∨ a = 235 ∨ a = 236 ∨ a = 237 := (by omega); rcases q with rfl | rfl | rfl | rfl | rfl; (focus rw [show h55 233 k = _ from Kh55.2 233 k rfl, show h49 233 k = _ from Kh49.2 233 k rfl, show h14 233 k = _ from Kh14.2 233 k rfl]); (focus rw [show h55 234 k = _ from Kh55.2 234 k rfl, show h49 234 k = _ from Kh49.2 234 k rfl, show h14 234 k = _ from Kh14.2 234 k rfl]); (focus rw [show h55 235 k = _ from Kh55.2 235 k rfl, show h49 235 k = _ from Kh49.2 235 k rfl, show h14 235 k = _ from Kh14.2 235 k rfl]); (focus rw [show h55 236 k = _ from Kh55.2 236 k rfl, show h49 236 k = _ from Kh49.2 236 k rfl, show h14 236 k = _ from Kh14.2 236 k rfl]); (focus rw [show h55 237 k = _ from Kh55.2 237 k rfl, show h49 237 k = _ from Kh49.2 237 k rfl, show h14 237 k = _ from Kh14.2 237 k rfl])) (fun a k q => by rcases q with rfl | rfl | rfl; (focus rw [show h55 240 k = _ from Kh55.2 240 k rfl, show h49 240 k = _ from Kh49.2 240 k rfl, show h14 240 k = _ from Kh14.2 240 k rfl]); (focus rw [show h55 241 k = _ from Kh55.2 241 k rfl, show h49 241 k = _ from Kh49.2 241 k rfl, show h14 241 k = _ from Kh14.2 241 k rfl]); (focus rw [show h55 243 k = _ from Kh55.2 243 k rfl, show h49 243 k = _ from Kh49.2 243 k rfl, show h14 243 k = _ from Kh14.2 243 k rfl])) hL.1), by have q6 := d_h49; omega, by have q5 := c_h49 (by omega); have q6 := d_h49; omega⟩, by omega⟩, by omega⟩⟩
              ·
                refine sx_aload_n dX12_readLine_94 rfl ?_
                refine sx_getS (k := 15) (t := 231) cl_12 fl_X12_33 dX12_readLine_95 s_224 (by decide) rfl (by decide) ?_
                refine sx_aload_n dX12_readLine_98 rfl ?_
                refine sx_getI (k := 37) cl_12 fl_X12_340 dX12_readLine_99 s_224 (by decide) rfl (by decide) ?_
                have r57 : (0 : Int) ≤ h49 224 37 ∧ h49 224 37 ≤ 1 := Ih49.1 224 37
                refine sx_aload_n dX12_readLine_102 rfl ?_
                refine sx_iconst dX12_readLine_103 ⟨by decide, by decide⟩ ?_
                refine sx_iconst dX12_readLine_104 ⟨by decide, by decide⟩ ?_
                refine sx_sipush dX12_readLine_105 ⟨by decide, by decide, by decide⟩ ?_
                refine sx_callVi lk_X12_375 cl_12 s_224 (by decide) dX12_readLine_108 (vs := [_, _, _]) rfl rfl (Nat.le_of_ble_eq_true rfl) (Nat.le_of_ble_eq_true rfl) rfl (c_X12_once _ Ih49.1 b _ _ _ (by omega) (by omega) (by decide)) (fun x59 h58 ph58 => ?_)
                obtain ⟨Kh58, a_h58, m_h58, g_h58, v_h58⟩ := ph58
                have Ih58 := Ih49.tr Kh58 (prB_sub rfl rfl)
                have th58_224_3 := Kh58.2 224 3 rfl
                have th58_224_37 := Kh58.2 224 37 rfl
                have th58_224_38 := Kh58.2 224 38 rfl
                refine sy_iastore dX12_readLine_111 s_231 (by decide) (by decide) ⟨by omega, by omega⟩ (fun h60 eh60 => ?_)
                have Ih60 := Ih58.up eh60 trivial (beq_eq_false_iff_ne.mpr (show _ ≠ _ by omega))
                have th60_224_3 := eh60.2 (224) 3 (fun q => absurd q.1 (by decide))
                have th60_224_4 := eh60.2 (224) 4 (fun q => absurd q.1 (by decide))
                have th60_224_7 := eh60.2 (224) 7 (fun q => absurd q.1 (by decide))
                have th60_224_8 := eh60.2 (224) 8 (fun q => absurd q.1 (by decide))
                have th60_224_37 := eh60.2 (224) 37 (fun q => absurd q.1 (by decide))
                have th60_224_38 := eh60.2 (224) 38 (fun q => absurd q.1 (by decide))
                refine sx_aload_n dX12_readLine_112 rfl ?_
                refine sx_aload_n dX12_readLine_113 rfl ?_
                refine sx_bipush dX12_readLine_114 ⟨by decide, by decide, by decide⟩ ?_
                refine sx_callVz lk_X12_379 cl_12 s_224 (by decide) dX12_readLine_116 (vs := [_]) rfl rfl (Nat.le_of_ble_eq_true rfl) (Nat.le_of_ble_eq_true rfl) rfl (c2_X12_isSignHere _ Ih60.1 _) (fun x62 h61 zx62 ph61 => ?_)
                obtain ⟨rfl, p_x62⟩ := ph61
                refine sx_callVv lk_X12_382 cl_12 s_224 (by decide) dX12_readLine_119 (vs := [_]) rfl rfl (Nat.le_of_ble_eq_true rfl) (Nat.le_of_ble_eq_true rfl) rfl (c_X12_must _ Ih60.1 _ (by omega)) (fun h63 ph63 => ?_)
                obtain ⟨Kh63, a_h63, m_h63, g_h63⟩ := ph63
                have Ih63 := Ih60.tr Kh63 (prBW_sub rfl rfl rfl)
                have th63_224_3 := Kh63.2 224 3 rfl
                have th63_224_37 := Kh63.2 224 37 rfl
                have th63_224_38 := Kh63.2 224 38 rfl
                refine sx_ret dX12_readLine_122 ?_
                have e29 : h63 229 (1 - (b : Int)).toNat = h49 229 (1 - (b : Int)).toNat := (by rw [show h63 229 _ = _ from Kh63.2 229 _ rfl, eh60.2 229 _ (fun q => absurd q.1 (by decide)), show h58 229 _ = _ from Kh58.2 229 _ rfl])
                have e27 : h63 227 (1 - (b : Int)).toNat = h0 227 (1 - (b : Int)).toNat := (by rw [show h63 227 _ = _ from Kh63.2 227 _ rfl, eh60.2 227 _ (fun q => absurd q.1 (by decide)), show h58 227 _ = _ from Kh58.2 227 _ rfl, show h49 227 _ = _ from Kh49.2 227 _ rfl, show h14 227 _ = _ from Kh14.2 227 _ rfl])
                have e28 : h63 228 (1 - (b : Int)).toNat = h0 228 (1 - (b : Int)).toNat := (by rw [show h63 228 _ = _ from Kh63.2 228 _ rfl, eh60.2 228 _ (fun q => absurd q.1 (by decide)), show h58 228 _ = _ from Kh58.2 228 _ rfl, show h49 228 _ = _ from Kh49.2 228 _ rfl, show h14 228 _ = _ from Kh14.2 228 _ rfl])
                exact ⟨rfl, ⟨Ih63, by omega, by omega, (RR_eq (by omega) (by rw [show h63 244 _ = _ from Kh63.2 244 _ rfl, eh60.2 244 _ (fun q => absurd q.1 (by decide)), show h58 244 _ = _ from Kh58.2 244 _ rfl]) (by rw [show h63 245 _ = _ from Kh63.2 245 _ rfl, eh60.2 245 _ (fun q => absurd q.1 (by decide)), show h58 245 _ = _ from Kh58.2 245 _ rfl]) (fun k _ _ => (by rw [show h63 247 k = _ from Kh63.2 247 k rfl, eh60.2 247 k (fun q => absurd q.1 (by decide)), show h58 247 k = _ from Kh58.2 247 k rfl])) f_h49), fun q => ⟨⟨(by rw [e27, e28]; exact RBx_fr (by omega) (fun a k q1 q2 => by have q : a = 233 ∨ a = 234 ∨ a = 235 ∨ a = 236 ∨ a = 237 := (by omega); rcases q with rfl | rfl | rfl | rfl | rfl; (focus rw [show h63 233 k = _ from Kh63.2 233 k rfl, eh60.2 233 k (fun q => absurd q.1 (by decide)), show h58 233 k = _ from Kh58.2 233 k rfl, show h49 233 k = _ from Kh49.2 233 k rfl, show h14 233 k = _ from Kh14.2 233 k rfl]); (focus rw [show h63 234 k = _ from Kh63.2 234 k rfl, eh60.2 234 k (fun q => absurd q.1 (by decide)), show h58 234 k = _ from Kh58.2 234 k rfl, show h49 234 k = _ from Kh49.2 234 k rfl, show h14 234 k = _ from Kh14.2 234 k rfl]); (focus rw [show h63 235 k = _ from Kh63.2 235 k rfl, eh60.2 235 k (fun q => absurd q.1 (by decide)), show h58 235 k = _ from Kh58.2 235 k rfl, show h49 235 k = _ from Kh49.2 235 k rfl, show h14 235 k = _ from Kh14.2 235 k rfl]); (focus rw [show h63 236 k = _ from Kh63.2 236 k rfl, eh60.2 236 k (fun q => absurd q.1 (by decide)), show h58 236 k = _ from Kh58.2 236 k rfl, show h49 236 k = _ from Kh49.2 236 k rfl, show h14 236 k = _ from Kh14.2 236 k rfl]); (focus rw [show h63 237 k = _ from Kh63.2 237 k rfl, eh60.2 237 k (fun q => absurd q.1 (by decide)), show h58 237 k = _ from Kh58.2 237 k rfl, show h49 237 k = _ from Kh49.2 237 k rfl, show h14 237 k = _ from Kh14.2 237 k rfl])) (fun a k q => by rcases q with rfl | rfl | rfl; (focus rw [show h63 240 k = _ from Kh63.2 240 k rfl, eh60.2 240 k (fun q => absurd q.1 (by decide)), show h58 240 k = _ from Kh58.2 240 k rfl, show h49 240 k = _ from Kh49.2 240 k rfl, show h14 240 k = _ from Kh14.2 240 k rfl]); (focus rw [show h63 241 k = _ from Kh63.2 241 k rfl, eh60.2 241 k (fun q => absurd q.1 (by decide)), show h58 241 k = _ from Kh58.2 241 k rfl, show h49 241 k = _ from Kh49.2 241 k rfl, show h14 241 k = _ from Kh14.2 241 k rfl]); (focus rw [show h63 243 k = _ from Kh63.2 243 k rfl, eh60.2 243 k (fun q => absurd q.1 (by decide)), show h58 243 k = _ from Kh58.2 243 k rfl, show h49 243 k = _ from Kh49.2 243 k rfl, show h14 243 k = _ from Kh14.2 243 k rfl])) hL.1), by have q6 := d_h49; omega, by have q5 := c_h49 (by omega); have q6 := d_h49; omega⟩, by omega⟩, by omega⟩⟩
            ·
              refine sx_aload_n dX12_readLine_69 rfl ?_
              refine sx_getS (k := 14) (t := 230) cl_12 fl_X12_30 dX12_readLine_70 s_224 (by decide) rfl (by decide) ?_
              refine sx_aload_n dX12_readLine_73 rfl ?_
              refine sx_getI (k := 37) cl_12 fl_X12_340 dX12_readLine_74 s_224 (by decide) rfl (by decide) ?_
              have r65 : (0 : Int) ≤ h49 224 37 ∧ h49 224 37 ≤ 1 := Ih49.1 224 37
              refine sx_aload_n dX12_readLine_77 rfl ?_
              refine sx_iconst dX12_readLine_78 ⟨by decide, by decide⟩ ?_
              refine sx_iconst dX12_readLine_79 ⟨by decide, by decide⟩ ?_
              refine sx_bipush dX12_readLine_80 ⟨by decide, by decide, by decide⟩ ?_
              refine sx_callVi lk_X12_375 cl_12 s_224 (by decide) dX12_readLine_82 (vs := [_, _, _]) rfl rfl (Nat.le_of_ble_eq_true rfl) (Nat.le_of_ble_eq_true rfl) rfl (c_X12_once _ Ih49.1 b _ _ _ (by omega) (by omega) (by decide)) (fun x67 h66 ph66 => ?_)
              obtain ⟨Kh66, a_h66, m_h66, g_h66, v_h66⟩ := ph66
              have Ih66 := Ih49.tr Kh66 (prB_sub rfl rfl)
              have th66_224_3 := Kh66.2 224 3 rfl
              have th66_224_37 := Kh66.2 224 37 rfl
              have th66_224_38 := Kh66.2 224 38 rfl
              refine sy_iastore dX12_readLine_85 s_230 (by decide) (by decide) ⟨by omega, by omega⟩ (fun h68 eh68 => ?_)
              have Ih68 := Ih66.up eh68 (show (0 : Int) ≤ _ ∧ _ ≤ (100 : Int) from ⟨by omega, by omega⟩) (beq_eq_false_iff_ne.mpr (show _ ≠ _ by omega))
              have th68_224_3 := eh68.2 (224) 3 (fun q => absurd q.1 (by decide))
              have th68_224_4 := eh68.2 (224) 4 (fun q => absurd q.1 (by decide))
              have th68_224_7 := eh68.2 (224) 7 (fun q => absurd q.1 (by decide))
              have th68_224_8 := eh68.2 (224) 8 (fun q => absurd q.1 (by decide))
              have th68_224_37 := eh68.2 (224) 37 (fun q => absurd q.1 (by decide))
              have th68_224_38 := eh68.2 (224) 38 (fun q => absurd q.1 (by decide))
              refine sx_lload_n dX12_readLine_86 rfl ?_
              refine sx_ldc2 kc_X12_246 ⟨by decide, by decide⟩ dX12_readLine_87 ?_
              refine sx_lcmp dX12_readLine_90 ?_
              refine sx_if_ne (tgt := 112) dX12_readLine_91 (by decide) (fun c69 => ?_) (fun c69 => ?_)
              ·
                refine sx_aload_n dX12_readLine_112 rfl ?_
                refine sx_aload_n dX12_readLine_113 rfl ?_
                refine sx_bipush dX12_readLine_114 ⟨by decide, by decide, by decide⟩ ?_
                refine sx_callVz lk_X12_379 cl_12 s_224 (by decide) dX12_readLine_116 (vs := [_]) rfl rfl (Nat.le_of_ble_eq_true rfl) (Nat.le_of_ble_eq_true rfl) rfl (c2_X12_isSignHere _ Ih68.1 _) (fun x71 h70 zx71 ph70 => ?_)
                obtain ⟨rfl, p_x71⟩ := ph70
                refine sx_callVv lk_X12_382 cl_12 s_224 (by decide) dX12_readLine_119 (vs := [_]) rfl rfl (Nat.le_of_ble_eq_true rfl) (Nat.le_of_ble_eq_true rfl) rfl (c_X12_must _ Ih68.1 _ (by omega)) (fun h72 ph72 => ?_)
                obtain ⟨Kh72, a_h72, m_h72, g_h72⟩ := ph72
                have Ih72 := Ih68.tr Kh72 (prBW_sub rfl rfl rfl)
                have th72_224_3 := Kh72.2 224 3 rfl
                have th72_224_37 := Kh72.2 224 37 rfl
                have th72_224_38 := Kh72.2 224 38 rfl
                refine sx_ret dX12_readLine_122 ?_
                have e29 : h72 229 (1 - (b : Int)).toNat = h49 229 (1 - (b : Int)).toNat := (by rw [show h72 229 _ = _ from Kh72.2 229 _ rfl, eh68.2 229 _ (fun q => absurd q.1 (by decide)), show h66 229 _ = _ from Kh66.2 229 _ rfl])
                have e27 : h72 227 (1 - (b : Int)).toNat = h0 227 (1 - (b : Int)).toNat := (by rw [show h72 227 _ = _ from Kh72.2 227 _ rfl, eh68.2 227 _ (fun q => absurd q.1 (by decide)), show h66 227 _ = _ from Kh66.2 227 _ rfl, show h49 227 _ = _ from Kh49.2 227 _ rfl, show h14 227 _ = _ from Kh14.2 227 _ rfl])
                have e28 : h72 228 (1 - (b : Int)).toNat = h0 228 (1 - (b : Int)).toNat := (by rw [show h72 228 _ = _ from Kh72.2 228 _ rfl, eh68.2 228 _ (fun q => absurd q.1 (by decide)), show h66 228 _ = _ from Kh66.2 228 _ rfl, show h49 228 _ = _ from Kh49.2 228 _ rfl, show h14 228 _ = _ from Kh14.2 228 _ rfl])
                exact ⟨rfl, ⟨Ih72, by omega, by omega, (RR_eq (by omega) (by rw [show h72 244 _ = _ from Kh72.2 244 _ rfl, eh68.2 244 _ (fun q => absurd q.1 (by decide)), show h66 244 _ = _ from Kh66.2 244 _ rfl]) (by rw [show h72 245 _ = _ from Kh72.2 245 _ rfl, eh68.2 245 _ (fun q => absurd q.1 (by decide)), show h66 245 _ = _ from Kh66.2 245 _ rfl]) (fun k _ _ => (by rw [show h72 247 k = _ from Kh72.2 247 k rfl, eh68.2 247 k (fun q => absurd q.1 (by decide)), show h66 247 k = _ from Kh66.2 247 k rfl])) f_h49), fun q => ⟨⟨(by rw [e27, e28]; exact RBx_fr (by omega) (fun a k q1 q2 => by have q : a = 233 ∨ a = 234 ∨ a = 235 ∨ a = 236 ∨ a = 237 := (by omega); rcases q with rfl | rfl | rfl | rfl | rfl; (focus rw [show h72 233 k = _ from Kh72.2 233 k rfl, eh68.2 233 k (fun q => absurd q.1 (by decide)), show h66 233 k = _ from Kh66.2 233 k rfl, show h49 233 k = _ from Kh49.2 233 k rfl, show h14 233 k = _ from Kh14.2 233 k rfl]); (focus rw [show h72 234 k = _ from Kh72.2 234 k rfl, eh68.2 234 k (fun q => absurd q.1 (by decide)), show h66 234 k = _ from Kh66.2 234 k rfl, show h49 234 k = _ from Kh49.2 234 k rfl, show h14 234 k = _ from Kh14.2 234 k rfl]); (focus rw [show h72 235 k = _ from Kh72.2 235 k rfl, eh68.2 235 k (fun q => absurd q.1 (by decide)), show h66 235 k = _ from Kh66.2 235 k rfl, show h49 235 k = _ from Kh49.2 235 k rfl, show h14 235 k = _ from Kh14.2 235 k rfl]); (focus rw [show h72 236 k = _ from Kh72.2 236 k rfl, eh68.2 236 k (fun q => absurd q.1 (by decide)), show h66 236 k = _ from Kh66.2 236 k rfl, show h49 236 k = _ from Kh49.2 236 k rfl, show h14 236 k = _ from Kh14.2 236 k rfl]); (focus rw [show h72 237 k = _ from Kh72.2 237 k rfl, eh68.2 237 k (fun q => absurd q.1 (by decide)), show h66 237 k = _ from Kh66.2 237 k rfl, show h49 237 k = _ from Kh49.2 237 k rfl, show h14 237 k = _ from Kh14.2 237 k rfl])) (fun a k q => by rcases q with rfl | rfl | rfl; (focus rw [show h72 240 k = _ from Kh72.2 240 k rfl, eh68.2 240 k (fun q => absurd q.1 (by decide)), show h66 240 k = _ from Kh66.2 240 k rfl, show h49 240 k = _ from Kh49.2 240 k rfl, show h14 240 k = _ from Kh14.2 240 k rfl]); (focus rw [show h72 241 k = _ from Kh72.2 241 k rfl, eh68.2 241 k (fun q => absurd q.1 (by decide)), show h66 241 k = _ from Kh66.2 241 k rfl, show h49 241 k = _ from Kh49.2 241 k rfl, show h14 241 k = _ from Kh14.2 241 k rfl]); (focus rw [show h72 243 k = _ from Kh72.2 243 k rfl, eh68.2 243 k (fun q => absurd q.1 (by decide)), show h66 243 k = _ from Kh66.2 243 k rfl, show h49 243 k = _ from Kh49.2 243 k rfl, show h14 243 k = _ from Kh14.2 243 k rfl])) hL.1), by have q6 := d_h49; omega, by have q5 := c_h49 (by omega); have q6 := d_h49; omega⟩, by omega⟩, by omega⟩⟩
              ·
                refine sx_aload_n dX12_readLine_94 rfl ?_
                refine sx_getS (k := 15) (t := 231) cl_12 fl_X12_33 dX12_readLine_95 s_224 (by decide) rfl (by decide) ?_
                refine sx_aload_n dX12_readLine_98 rfl ?_
                refine sx_getI (k := 37) cl_12 fl_X12_340 dX12_readLine_99 s_224 (by decide) rfl (by decide) ?_
                have r74 : (0 : Int) ≤ h68 224 37 ∧ h68 224 37 ≤ 1 := Ih68.1 224 37
                refine sx_aload_n dX12_readLine_102 rfl ?_
                refine sx_iconst dX12_readLine_103 ⟨by decide, by decide⟩ ?_
                refine sx_iconst dX12_readLine_104 ⟨by decide, by decide⟩ ?_
                refine sx_sipush dX12_readLine_105 ⟨by decide, by decide, by decide⟩ ?_
                refine sx_callVi lk_X12_375 cl_12 s_224 (by decide) dX12_readLine_108 (vs := [_, _, _]) rfl rfl (Nat.le_of_ble_eq_true rfl) (Nat.le_of_ble_eq_true rfl) rfl (c_X12_once _ Ih68.1 b _ _ _ (by omega) (by omega) (by decide)) (fun x76 h75 ph75 => ?_)
                obtain ⟨Kh75, a_h75, m_h75, g_h75, v_h75⟩ := ph75
                have Ih75 := Ih68.tr Kh75 (prB_sub rfl rfl)
                have th75_224_3 := Kh75.2 224 3 rfl
                have th75_224_37 := Kh75.2 224 37 rfl
                have th75_224_38 := Kh75.2 224 38 rfl
                refine sy_iastore dX12_readLine_111 s_231 (by decide) (by decide) ⟨by omega, by omega⟩ (fun h77 eh77 => ?_)
                have Ih77 := Ih75.up eh77 trivial (beq_eq_false_iff_ne.mpr (show _ ≠ _ by omega))
                have th77_224_3 := eh77.2 (224) 3 (fun q => absurd q.1 (by decide))
                have th77_224_4 := eh77.2 (224) 4 (fun q => absurd q.1 (by decide))
                have th77_224_7 := eh77.2 (224) 7 (fun q => absurd q.1 (by decide))
                have th77_224_8 := eh77.2 (224) 8 (fun q => absurd q.1 (by decide))
                have th77_224_37 := eh77.2 (224) 37 (fun q => absurd q.1 (by decide))
                have th77_224_38 := eh77.2 (224) 38 (fun q => absurd q.1 (by decide))
                refine sx_aload_n dX12_readLine_112 rfl ?_
                refine sx_aload_n dX12_readLine_113 rfl ?_
                refine sx_bipush dX12_readLine_114 ⟨by decide, by decide, by decide⟩ ?_
                refine sx_callVz lk_X12_379 cl_12 s_224 (by decide) dX12_readLine_116 (vs := [_]) rfl rfl (Nat.le_of_ble_eq_true rfl) (Nat.le_of_ble_eq_true rfl) rfl (c2_X12_isSignHere _ Ih77.1 _) (fun x79 h78 zx79 ph78 => ?_)
                obtain ⟨rfl, p_x79⟩ := ph78
                refine sx_callVv lk_X12_382 cl_12 s_224 (by decide) dX12_readLine_119 (vs := [_]) rfl rfl (Nat.le_of_ble_eq_true rfl) (Nat.le_of_ble_eq_true rfl) rfl (c_X12_must _ Ih77.1 _ (by omega)) (fun h80 ph80 => ?_)
                obtain ⟨Kh80, a_h80, m_h80, g_h80⟩ := ph80
                have Ih80 := Ih77.tr Kh80 (prBW_sub rfl rfl rfl)
                have th80_224_3 := Kh80.2 224 3 rfl
                have th80_224_37 := Kh80.2 224 37 rfl
                have th80_224_38 := Kh80.2 224 38 rfl
                refine sx_ret dX12_readLine_122 ?_
                have e29 : h80 229 (1 - (b : Int)).toNat = h49 229 (1 - (b : Int)).toNat := (by rw [show h80 229 _ = _ from Kh80.2 229 _ rfl, eh77.2 229 _ (fun q => absurd q.1 (by decide)), show h75 229 _ = _ from Kh75.2 229 _ rfl, eh68.2 229 _ (fun q => absurd q.1 (by decide)), show h66 229 _ = _ from Kh66.2 229 _ rfl])
                have e27 : h80 227 (1 - (b : Int)).toNat = h0 227 (1 - (b : Int)).toNat := (by rw [show h80 227 _ = _ from Kh80.2 227 _ rfl, eh77.2 227 _ (fun q => absurd q.1 (by decide)), show h75 227 _ = _ from Kh75.2 227 _ rfl, eh68.2 227 _ (fun q => absurd q.1 (by decide)), show h66 227 _ = _ from Kh66.2 227 _ rfl, show h49 227 _ = _ from Kh49.2 227 _ rfl, show h14 227 _ = _ from Kh14.2 227 _ rfl])
                have e28 : h80 228 (1 - (b : Int)).toNat = h0 228 (1 - (b : Int)).toNat := (by rw [show h80 228 _ = _ from Kh80.2 228 _ rfl, eh77.2 228 _ (fun q => absurd q.1 (by decide)), show h75 228 _ = _ from Kh75.2 228 _ rfl, eh68.2 228 _ (fun q => absurd q.1 (by decide)), show h66 228 _ = _ from Kh66.2 228 _ rfl, show h49 228 _ = _ from Kh49.2 228 _ rfl, show h14 228 _ = _ from Kh14.2 228 _ rfl])
                exact ⟨rfl, ⟨Ih80, by omega, by omega, (RR_eq (by omega) (by rw [show h80 244 _ = _ from Kh80.2 244 _ rfl, eh77.2 244 _ (fun q => absurd q.1 (by decide)), show h75 244 _ = _ from Kh75.2 244 _ rfl, eh68.2 244 _ (fun q => absurd q.1 (by decide)), show h66 244 _ = _ from Kh66.2 244 _ rfl]) (by rw [show h80 245 _ = _ from Kh80.2 245 _ rfl, eh77.2 245 _ (fun q => absurd q.1 (by decide)), show h75 245 _ = _ from Kh75.2 245 _ rfl, eh68.2 245 _ (fun q => absurd q.1 (by decide)), show h66 245 _ = _ from Kh66.2 245 _ rfl]) (fun k _ _ => (by rw [show h80 247 k = _ from Kh80.2 247 k rfl, eh77.2 247 k (fun q => absurd q.1 (by decide)), show h75 247 k = _ from Kh75.2 247 k rfl, eh68.2 247 k (fun q => absurd q.1 (by decide)), show h66 247 k = _ from Kh66.2 247 k rfl])) f_h49), fun q => ⟨⟨(by rw [e27, e28]; exact RBx_fr (by omega) (fun a k q1 q2 => by have q : a = 233 ∨ a = 234 ∨ a = 235 ∨ a = 236 ∨ a = 237 := (by omega); rcases q with rfl | rfl | rfl | rfl | rfl; (focus rw [show h80 233 k = _ from Kh80.2 233 k rfl, eh77.2 233 k (fun q => absurd q.1 (by decide)), show h75 233 k = _ from Kh75.2 233 k rfl, eh68.2 233 k (fun q => absurd q.1 (by decide)), show h66 233 k = _ from Kh66.2 233 k rfl, show h49 233 k = _ from Kh49.2 233 k rfl, show h14 233 k = _ from Kh14.2 233 k rfl]); (focus rw [show h80 234 k = _ from Kh80.2 234 k rfl, eh77.2 234 k (fun q => absurd q.1 (by decide)), show h75 234 k = _ from Kh75.2 234 k rfl, eh68.2 234 k (fun q => absurd q.1 (by decide)), show h66 234 k = _ from Kh66.2 234 k rfl, show h49 234 k = _ from Kh49.2 234 k rfl, show h14 234 k = _ from Kh14.2 234 k rfl]); (focus rw [show h80 235 k = _ from Kh80.2 235 k rfl, eh77.2 235 k (fun q => absurd q.1 (by decide)), show h75 235 k = _ from Kh75.2 235 k rfl, eh68.2 235 k (fun q => absurd q.1 (by decide)), show h66 235 k = _ from Kh66.2 235 k rfl, show h49 235 k = _ from Kh49.2 235 k rfl, show h14 235 k = _ from Kh14.2 235 k rfl]); (focus rw [show h80 236 k = _ from Kh80.2 236 k rfl, eh77.2 236 k (fun q => absurd q.1 (by decide)), show h75 236 k = _ from Kh75.2 236 k rfl, eh68.2 236 k (fun q => absurd q.1 (by decide)), show h66 236 k = _ from Kh66.2 236 k rfl, show h49 236 k = _ from Kh49.2 236 k rfl, show h14 236 k = _ from Kh14.2 236 k rfl]); (focus rw [show h80 237 k = _ from Kh80.2 237 k rfl, eh77.2 237 k (fun q => absurd q.1 (by decide)), show h75 237 k = _ from Kh75.2 237 k rfl, eh68.2 237 k (fun q => absurd q.1 (by decide)), show h66 237 k = _ from Kh66.2 237 k rfl, show h49 237 k = _ from Kh49.2 237 k rfl, show h14 237 k = _ from Kh14.2 237 k rfl])) (fun a k q => by rcases q with rfl | rfl | rfl; (focus rw [show h80 240 k = _ from Kh80.2 240 k rfl, eh77.2 240 k (fun q => absurd q.1 (by decide)), show h75 240 k = _ from Kh75.2 240 k rfl, eh68.2 240 k (fun q => absurd q.1 (by decide)), show h66 240 k = _ from Kh66.2 240 k rfl, show h49 240 k = _ from Kh49.2 240 k rfl, show h14 240 k = _ from Kh14.2 240 k rfl]); (focus rw [show h80 241 k = _ from Kh80.2 241 k rfl, eh77.2 241 k (fun q => absurd q.1 (by decide)), show h75 241 k = _ from Kh75.2 241 k rfl, eh68.2 241 k (fun q => absurd q.1 (by decide)), show h66 241 k = _ from Kh66.2 241 k rfl, show h49 241 k = _ from Kh49.2 241 k rfl, show h14 241 k = _ from Kh14.2 241 k rfl]); (focus rw [show h80 243 k = _ from Kh80.2 243 k rfl, eh77.2 243 k (fun q => absurd q.1 (by decide)), show h75 243 k = _ from Kh75.2 243 k rfl, eh68.2 243 k (fun q => absurd q.1 (by decide)), show h66 243 k = _ from Kh66.2 243 k rfl, show h49 243 k = _ from Kh49.2 243 k rfl, show h14 243 k = _ from Kh14.2 243 k rfl])) hL.1), by have q6 := d_h49; omega, by have q5 := c_h49 (by omega); have q6 := d_h49; omega⟩, by omega⟩, by omega⟩⟩
        ·
          have k27 : h14 227 (1 - (b : Int)).toNat = h0 227 (1 - (b : Int)).toNat := (by rw [show h14 227 _ = _ from Kh14.2 227 _ rfl])
          have k28 : h14 228 (1 - (b : Int)).toNat = h0 228 (1 - (b : Int)).toNat := (by rw [show h14 228 _ = _ from Kh14.2 228 _ rfl])
          have e37 : (h0 224 37).toNat = (1 - (b : Int)).toNat := by omega
          have r27 : (0 : Int) ≤ h0 227 (1 - (b : Int)).toNat ∧ h0 227 (1 - (b : Int)).toNat ≤ 6 := hJ 227 _
          have n6 : h0 227 (1 - (b : Int)).toNat ≠ 6 := by rw [← e37]; exact hfull ⟨by omega, by omega, by omega⟩
          have hB : RBx h14 (1 - (b : Int)) (h0 227 (1 - (b : Int)).toNat) (h14 228 (1 - (b : Int)).toNat) := by rw [k28]; exact RBx_fr (by omega) (fun a k q1 q2 => by have q : a = 233 ∨ a = 234 ∨ a = 235 ∨ a = 236 ∨ a = 237 := (by omega); rcases q with rfl | rfl | rfl | rfl | rfl; (focus rw [show h14 233 k = _ from Kh14.2 233 k rfl]); (focus rw [show h14 234 k = _ from Kh14.2 234 k rfl]); (focus rw [show h14 235 k = _ from Kh14.2 235 k rfl]); (focus rw [show h14 236 k = _ from Kh14.2 236 k rfl]); (focus rw [show h14 237 k = _ from Kh14.2 237 k rfl])) (fun a k q => by rcases q with rfl | rfl | rfl; (focus rw [show h14 240 k = _ from Kh14.2 240 k rfl]); (focus rw [show h14 241 k = _ from Kh14.2 241 k rfl]); (focus rw [show h14 243 k = _ from Kh14.2 243 k rfl])) hL.1
          refine sx_aload_n dX12_readLine_44 rfl ?_
          refine sx_callVv lk_X12_369 cl_12 s_224 (by decide) dX12_readLine_45 (vs := []) rfl rfl (Nat.le_of_ble_eq_true rfl) (Nat.le_of_ble_eq_true rfl) rfl (c_X12_readWord _ Ih14.1 b (h0 227 (1 - (b : Int)).toNat) (by omega) (by omega) (by omega) (hB)) (fun h82 ph82 => ?_)
          obtain ⟨Kh82, a_h82, m_h82, w_h82, r_h82⟩ := ph82
          have Ih82 := Ih14.tr Kh82 (prB_sub rfl rfl)
          have th82_224_3 := Kh82.2 224 3 rfl
          have th82_224_37 := Kh82.2 224 37 rfl
          have th82_224_38 := Kh82.2 224 38 rfl
          refine sx_ret dX12_readLine_48 ?_
          have e29 : h82 229 (1 - (b : Int)).toNat = h0 229 (1 - (b : Int)).toNat := (by rw [show h82 229 _ = _ from Kh82.2 229 _ rfl, show h14 229 _ = _ from Kh14.2 229 _ rfl])
          exact ⟨rfl, ⟨Ih82, by omega, by omega, (RR_eq (by omega) (by rw [show h82 244 _ = _ from Kh82.2 244 _ rfl, show h14 244 _ = _ from Kh14.2 244 _ rfl]) (by rw [show h82 245 _ = _ from Kh82.2 245 _ rfl, show h14 245 _ = _ from Kh14.2 245 _ rfl]) (fun k _ _ => (by rw [show h82 247 k = _ from Kh82.2 247 k rfl, show h14 247 k = _ from Kh14.2 247 k rfl])) hRR), fun q => ⟨⟨by rw [w_h82]; exact r_h82 q, by omega, by omega⟩, by omega⟩, by omega⟩⟩
      ·
        exfalso; omega
    ·
      have vx9 : x9 = 1 := by rcases zx9 with q | q; (exact absurd q c10); exact q
      clear zx9
      refine sx_aload_n dX12_readLine_20 rfl ?_
      refine sx_callVv lk_X12_337 cl_12 s_224 (by decide) dX12_readLine_21 (vs := []) rfl rfl (Nat.le_of_ble_eq_true rfl) (Nat.le_of_ble_eq_true rfl) rfl (c_X12_misplaced _ hI.1) (fun h84 ph84 => ?_)
      obtain ⟨Kh84, g_h84⟩ := ph84
      have Ih84 := hI.tr Kh84 (prBW_sub rfl rfl rfl)
      have th84_224_3 := Kh84.2 224 3 rfl
      have th84_224_7 := Kh84.2 224 7 rfl
      have th84_224_8 := Kh84.2 224 8 rfl
      have th84_224_37 := Kh84.2 224 37 rfl
      have th84_224_38 := Kh84.2 224 38 rfl
      refine sx_aload_n dX12_readLine_24 rfl ?_
      refine sx_callVz lk_X12_330 cl_12 s_224 (by decide) dX12_readLine_25 (vs := []) rfl rfl (Nat.le_of_ble_eq_true rfl) (Nat.le_of_ble_eq_true rfl) rfl (c_X12_isGood _ Ih84.1) (fun x87 h86 zx87 ph86 => ?_)
      obtain ⟨rfl, p_x87⟩ := ph86
      refine sx_if_ne (tgt := 32) dX12_readLine_28 (by decide) (fun c88 => ?_) (fun c88 => ?_)
      ·
        exfalso; omega
      ·
        replace p_x87 := mt p_x87.mpr (show ¬ (x87 = 1) by rw [c88]; decide)
        clear zx87
        refine sx_ret dX12_readLine_31 ?_
        exact ⟨rfl, ⟨Ih84, by omega, by omega, (RR_eq (by omega) (by rw [show h84 244 _ = _ from Kh84.2 244 _ rfl]) (by rw [show h84 245 _ = _ from Kh84.2 245 _ rfl]) (fun k _ _ => (by rw [show h84 247 k = _ from Kh84.2 247 k rfl])) hRR), fun q => by exfalso; omega, by omega⟩⟩
set_option maxRecDepth 20000 in
set_option maxHeartbeats 4000000 in
theorem c_X12_startAnew {G : sw_G} (d : Nat) {h0 : sw_H} (hJ : mI h0)  : sw_E G NH SH (d) mX12_startAnew 0 [some (sw_r 224), none] [] h0 (sw_Qv (fun h' => mK (prW [73, 74, 83, 99] [261, 289]) h0 h' ∧ (h' 224 73 = 0 ∧ h' 224 74 = 0))) := by
  have hI : mK (prW [73, 74, 83, 99] [261, 289]) h0 h0 := mK.refl hJ
  refine sx_iconst dX12_startAnew_0 ⟨by decide, by decide⟩ ?_
  refine sx_istore_n dX12_startAnew_1 (by decide) ?_
  refine sx_loop1 (fun (h : sw_H) (k : Int) => (mK (prW [73, 74, 83, 99] [261, 289]) h0 h) ∧ (0 ≤ k)) (fun (h : sw_H) (k : Int) => (34 - k).toNat) (fun (h : sw_H) (k : Int) => sw_E G NH SH (d) mX12_startAnew 2 [some (sw_r 224), some (sw_i k)] [] h (sw_Qv (fun h' => mK (prW [73, 74, 83, 99] [261, 289]) h0 h' ∧ (h' 224 73 = 0 ∧ h' 224 74 = 0)))) ?_ _ _ ?_
  · rintro h1 k_2 ⟨Ih1, j3⟩ ihh1
    try dsimp only at ihh1
    refine sx_iload_n dX12_startAnew_2 rfl ?_
    refine sx_bipush dX12_startAnew_3 ⟨by decide, by decide, by decide⟩ ?_
    refine sx_icmp_ge (tgt := 21) dX12_startAnew_5 (by decide) (fun c4 => ?_) (fun c4 => ?_)
    ·
      refine sx_aload_n dX12_startAnew_21 rfl ?_
      refine sx_getS (k := 61) (t := 261) cl_12 fl_X12_124 dX12_startAnew_22 s_224 (by decide) rfl (by decide) ?_
      refine sx_bipush dX12_startAnew_25 ⟨by decide, by decide, by decide⟩ ?_
      refine sx_aload_n dX12_startAnew_27 rfl ?_
      refine sx_getS (k := 15) (t := 231) cl_12 fl_X12_33 dX12_startAnew_28 s_224 (by decide) rfl (by decide) ?_
      refine sx_aload_n dX12_startAnew_31 rfl ?_
      refine sx_getI (k := 36) cl_12 fl_X12_349 dX12_startAnew_32 s_224 (by decide) rfl (by decide) ?_
      have r5 : (0 : Int) ≤ h1 224 36 ∧ h1 224 36 ≤ 1 := Ih1.1 224 36
      refine sx_iaload dX12_startAnew_35 s_231 (by decide) (by decide) ⟨by omega, by omega⟩ ?_
      refine sy_iastore dX12_startAnew_36 s_261 (by decide) (by decide) ⟨by omega, by omega⟩ (fun h6 eh6 => ?_)
      have Ih6 := Ih1.up eh6 (by exact omc_all_lt (Or.inl rfl) (by decide) (by decide)) rfl
      have th6_224_73 := eh6.2 (224) 73 (by omega)
      have th6_224_74 := eh6.2 (224) 74 (by omega)
      refine sx_aload_n dX12_startAnew_37 rfl ?_
      refine sx_iconst dX12_startAnew_38 ⟨by decide, by decide⟩ ?_
      refine sy_putI (k := 73) cl_12 fl_X12_507 dX12_startAnew_39 s_224 (by decide) rfl (by decide) rfl rfl (fun h7 eh7 => ?_)
      have Ih7 := Ih6.up eh7 (show (0 : Int) ≤ _ ∧ _ ≤ (40 : Int) from ⟨by omega, by omega⟩) rfl
      have th7_224_73 := eh7.1
      have th7_224_74 := eh7.2 (224) 74 (by decide)
      refine sx_aload_n dX12_startAnew_42 rfl ?_
      refine sx_iconst dX12_startAnew_43 ⟨by decide, by decide⟩ ?_
      refine sy_putI (k := 74) cl_12 fl_X12_510 dX12_startAnew_44 s_224 (by decide) rfl (by decide) rfl rfl (fun h8 eh8 => ?_)
      have Ih8 := Ih7.up eh8 (show (0 : Int) ≤ _ ∧ _ ≤ (40 : Int) from ⟨by omega, by omega⟩) rfl
      have th8_224_73 := eh8.2 (224) 73 (by decide)
      have th8_224_74 := eh8.1
      refine sx_aload_n dX12_startAnew_47 rfl ?_
      refine sx_iconst dX12_startAnew_48 ⟨by decide, by decide⟩ ?_
      refine sy_putI (k := 99) cl_12 fl_X12_513 dX12_startAnew_49 s_224 (by decide) rfl (by decide) rfl rfl (fun h9 eh9 => ?_)
      have Ih9 := Ih8.up eh9 (show (0 : Int) ≤ _ ∧ _ ≤ (30 : Int) from ⟨by omega, by omega⟩) rfl
      have th9_224_73 := eh9.2 (224) 73 (by decide)
      have th9_224_74 := eh9.2 (224) 74 (by decide)
      refine sx_aload_n dX12_startAnew_52 rfl ?_
      refine sx_iconst dX12_startAnew_53 ⟨by decide, by decide⟩ ?_
      refine sy_putI (k := 83) cl_12 fl_X12_516 dX12_startAnew_54 s_224 (by decide) rfl (by decide) rfl rfl (fun h10 eh10 => ?_)
      have Ih10 := Ih9.up eh10 (show (0 : Int) ≤ _ ∧ _ ≤ (64 : Int) from ⟨by omega, by omega⟩) rfl
      have th10_224_73 := eh10.2 (224) 73 (by decide)
      have th10_224_74 := eh10.2 (224) 74 (by decide)
      refine sx_iconst dX12_startAnew_57 ⟨by decide, by decide⟩ ?_
      refine sx_istore_n dX12_startAnew_58 (by decide) ?_
      refine sx_loop1 (fun (h : sw_H) (k : Int) => (mK (prW [73, 74, 83, 99] [261, 289]) h0 h) ∧ (0 ≤ k) ∧ (h 224 73 = 0) ∧ (h 224 74 = 0)) (fun (h : sw_H) (k : Int) => (3 - k).toNat) (fun (h : sw_H) (k : Int) => sw_E G NH SH (d) mX12_startAnew 59 [some (sw_r 224), some (sw_i k)] [] h (sw_Qv (fun h' => mK (prW [73, 74, 83, 99] [261, 289]) h0 h' ∧ (h' 224 73 = 0 ∧ h' 224 74 = 0)))) ?_ _ _ ?_
      · rintro h11 k_12 ⟨Ih11, j13, j14, j15⟩ ihh11
        try dsimp only at ihh11
        refine sx_iload_n dX12_startAnew_59 rfl ?_
        refine sx_iconst dX12_startAnew_60 ⟨by decide, by decide⟩ ?_
        refine sx_icmp_ge (tgt := 77) dX12_startAnew_61 (by decide) (fun c16 => ?_) (fun c16 => ?_)
        ·
          refine sx_ret dX12_startAnew_77 ?_
          exact ⟨rfl, ⟨Ih11, by omega⟩⟩
        ·
          refine sx_aload_n dX12_startAnew_64 rfl ?_
          refine sx_getS (k := 102) (t := 289) cl_12 fl_X12_215 dX12_startAnew_65 s_224 (by decide) rfl (by decide) ?_
          refine sx_iload_n dX12_startAnew_68 rfl ?_
          refine sx_iconst dX12_startAnew_69 ⟨by decide, by decide⟩ ?_
          refine sy_zastore dX12_startAnew_70 s_289 (by decide) (by decide) ⟨by omega, by omega⟩ (by exact Or.inl rfl) (fun h17 eh17 => ?_)
          have Ih17 := Ih11.up eh17 trivial rfl
          have th17_224_73 := eh17.2 (224) 73 (by omega)
          have th17_224_74 := eh17.2 (224) 74 (by omega)
          refine sx_iinc dX12_startAnew_71 (by decide) rfl ?_
          rw [sw_w_id (by omega) (by omega)]
          refine sx_goto (tgt := 59) dX12_startAnew_74 (by decide) ?_
          exact ihh11 _ _ ⟨Ih17, by omega, by omega, by omega⟩ (by exact sy_dec (by omega) (by omega))
      · exact ⟨Ih10, by omega, by omega, by omega⟩
    ·
      refine sx_aload_n dX12_startAnew_8 rfl ?_
      refine sx_getS (k := 61) (t := 261) cl_12 fl_X12_124 dX12_startAnew_9 s_224 (by decide) rfl (by decide) ?_
      refine sx_iload_n dX12_startAnew_12 rfl ?_
      refine sx_iconst dX12_startAnew_13 ⟨by decide, by decide⟩ ?_
      refine sy_iastore dX12_startAnew_14 s_261 (by decide) (by decide) ⟨by omega, by omega⟩ (fun h18 eh18 => ?_)
      have Ih18 := Ih1.up eh18 (by exact omc_all_0 (Or.inl rfl)) rfl
      have th18_224_73 := eh18.2 (224) 73 (by omega)
      have th18_224_74 := eh18.2 (224) 74 (by omega)
      refine sx_iinc dX12_startAnew_15 (by decide) rfl ?_
      rw [sw_w_id (by omega) (by omega)]
      refine sx_goto (tgt := 2) dX12_startAnew_18 (by decide) ?_
      exact ihh1 _ _ ⟨Ih18, by omega⟩ (by exact sy_dec (by omega) (by omega))
  · exact ⟨hI, by omega⟩
set_option maxRecDepth 20000 in
set_option maxHeartbeats 4000000 in
theorem c_X12_code {G : sw_G} (d : Nat) {h0 : sw_H} (hJ : mI h0) (b : Nat) (hb : h0 224 36 = (b : Int) ∧ b ≤ 1) (hB : mB h0)  : sw_E G NH SH (d + 8) mX12_code 0 [some (sw_r 224), none] [] h0 (sw_Qi (fun z h' => mK (prB b [2, 3, 4, 5, 6, 7, 8, 9, 10, 36, 37, 38, 39, 40, 41, 52, 53, 54, 55, 56, 57, 58, 73, 74, 83, 99] [226, 227, 228, 229, 230, 231, 232, 233, 234, 235, 236, 237, 238, 239, 240, 241, 242, 243, 244, 245, 246, 247, 248, 249, 250, 252, 253, 254, 255, 256, 257, 258, 259, 260, 261, 289]) h0 h' ∧ (mB h') ∧ (h' 224 100 = h0 224 100))) := by
  have hI : mK (prB b [2, 3, 4, 5, 6, 7, 8, 9, 10, 36, 37, 38, 39, 40, 41, 52, 53, 54, 55, 56, 57, 58, 73, 74, 83, 99] [226, 227, 228, 229, 230, 231, 232, 233, 234, 235, 236, 237, 238, 239, 240, 241, 242, 243, 244, 245, 246, 247, 248, 249, 250, 252, 253, 254, 255, 256, 257, 258, 259, 260, 261, 289]) h0 h0 := mK.refl hJ
  obtain ⟨⟨RR00, RR01, RBB⟩, h71, h7374, h85⟩ := hB
  have RRb : RR h0 b := by by_cases q : b = 0; (subst q; exact RR00); (rw [show (b : Int) = 1 by omega]; exact RR01)
  have RRr : RR h0 (1 - (b : Int)) := by by_cases q : b = 0; (subst q; exact RR01); (rw [show (1 - (b : Int)) = (0 : Int) by omega]; exact RR00)
  have RB0 : RBx h0 b (h0 227 b) (h0 228 b) := by rw [hb.1, show (b : Int).toNat = b by omega] at RBB; exact RBB
  refine sx_aload_n dX12_code_0 rfl ?_
  refine sx_iconst dX12_code_1 ⟨by decide, by decide⟩ ?_
  refine sy_putI (k := 4) cl_12 fl_X12_227 dX12_code_2 s_224 (by decide) rfl (by decide) rfl rfl (fun h1 eh1 => ?_)
  have Ih1 := hI.up eh1 (show (0 : Int) ≤ _ ∧ _ ≤ (7 : Int) from ⟨by omega, by omega⟩) rfl
  have th1_224_2 := eh1.2 (224) 2 (by decide)
  have th1_224_3 := eh1.2 (224) 3 (by decide)
  have th1_224_4 := eh1.1
  have th1_224_7 := eh1.2 (224) 7 (by decide)
  have th1_224_8 := eh1.2 (224) 8 (by decide)
  have th1_224_36 := eh1.2 (224) 36 (by decide)
  have th1_224_37 := eh1.2 (224) 37 (by decide)
  have th1_224_38 := eh1.2 (224) 38 (by decide)
  have th1_224_71 := eh1.2 (224) 71 (by decide)
  have th1_224_73 := eh1.2 (224) 73 (by decide)
  have th1_224_74 := eh1.2 (224) 74 (by decide)
  have th1_224_85 := eh1.2 (224) 85 (by decide)
  refine sx_aload_n dX12_code_5 rfl ?_
  refine sx_iconst dX12_code_6 ⟨by decide, by decide⟩ ?_
  refine sy_putI (k := 5) cl_12 fl_X12_16 dX12_code_7 s_224 (by decide) rfl (by decide) rfl rfl (fun h2 eh2 => ?_)
  have Ih2 := Ih1.up eh2 trivial rfl
  have th2_224_2 := eh2.2 (224) 2 (by decide)
  have th2_224_3 := eh2.2 (224) 3 (by decide)
  have th2_224_4 := eh2.2 (224) 4 (by decide)
  have th2_224_7 := eh2.2 (224) 7 (by decide)
  have th2_224_8 := eh2.2 (224) 8 (by decide)
  have th2_224_36 := eh2.2 (224) 36 (by decide)
  have th2_224_37 := eh2.2 (224) 37 (by decide)
  have th2_224_38 := eh2.2 (224) 38 (by decide)
  have th2_224_71 := eh2.2 (224) 71 (by decide)
  have th2_224_73 := eh2.2 (224) 73 (by decide)
  have th2_224_74 := eh2.2 (224) 74 (by decide)
  have th2_224_85 := eh2.2 (224) 85 (by decide)
  refine sx_aload_n dX12_code_10 rfl ?_
  refine sx_aload_n dX12_code_11 rfl ?_
  refine sx_getI (k := 2) cl_12 fl_X12_346 dX12_code_12 s_224 (by decide) rfl (by decide) ?_
  have r3 : (0 : Int) ≤ h2 224 2 ∧ h2 224 2 ≤ 1600 := Ih2.1 224 2
  refine sy_putI (k := 3) cl_12 fl_X12_224 dX12_code_15 s_224 (by decide) rfl (by decide) rfl rfl (fun h4 eh4 => ?_)
  have Ih4 := Ih2.up eh4 (show (0 : Int) ≤ _ ∧ _ ≤ (1600 : Int) from ⟨by omega, by omega⟩) rfl
  have th4_224_2 := eh4.2 (224) 2 (by decide)
  have th4_224_3 := eh4.1
  have th4_224_4 := eh4.2 (224) 4 (by decide)
  have th4_224_7 := eh4.2 (224) 7 (by decide)
  have th4_224_8 := eh4.2 (224) 8 (by decide)
  have th4_224_36 := eh4.2 (224) 36 (by decide)
  have th4_224_37 := eh4.2 (224) 37 (by decide)
  have th4_224_38 := eh4.2 (224) 38 (by decide)
  have th4_224_71 := eh4.2 (224) 71 (by decide)
  have th4_224_73 := eh4.2 (224) 73 (by decide)
  have th4_224_74 := eh4.2 (224) 74 (by decide)
  have th4_224_85 := eh4.2 (224) 85 (by decide)
  refine sx_iconst dX12_code_18 ⟨by decide, by decide⟩ ?_
  refine sx_istore_n dX12_code_19 (by decide) ?_
  have jp0 : mK (prW [3, 4, 5] [226]) h0 h4 := (((mK.refl hJ).up eh1 (show (0 : Int) ≤ _ ∧ _ ≤ (7 : Int) from ⟨by decide, by decide⟩) rfl).up eh2 trivial rfl).up eh4 (show (0 : Int) ≤ _ ∧ _ ≤ (1600 : Int) from ⟨by omega, by omega⟩) rfl
  refine sx_loop1 (fun (h : sw_H) (k : Int) => (mK (prB b [2, 3, 4, 5, 6, 7, 8, 9, 10, 36, 37, 38, 39, 40, 41, 52, 53, 54, 55, 56, 57, 58, 73, 74, 83, 99] [226, 227, 228, 229, 230, 231, 232, 233, 234, 235, 236, 237, 238, 239, 240, 241, 242, 243, 244, 245, 246, 247, 248, 249, 250, 252, 253, 254, 255, 256, 257, 258, 259, 260, 261, 289]) h0 h) ∧ (0 ≤ k) ∧ (h 224 2 = h0 224 2) ∧ (h 224 3 = h0 224 2) ∧ (h 224 4 = 0) ∧ (h 224 7 = h0 224 7) ∧ (h 224 36 = h0 224 36) ∧ (h 224 37 = h0 224 37) ∧ (h 224 38 = h0 224 38) ∧ (h 224 71 = h0 224 71) ∧ (h 224 73 = h0 224 73) ∧ (h 224 74 = h0 224 74) ∧ (h 224 85 = h0 224 85) ∧ (mK (prW [3, 4, 5] [226]) h0 h)) (fun (h : sw_H) (k : Int) => (1600 - k).toNat) (fun (h : sw_H) (k : Int) => sw_E G NH SH (d + 8) mX12_code 20 [some (sw_r 224), some (sw_i k)] [] h (sw_Qi (fun z h' => mK (prB b [2, 3, 4, 5, 6, 7, 8, 9, 10, 36, 37, 38, 39, 40, 41, 52, 53, 54, 55, 56, 57, 58, 73, 74, 83, 99] [226, 227, 228, 229, 230, 231, 232, 233, 234, 235, 236, 237, 238, 239, 240, 241, 242, 243, 244, 245, 246, 247, 248, 249, 250, 252, 253, 254, 255, 256, 257, 258, 259, 260, 261, 289]) h0 h' ∧ (mB h') ∧ (h' 224 100 = h0 224 100)))) ?_ _ _ ?_
  · rintro h5 k_6 ⟨Ih5, jk0, jt0, jt1, jt2, jt3, jt4, jt5, jt6, jt7, jt8, jt9, jt10, Kh5⟩ ihh5
    try dsimp only at ihh5
    refine sx_iload_n dX12_code_20 rfl ?_
    refine sx_aload_n dX12_code_21 rfl ?_
    refine sx_getI (k := 3) cl_12 fl_X12_224 dX12_code_22 s_224 (by decide) rfl (by decide) ?_
    have r7 : (0 : Int) ≤ h5 224 3 ∧ h5 224 3 ≤ 1600 := Ih5.1 224 3
    refine sx_icmp_ge (tgt := 46) dX12_code_25 (by decide) (fun c8 => ?_) (fun c8 => ?_)
    ·
      refine sx_aload_n dX12_code_46 rfl ?_
      refine sx_iconst dX12_code_47 ⟨by decide, by decide⟩ ?_
      refine sy_putI (k := 2) cl_12 fl_X12_346 dX12_code_48 s_224 (by decide) rfl (by decide) rfl rfl (fun h9 eh9 => ?_)
      have Ih9 := Ih5.up eh9 (show (0 : Int) ≤ _ ∧ _ ≤ (1600 : Int) from ⟨by omega, by omega⟩) rfl
      have th9_224_2 := eh9.1
      have th9_224_3 := eh9.2 (224) 3 (by decide)
      have th9_224_4 := eh9.2 (224) 4 (by decide)
      have th9_224_7 := eh9.2 (224) 7 (by decide)
      have th9_224_8 := eh9.2 (224) 8 (by decide)
      have th9_224_36 := eh9.2 (224) 36 (by decide)
      have th9_224_37 := eh9.2 (224) 37 (by decide)
      have th9_224_38 := eh9.2 (224) 38 (by decide)
      have th9_224_71 := eh9.2 (224) 71 (by decide)
      have th9_224_73 := eh9.2 (224) 73 (by decide)
      have th9_224_74 := eh9.2 (224) 74 (by decide)
      have th9_224_85 := eh9.2 (224) 85 (by decide)
      refine sx_aload_n dX12_code_51 rfl ?_
      refine sx_iconst dX12_code_52 ⟨by decide, by decide⟩ ?_
      refine sy_putI (k := 7) cl_12 fl_X12_292 dX12_code_53 s_224 (by decide) rfl (by decide) rfl rfl (fun h10 eh10 => ?_)
      have Ih10 := Ih9.up eh10 (show (0 : Int) ≤ _ ∧ _ ≤ (1700 : Int) from ⟨by omega, by omega⟩) rfl
      have th10_224_2 := eh10.2 (224) 2 (by decide)
      have th10_224_3 := eh10.2 (224) 3 (by decide)
      have th10_224_4 := eh10.2 (224) 4 (by decide)
      have th10_224_7 := eh10.1
      have th10_224_8 := eh10.2 (224) 8 (by decide)
      have th10_224_36 := eh10.2 (224) 36 (by decide)
      have th10_224_37 := eh10.2 (224) 37 (by decide)
      have th10_224_38 := eh10.2 (224) 38 (by decide)
      have th10_224_71 := eh10.2 (224) 71 (by decide)
      have th10_224_73 := eh10.2 (224) 73 (by decide)
      have th10_224_74 := eh10.2 (224) 74 (by decide)
      have th10_224_85 := eh10.2 (224) 85 (by decide)
      refine sx_aload_n dX12_code_56 rfl ?_
      refine sx_iconst dX12_code_57 ⟨by decide, by decide⟩ ?_
      refine sx_aload_n dX12_code_58 rfl ?_
      refine sx_getI (k := 36) cl_12 fl_X12_349 dX12_code_59 s_224 (by decide) rfl (by decide) ?_
      have r11 : (0 : Int) ≤ h10 224 36 ∧ h10 224 36 ≤ 1 := Ih10.1 224 36
      refine sx_isub dX12_code_62 ?_
      refine sy_topw (by omega) ?_
      refine sy_putI (k := 37) cl_12 fl_X12_340 dX12_code_63 s_224 (by decide) rfl (by decide) rfl rfl (fun h12 eh12 => ?_)
      have Ih12 := Ih10.up eh12 (show (0 : Int) ≤ _ ∧ _ ≤ (1 : Int) from ⟨by omega, by omega⟩) rfl
      have th12_224_2 := eh12.2 (224) 2 (by decide)
      have th12_224_3 := eh12.2 (224) 3 (by decide)
      have th12_224_4 := eh12.2 (224) 4 (by decide)
      have th12_224_7 := eh12.2 (224) 7 (by decide)
      have th12_224_8 := eh12.2 (224) 8 (by decide)
      have th12_224_36 := eh12.2 (224) 36 (by decide)
      have th12_224_37 := eh12.1
      have th12_224_38 := eh12.2 (224) 38 (by decide)
      have th12_224_71 := eh12.2 (224) 71 (by decide)
      have th12_224_73 := eh12.2 (224) 73 (by decide)
      have th12_224_74 := eh12.2 (224) 74 (by decide)
      have th12_224_85 := eh12.2 (224) 85 (by decide)
      refine sx_aload_n dX12_code_66 rfl ?_
      refine sx_callVv lk_X12_218 cl_12 s_224 (by decide) dX12_code_67 (vs := []) rfl rfl (Nat.le_of_ble_eq_true rfl) (Nat.le_of_ble_eq_true rfl) rfl (c_X12_clearBank _ Ih12.1 b (by omega)) (fun h13 ph13 => ?_)
      obtain ⟨Kh13, c_h13, e_h13⟩ := ph13
      have Ih13 := Ih12.tr Kh13 (prB_sub rfl rfl)
      have th13_224_2 := Kh13.2 224 2 rfl
      have th13_224_3 := Kh13.2 224 3 rfl
      have th13_224_4 := Kh13.2 224 4 rfl
      have th13_224_7 := Kh13.2 224 7 rfl
      have th13_224_8 := Kh13.2 224 8 rfl
      have th13_224_36 := Kh13.2 224 36 rfl
      have th13_224_37 := Kh13.2 224 37 rfl
      have th13_224_71 := Kh13.2 224 71 rfl
      have th13_224_73 := Kh13.2 224 73 rfl
      have th13_224_74 := Kh13.2 224 74 rfl
      have th13_224_85 := Kh13.2 224 85 rfl
      refine sx_aload_n dX12_code_70 rfl ?_
      refine sx_callVv lk_X12_334 cl_12 s_224 (by decide) dX12_code_71 (vs := []) rfl rfl (Nat.le_of_ble_eq_true rfl) (Nat.le_of_ble_eq_true rfl) rfl (c_X12_goOn _ Ih13.1 (by omega)) (fun h15 ph15 => ?_)
      obtain ⟨Kh15, a_h15, s_h15, l_h15⟩ := ph15
      have Ih15 := Ih13.tr Kh15 (prBW_sub rfl rfl rfl)
      have th15_224_2 := Kh15.2 224 2 rfl
      have th15_224_3 := Kh15.2 224 3 rfl
      have th15_224_4 := Kh15.2 224 4 rfl
      have th15_224_36 := Kh15.2 224 36 rfl
      have th15_224_37 := Kh15.2 224 37 rfl
      have th15_224_38 := Kh15.2 224 38 rfl
      have th15_224_71 := Kh15.2 224 71 rfl
      have th15_224_73 := Kh15.2 224 73 rfl
      have th15_224_74 := Kh15.2 224 74 rfl
      have th15_224_85 := Kh15.2 224 85 rfl
      have z227 : h15 227 (1 - (b : Int)).toNat = 0 := by rw [Kh15.2 227 _ rfl]; have q := e_h13; rw [show (h12 224 37).toNat = (1 - (b : Int)).toNat by omega] at q; omega
      have z228 : h15 228 (1 - (b : Int)).toNat = 0 := by rw [Kh15.2 228 _ rfl]; have q := e_h13; rw [show (h12 224 37).toNat = (1 - (b : Int)).toNat by omega] at q; omega
      have z229 : h15 229 (1 - (b : Int)).toNat = 0 := by rw [Kh15.2 229 _ rfl]; have q := e_h13; rw [show (h12 224 37).toNat = (1 - (b : Int)).toNat by omega] at q; omega
      have LN0 : LnI h15 (1 - (b : Int)) := by unfold LnI; rw [z227, z229]; exact ⟨fun c c0 c1 => by exfalso; omega, by omega, by omega⟩
      have RR0 : RR h15 (1 - (b : Int)) := RR_eq (by omega) (by rw [show h15 244 _ = _ from Kh15.2 244 _ rfl, show h13 244 _ = _ from Kh13.2 244 _ rfl, eh12.2 244 _ (fun q => absurd q.1 (by decide)), eh10.2 244 _ (fun q => absurd q.1 (by decide)), eh9.2 244 _ (fun q => absurd q.1 (by decide)), show h5 244 _ = _ from Kh5.2 244 _ rfl]) (by rw [show h15 245 _ = _ from Kh15.2 245 _ rfl, show h13 245 _ = _ from Kh13.2 245 _ rfl, eh12.2 245 _ (fun q => absurd q.1 (by decide)), eh10.2 245 _ (fun q => absurd q.1 (by decide)), eh9.2 245 _ (fun q => absurd q.1 (by decide)), show h5 245 _ = _ from Kh5.2 245 _ rfl]) (fun k _ _ => (by rw [show h15 247 k = _ from Kh15.2 247 k rfl, show h13 247 k = _ from Kh13.2 247 k rfl, eh12.2 247 k (fun q => absurd q.1 (by decide)), eh10.2 247 k (fun q => absurd q.1 (by decide)), eh9.2 247 k (fun q => absurd q.1 (by decide)), show h5 247 k = _ from Kh5.2 247 k rfl])) RRr
      refine sx_loop0 (fun (h : sw_H) => (mK (prB b [2, 3, 4, 5, 6, 7, 8, 9, 10, 36, 37, 38, 39, 40, 41, 52, 53, 54, 55, 56, 57, 58, 73, 74, 83, 99] [226, 227, 228, 229, 230, 231, 232, 233, 234, 235, 236, 237, 238, 239, 240, 241, 242, 243, 244, 245, 246, 247, 248, 249, 250, 252, 253, 254, 255, 256, 257, 258, 259, 260, 261, 289]) h0 h) ∧ (h 224 7 ≤ h 224 3 ∧ (h 224 8 = 0 → h 224 7 = h 224 3)) ∧ (imp (h 224 4 = 0) (LnI h (1 - (b : Int)) ∧ True)) ∧ (RR h (1 - (b : Int))) ∧ (h 224 37 = (1 - (b : Int))) ∧ (h 224 36 = h0 224 36) ∧ (h 224 71 = h0 224 71) ∧ (h 224 73 = h0 224 73) ∧ (h 224 74 = h0 224 74) ∧ (h 224 85 = h0 224 85)) (fun (h : sw_H) => (if h 224 4 = 0 then 1 + (if h 224 8 = 0 then 0 else 1701 - h 224 7) else 0).toNat) (fun (h : sw_H) => sw_E G NH SH (d + 8) mX12_code 74 [some (sw_r 224), some (sw_i k_6)] [] h (sw_Qi (fun z h' => mK (prB b [2, 3, 4, 5, 6, 7, 8, 9, 10, 36, 37, 38, 39, 40, 41, 52, 53, 54, 55, 56, 57, 58, 73, 74, 83, 99] [226, 227, 228, 229, 230, 231, 232, 233, 234, 235, 236, 237, 238, 239, 240, 241, 242, 243, 244, 245, 246, 247, 248, 249, 250, 252, 253, 254, 255, 256, 257, 258, 259, 260, 261, 289]) h0 h' ∧ (mB h') ∧ (h' 224 100 = h0 224 100)))) ?_ _ ?_
      · rintro h17 ⟨Ih17, j1, jl, jR, j37, j36, j71, j73, j74, j85⟩ ihh17
        try dsimp only at ihh17
        have r7 : (0 : Int) ≤ h17 224 7 ∧ h17 224 7 ≤ 1700 := Ih17.1 224 7
        refine sx_aload_n dX12_code_74 rfl ?_
        refine sx_callVz lk_X12_330 cl_12 s_224 (by decide) dX12_code_75 (vs := []) rfl rfl (Nat.le_of_ble_eq_true rfl) (Nat.le_of_ble_eq_true rfl) rfl (c_X12_isGood _ Ih17.1) (fun x19 h18 zx19 ph18 => ?_)
        obtain ⟨rfl, p_x19⟩ := ph18
        refine sx_if_eq (tgt := 95) dX12_code_78 (by decide) (fun c20 => ?_) (fun c20 => ?_)
        ·
          replace p_x19 := mt p_x19.mpr (show ¬ (x19 = 1) by rw [c20]; decide)
          clear zx19
          refine sx_aload_n dX12_code_95 rfl ?_
          refine sx_callVz lk_X12_330 cl_12 s_224 (by decide) dX12_code_96 (vs := []) rfl rfl (Nat.le_of_ble_eq_true rfl) (Nat.le_of_ble_eq_true rfl) rfl (c_X12_isGood _ Ih17.1) (fun x22 h21 zx22 ph21 => ?_)
          obtain ⟨rfl, p_x22⟩ := ph21
          refine sx_if_ne (tgt := 104) dX12_code_99 (by decide) (fun c23 => ?_) (fun c23 => ?_)
          ·
            exfalso; omega
          ·
            replace p_x22 := mt p_x22.mpr (show ¬ (x22 = 1) by rw [c23]; decide)
            clear zx22
            refine sx_iconst dX12_code_102 ⟨by decide, by decide⟩ ?_
            refine sx_ireturn dX12_code_103 ?_
            have q36 : h17 224 36 = h0 224 36 := by omega
            have CK := mC_keep Ih17 hJ (by omega) RB0 RRb
            refine ⟨_, rfl, ⟨Ih17, ⟨?_, by omega, by omega, by omega⟩, Ih17.2 224 100 rfl⟩⟩
            refine ⟨?_, ?_, ?_⟩
            · by_cases q : b = 0; (subst q; exact CK.2); (rw [show (0 : Int) = (1 - (b : Int)) by omega]; exact jR)
            · by_cases q : b = 0; (subst q; exact jR); (rw [show (1 : Int) = (b : Int) by omega]; exact CK.2)
            · rw [show h17 224 36 = (b : Int) by omega, show (b : Int).toNat = b by omega]; exact CK.1
        ·
          have vx19 : x19 = 1 := by rcases zx19 with q | q; (exact absurd q c20); exact q
          replace p_x19 := p_x19.mp vx19
          clear zx19
          refine sx_aload_n dX12_code_81 rfl ?_
          refine sx_getI (k := 8) cl_12 fl_X12_302 dX12_code_82 s_224 (by decide) rfl (by decide) ?_
          have r24 : (0 : Int) ≤ h17 224 8 ∧ h17 224 8 ≤ 5 := Ih17.1 224 8
          refine sx_if_eq (tgt := 95) dX12_code_85 (by decide) (fun c25 => ?_) (fun c25 => ?_)
          ·
            refine sx_aload_n dX12_code_95 rfl ?_
            refine sx_callVz lk_X12_330 cl_12 s_224 (by decide) dX12_code_96 (vs := []) rfl rfl (Nat.le_of_ble_eq_true rfl) (Nat.le_of_ble_eq_true rfl) rfl (c_X12_isGood _ Ih17.1) (fun x27 h26 zx27 ph26 => ?_)
            obtain ⟨rfl, p_x27⟩ := ph26
            refine sx_if_ne (tgt := 104) dX12_code_99 (by decide) (fun c28 => ?_) (fun c28 => ?_)
            ·
              have vx27 : x27 = 1 := by rcases zx27 with q | q; (exact absurd q c28); exact q
              replace p_x27 := p_x27.mp vx27
              clear zx27
              refine sx_aload_n dX12_code_104 rfl ?_
              refine sx_aload_n dX12_code_105 rfl ?_
              refine sx_getI (k := 37) cl_12 fl_X12_340 dX12_code_106 s_224 (by decide) rfl (by decide) ?_
              have r29 : (0 : Int) ≤ h17 224 37 ∧ h17 224 37 ≤ 1 := Ih17.1 224 37
              refine sy_putI (k := 36) cl_12 fl_X12_349 dX12_code_109 s_224 (by decide) rfl (by decide) rfl rfl (fun h30 eh30 => ?_)
              have Ih30 := Ih17.up eh30 (show (0 : Int) ≤ _ ∧ _ ≤ (1 : Int) from ⟨by omega, by omega⟩) rfl
              have th30_224_2 := eh30.2 (224) 2 (by decide)
              have th30_224_3 := eh30.2 (224) 3 (by decide)
              have th30_224_4 := eh30.2 (224) 4 (by decide)
              have th30_224_7 := eh30.2 (224) 7 (by decide)
              have th30_224_8 := eh30.2 (224) 8 (by decide)
              have th30_224_36 := eh30.1
              have th30_224_37 := eh30.2 (224) 37 (by decide)
              have th30_224_38 := eh30.2 (224) 38 (by decide)
              have th30_224_71 := eh30.2 (224) 71 (by decide)
              have th30_224_73 := eh30.2 (224) 73 (by decide)
              have th30_224_74 := eh30.2 (224) 74 (by decide)
              have th30_224_85 := eh30.2 (224) 85 (by decide)
              refine sx_aload_n dX12_code_112 rfl ?_
              refine sx_callVv lk_X12_221 cl_12 s_224 (by decide) dX12_code_113 (vs := []) rfl rfl (Nat.le_of_ble_eq_true rfl) (Nat.le_of_ble_eq_true rfl) rfl (c_X12_startAnew _ Ih30.1) (fun h31 ph31 => ?_)
              obtain ⟨Kh31, s_h31⟩ := ph31
              have Ih31 := Ih30.tr Kh31 (prBW_sub rfl rfl rfl)
              have th31_224_2 := Kh31.2 224 2 rfl
              have th31_224_3 := Kh31.2 224 3 rfl
              have th31_224_4 := Kh31.2 224 4 rfl
              have th31_224_7 := Kh31.2 224 7 rfl
              have th31_224_8 := Kh31.2 224 8 rfl
              have th31_224_36 := Kh31.2 224 36 rfl
              have th31_224_37 := Kh31.2 224 37 rfl
              have th31_224_38 := Kh31.2 224 38 rfl
              have th31_224_71 := Kh31.2 224 71 rfl
              have th31_224_85 := Kh31.2 224 85 rfl
              refine sx_aload_n dX12_code_116 rfl ?_
              refine sx_getS (k := 11) (t := 227) cl_12 fl_X12_20 dX12_code_117 s_224 (by decide) rfl (by decide) ?_
              refine sx_aload_n dX12_code_120 rfl ?_
              refine sx_getI (k := 36) cl_12 fl_X12_349 dX12_code_121 s_224 (by decide) rfl (by decide) ?_
              have r33 : (0 : Int) ≤ h31 224 36 ∧ h31 224 36 ≤ 1 := Ih31.1 224 36
              refine sy_iaF (F := fun z => (0 : Int) ≤ z ∧ z ≤ 6) dX12_code_124 s_227 (by decide) (by decide) ⟨by omega, by omega⟩ (Ih31.1 227 _) (fun r34 => ?_)
              refine sx_ireturn dX12_code_125 ?_
              have EQ : ∀ a k, 227 ≤ a → a ≤ 248 → h31 a k = h17 a k := fun a k q1 q2 => by rw [Kh31.2 a k (by simp only [prW, Bool.not_eq_true', Bool.or_eq_false_iff, Bool.and_eq_false_iff, beq_eq_false_iff_ne, ne_eq]; refine ⟨Or.inl (by omega), ?_⟩; simp only [List.contains_cons, List.contains_nil, Bool.or_false, Bool.or_eq_false_iff, beq_eq_false_iff_ne, ne_eq]; omega), eh30.2 a k (by omega)]
              have CK := mC_keep Ih17 hJ (by omega) RB0 RRb
              obtain ⟨LN, -⟩ := jl (by omega)
              have q36 : h31 224 36 = (1 - (b : Int)) := by rw [show h31 224 36 = h30 224 36 from Kh31.2 224 36 rfl, eh30.1]; omega
              refine ⟨_, rfl, ⟨Ih31, ⟨?_, by omega, by omega, by omega⟩, Ih31.2 224 100 rfl⟩⟩
              refine ⟨?_, ?_, ?_⟩
              · refine RR_eq (by decide) (EQ _ _ (by omega) (by omega)) (EQ _ _ (by omega) (by omega)) (fun k _ _ => EQ _ _ (by omega) (by omega)) ?_; by_cases q : b = 0; (subst q; exact CK.2); (rw [show (0 : Int) = (1 - (b : Int)) by omega]; exact jR)
              · refine RR_eq (by decide) (EQ _ _ (by omega) (by omega)) (EQ _ _ (by omega) (by omega)) (fun k _ _ => EQ _ _ (by omega) (by omega)) ?_; by_cases q : b = 0; (subst q; exact jR); (rw [show (1 : Int) = (b : Int) by omega]; exact CK.2)
              · rw [q36, EQ _ _ (by omega) (by omega), EQ _ _ (by omega) (by omega)]; exact RBx_fr (by omega) (fun a k _ _ => EQ a k (by omega) (by omega)) (fun a k _ => EQ a k (by omega) (by omega)) LN.1
            ·
              exfalso; omega
          ·
            have hL : LnI h17 (1 - (b : Int)) := (jl (by omega)).1
            refine sx_aload_n dX12_code_88 rfl ?_
            refine sx_callVv lk_X12_352 cl_12 s_224 (by decide) dX12_code_89 (vs := []) rfl rfl (Nat.le_of_ble_eq_true rfl) (Nat.le_of_ble_eq_true rfl) rfl (c_X12_readLine _ Ih17.1 b (by omega) (by omega) (by omega) (by omega) (hL) (jR)) (fun h35 ph35 => ?_)
            obtain ⟨Kh35, a_h35, m_h35, f_h35, l_h35, r_h35⟩ := ph35
            have Ih35 := Ih17.tr Kh35 (prB_sub rfl rfl)
            have th35_224_2 := Kh35.2 224 2 rfl
            have th35_224_3 := Kh35.2 224 3 rfl
            have th35_224_36 := Kh35.2 224 36 rfl
            have th35_224_37 := Kh35.2 224 37 rfl
            have th35_224_71 := Kh35.2 224 71 rfl
            have th35_224_73 := Kh35.2 224 73 rfl
            have th35_224_74 := Kh35.2 224 74 rfl
            have th35_224_85 := Kh35.2 224 85 rfl
            refine sx_goto (tgt := 74) dX12_code_92 (by decide) ?_
            exact ihh17 _ ⟨Ih35, by omega, (fun q => ⟨(l_h35 q).1, trivial⟩), f_h35, by omega, by omega, by omega, by omega, by omega, by omega⟩ (by rw [if_pos (show h17 224 4 = 0 by omega), if_neg (show ¬ h17 224 8 = 0 by omega)]; by_cases q : h35 224 4 = 0; (have q2 := (l_h35 q).2; rw [if_pos q]; split <;> omega); (rw [if_neg q]; omega))
      · exact ⟨Ih15, by omega, by exact fun _ => ⟨LN0, trivial⟩, by exact RR0, by omega, by omega, by omega, by omega, by omega, by omega⟩
    ·
      refine sx_aload_n dX12_code_28 rfl ?_
      refine sx_getS (k := 1) (t := 226) cl_12 fl_X12_13 dX12_code_29 s_224 (by decide) rfl (by decide) ?_
      refine sx_iload_n dX12_code_32 rfl ?_
      refine sx_aload_n dX12_code_33 rfl ?_
      refine sx_getS (k := 0) (t := 225) cl_12 fl_X12_7 dX12_code_34 s_224 (by decide) rfl (by decide) ?_
      refine sx_iload_n dX12_code_37 rfl ?_
      refine sx_baload dX12_code_38 s_225 (by decide) (by decide) ⟨by omega, by omega⟩ (fun b37 b38 => ?_)
      refine sy_bastore dX12_code_39 s_226 (by decide) (by decide) ⟨by omega, by omega⟩ (by omega) (fun h39 eh39 => ?_)
      have Ih39 := Ih5.up eh39 trivial rfl
      have th39_224_2 := eh39.2 (224) 2 (fun q => absurd q.1 (by decide))
      have th39_224_3 := eh39.2 (224) 3 (fun q => absurd q.1 (by decide))
      have th39_224_4 := eh39.2 (224) 4 (fun q => absurd q.1 (by decide))
      have th39_224_7 := eh39.2 (224) 7 (fun q => absurd q.1 (by decide))
      have th39_224_8 := eh39.2 (224) 8 (fun q => absurd q.1 (by decide))
      have th39_224_36 := eh39.2 (224) 36 (fun q => absurd q.1 (by decide))
      have th39_224_37 := eh39.2 (224) 37 (fun q => absurd q.1 (by decide))
      have th39_224_38 := eh39.2 (224) 38 (fun q => absurd q.1 (by decide))
      have th39_224_71 := eh39.2 (224) 71 (fun q => absurd q.1 (by decide))
      have th39_224_73 := eh39.2 (224) 73 (fun q => absurd q.1 (by decide))
      have th39_224_74 := eh39.2 (224) 74 (fun q => absurd q.1 (by decide))
      have th39_224_85 := eh39.2 (224) 85 (fun q => absurd q.1 (by decide))
      have jp2 : mK (prW [3, 4, 5] [226]) h0 h39 := Kh5.up eh39 trivial rfl
      refine sx_iinc dX12_code_40 (by decide) rfl ?_
      rw [sw_w_id (by omega) (by omega)]
      refine sx_goto (tgt := 20) dX12_code_43 (by decide) ?_
      exact ihh5 _ _ ⟨Ih39, by omega, by omega, by omega, by omega, by omega, by omega, by omega, by omega, by omega, by omega, by omega, by omega, by exact jp2⟩ (by exact sy_dec (by omega) (by omega))
  · exact ⟨Ih4, by omega, by omega, by omega, by omega, by omega, by omega, by omega, by omega, by omega, by omega, by omega, by omega, by exact jp0⟩

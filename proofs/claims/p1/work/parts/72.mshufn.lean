set_option maxRecDepth 20000 in
set_option maxHeartbeats 4000000 in
theorem c_X12_layRow {G : sw_G} (d : Nat) {h0 : sw_H} (hJ : mI h0) (s : Int) (to : Int) (hR : RW h0 s to) (h83 : h0 224 83 = 0)  : sw_E G NH SH (d) mX12_layRow 0 [some (sw_r 224), none, none] [] h0 (sw_Qv (fun h' => mK (prW [83] [274]) h0 h')) := by
  have hI : mK (prW [83] [274]) h0 h0 := mK.refl hJ
  have p2 := hR.1.2.1
  have p1 := hR.1.1
  refine sx_iconst dX12_layRow_0 ⟨by decide, by decide⟩ ?_
  refine sx_istore_n dX12_layRow_1 (by decide) ?_
  refine sx_loop1 (fun (h : sw_H) (k : Int) => (mK (prW [83] [274]) h0 h) ∧ (0 ≤ k ∧ k < h0 224 79) ∧ (∃ p : List Nat, pvd s.toNat p ∧ h0 270 k.toNat = ((pth s.toNat p : Nat) : Int) ∧ ((wt (fun t => (h0 273 t).toNat) p : Nat) : Int) + h0 271 k.toNat = h0 271 0 ∧ h 224 83 = (p.length : Nat))) (fun (h : sw_H) (k : Int) => (h0 271 k.toNat).toNat) (fun (h : sw_H) (k : Int) => sw_E G NH SH (d) mX12_layRow 2 [some (sw_r 224), some (sw_i k), none] [] h (sw_Qv (fun h' => mK (prW [83] [274]) h0 h'))) ?_ _ _ ?_
  · rintro h1 k_2 ⟨Ih1, jk, jx⟩ ihh1
    try dsimp only at ihh1
    obtain ⟨p, pp1, pp2, pp3, pp4⟩ := jx
    have sh15 := RW_short hR pp1 (k := (k_2).toNat) (by omega) pp2 pp3
    have lk := LV_rng hR.2.2.1 (k := k_2) (by omega)
    have l0 := hR.2.2.2.2.2
    have e71k : h1 271 (k_2).toNat = h0 271 (k_2).toNat := Ih1.2 271 _ rfl
    refine sx_aload_n dX12_layRow_2 rfl ?_
    refine sx_getS (k := 78) (t := 271) cl_12 fl_X12_157 dX12_layRow_3 s_224 (by decide) rfl (by decide) ?_
    refine sx_iload_n dX12_layRow_6 rfl ?_
    refine sx_iaload dX12_layRow_7 s_271 (by decide) (by decide) ⟨by omega, by omega⟩ ?_
    refine sx_if_le (tgt := 100) dX12_layRow_8 (by decide) (fun c3 => ?_) (fun c3 => ?_)
    ·
      refine sx_ret dX12_layRow_100 ?_
      exact ⟨rfl, Ih1⟩
    ·
      obtain ⟨t0, tw1, tw2, tw3, tw4⟩ := RW_next hR (k := k_2) (by omega) (by omega) (by omega)
      refine sx_iconst dX12_layRow_11 ⟨by decide, by decide⟩ ?_
      refine sx_istore_n dX12_layRow_12 (by decide) ?_
      refine sx_loop1 (fun (h : sw_H) (t : Int) => (h1 = h) ∧ (0 ≤ t) ∧ (t ≤ t0)) (fun (h : sw_H) (t : Int) => (10 - t).toNat) (fun (h : sw_H) (t : Int) => sw_E G NH SH (d) mX12_layRow 13 [some (sw_r 224), some (sw_i k_2), some (sw_i t)] [] h (sw_Qv (fun h' => mK (prW [83] [274]) h0 h'))) ?_ _ _ ?_
      · rintro h4 t_5 ⟨rfl, jt, jt0⟩ ihh4
        try dsimp only at ihh4
        have e72 : h1 272 (7 * k_2 + t_5).toNat = h0 272 (7 * k_2 + t_5).toNat := Ih1.2 272 _ rfl
        have e73 : h1 273 (t_5).toNat = h0 273 (t_5).toNat := Ih1.2 273 _ rfl
        have e71a : h1 271 (h1 272 (7 * k_2 + t_5).toNat).toNat = h0 271 (h0 272 (7 * k_2 + t_5).toNat).toNat := by rw [e72]; exact Ih1.2 271 _ rfl
        have rg := SP_rng hR.1 (k := k_2) (t := t_5) (by omega) (by omega)
        have wg := WG_of hR.2.1 (t := t_5) (by omega)
        refine sx_aload_n dX12_layRow_13 rfl ?_
        refine sx_getS (k := 80) (t := 272) cl_12 fl_X12_160 dX12_layRow_14 s_224 (by decide) rfl (by decide) ?_
        refine sx_bipush dX12_layRow_17 ⟨by decide, by decide, by decide⟩ ?_
        refine sx_iload_n dX12_layRow_19 rfl ?_
        refine sx_imul dX12_layRow_20 ?_
        refine sy_topw (by omega) ?_
        refine sx_iload_n dX12_layRow_21 rfl ?_
        refine sx_iadd dX12_layRow_22 ?_
        refine sy_topw (by omega) ?_
        refine sx_iaload dX12_layRow_23 s_272 (by decide) (by decide) ⟨by omega, by omega⟩ ?_
        refine sx_if_lt (tgt := 59) dX12_layRow_24 (by decide) (fun c6 => ?_) (fun c6 => ?_)
        ·
          have tne : t_5 ≠ t0 := fun q => by have q3 := tw3; have q4 := tw4; rw [← q] at q3 q4; omega
          refine sx_iinc dX12_layRow_59 (by decide) rfl ?_
          rw [sw_w_id (by omega) (by omega)]
          refine sx_goto (tgt := 13) dX12_layRow_62 (by decide) ?_
          exact ihh4 _ _ ⟨rfl, by omega, by omega⟩ (by exact sy_dec (by omega) (by omega))
        ·
          have la := LV_rng hR.2.2.1 (k := h0 272 (7 * k_2 + t_5).toNat) (by omega)
          refine sx_aload_n dX12_layRow_27 rfl ?_
          refine sx_getS (k := 78) (t := 271) cl_12 fl_X12_157 dX12_layRow_28 s_224 (by decide) rfl (by decide) ?_
          refine sx_aload_n dX12_layRow_31 rfl ?_
          refine sx_getS (k := 80) (t := 272) cl_12 fl_X12_160 dX12_layRow_32 s_224 (by decide) rfl (by decide) ?_
          refine sx_bipush dX12_layRow_35 ⟨by decide, by decide, by decide⟩ ?_
          refine sx_iload_n dX12_layRow_37 rfl ?_
          refine sx_imul dX12_layRow_38 ?_
          refine sy_topw (by omega) ?_
          refine sx_iload_n dX12_layRow_39 rfl ?_
          refine sx_iadd dX12_layRow_40 ?_
          refine sy_topw (by omega) ?_
          refine sx_iaload dX12_layRow_41 s_272 (by decide) (by decide) ⟨by omega, by omega⟩ ?_
          refine sx_iaload dX12_layRow_42 s_271 (by decide) (by decide) ⟨by omega, by omega⟩ ?_
          refine sx_aload_n dX12_layRow_43 rfl ?_
          refine sx_getS (k := 81) (t := 273) cl_12 fl_X12_163 dX12_layRow_44 s_224 (by decide) rfl (by decide) ?_
          refine sx_iload_n dX12_layRow_47 rfl ?_
          refine sx_iaload dX12_layRow_48 s_273 (by decide) (by decide) ⟨by omega, by omega⟩ ?_
          refine sx_iadd dX12_layRow_49 ?_
          refine sy_topw (by omega) ?_
          refine sx_aload_n dX12_layRow_50 rfl ?_
          refine sx_getS (k := 78) (t := 271) cl_12 fl_X12_157 dX12_layRow_51 s_224 (by decide) rfl (by decide) ?_
          refine sx_iload_n dX12_layRow_54 rfl ?_
          refine sx_iaload dX12_layRow_55 s_271 (by decide) (by decide) ⟨by omega, by omega⟩ ?_
          refine sx_icmp_eq (tgt := 65) dX12_layRow_56 (by decide) (fun c7 => ?_) (fun c7 => ?_)
          ·
            obtain ⟨mp1, mp2, mp3, mp4⟩ := RW_more hR pp1 (k := k_2) (t := t_5) (by omega) pp2 pp3 (by omega) (by omega) (by omega)
            refine sx_aload_n dX12_layRow_65 rfl ?_
            refine sx_getS (k := 82) (t := 274) cl_12 fl_X12_166 dX12_layRow_66 s_224 (by decide) rfl (by decide) ?_
            refine sx_aload_n dX12_layRow_69 rfl ?_
            refine sx_getI (k := 83) cl_12 fl_X12_516 dX12_layRow_70 s_224 (by decide) rfl (by decide) ?_
            have r8 : (0 : Int) ≤ h1 224 83 ∧ h1 224 83 ≤ 64 := Ih1.1 224 83
            refine sx_iload_n dX12_layRow_73 rfl ?_
            refine sy_iastore dX12_layRow_74 s_274 (by decide) (by decide) ⟨by omega, by omega⟩ (fun h9 eh9 => ?_)
            have Ih9 := Ih1.up eh9 trivial rfl
            have th9_224_83 := eh9.2 (224) 83 (by omega)
            refine sx_aload_n dX12_layRow_75 rfl ?_
            refine sx_dupr dX12_layRow_76 ?_
            refine sx_getI (k := 83) cl_12 fl_X12_516 dX12_layRow_77 s_224 (by decide) rfl (by decide) ?_
            have r10 : (0 : Int) ≤ h9 224 83 ∧ h9 224 83 ≤ 64 := Ih9.1 224 83
            refine sx_iconst dX12_layRow_80 ⟨by decide, by decide⟩ ?_
            refine sx_iadd dX12_layRow_81 ?_
            refine sy_topw (by omega) ?_
            refine sy_putI (k := 83) cl_12 fl_X12_516 dX12_layRow_82 s_224 (by decide) rfl (by decide) rfl rfl (fun h11 eh11 => ?_)
            have Ih11 := Ih9.up eh11 (show (0 : Int) ≤ _ ∧ _ ≤ (64 : Int) from ⟨by omega, by omega⟩) rfl
            have th11_224_83 := eh11.1
            refine sx_aload_n dX12_layRow_85 rfl ?_
            refine sx_getS (k := 80) (t := 272) cl_12 fl_X12_160 dX12_layRow_86 s_224 (by decide) rfl (by decide) ?_
            refine sx_bipush dX12_layRow_89 ⟨by decide, by decide, by decide⟩ ?_
            refine sx_iload_n dX12_layRow_91 rfl ?_
            refine sx_imul dX12_layRow_92 ?_
            refine sy_topw (by omega) ?_
            refine sx_iload_n dX12_layRow_93 rfl ?_
            refine sx_iadd dX12_layRow_94 ?_
            refine sy_topw (by omega) ?_
            refine sx_iaload dX12_layRow_95 s_272 (by decide) (by decide) ⟨by omega, by omega⟩ ?_
            refine sy_top (fun v12 ev12 => ?_)
            refine sx_istore_n dX12_layRow_96 (by decide) ?_
            have ev : v12 = h0 272 (7 * k_2 + t_5).toNat := by rw [ev12]; exact Ih11.2 272 _ rfl
            have jx2 : ∃ p : List Nat, pvd s.toNat p ∧ h0 270 (v12).toNat = ((pth s.toNat p : Nat) : Int) ∧ ((wt (fun t => (h0 273 t).toNat) p : Nat) : Int) + h0 271 (v12).toNat = h0 271 0 ∧ h11 224 83 = (p.length : Nat) := by rw [ev]; exact ⟨_, mp1, mp3, mp4, by rw [List.length_cons]; omega⟩
            have wl : h0 271 (v12).toNat < h0 271 (k_2).toNat := by rw [ev]; omega
            refine sx_goto (tgt := 2) dX12_layRow_97 (by decide) ?_
            refine sx_kill 2 ?_
            exact ihh1 _ _ ⟨Ih11, by omega, by exact jx2⟩ (by exact sy_dec (by omega) (by omega))
          ·
            have tne : t_5 ≠ t0 := fun q => by have q3 := tw3; have q4 := tw4; rw [← q] at q3 q4; omega
            refine sx_iinc dX12_layRow_59 (by decide) rfl ?_
            rw [sw_w_id (by omega) (by omega)]
            refine sx_goto (tgt := 13) dX12_layRow_62 (by decide) ?_
            exact ihh4 _ _ ⟨rfl, by omega, by omega⟩ (by exact sy_dec (by omega) (by omega))
      · exact ⟨rfl, by omega, by omega⟩
  · exact ⟨hI, by omega, by exact ⟨[], trivial, by have q := hR.1.2.2.1; have q2 := hR.2.2.2.2.1; show h0 270 0 = ((s.toNat : Nat) : Int); omega, by simp only [wt]; show ((0 : Nat) : Int) + h0 271 0 = h0 271 0; omega, h83⟩⟩
set_option maxRecDepth 20000 in
set_option maxHeartbeats 4000000 in
theorem c_X12_isTask {G : sw_G} (d : Nat) {h0 : sw_H} (hJ : mI h0) (y1 y2 : Int)  : sw_E G NH SH (d + 1) mX12_isTask 0 [some (sw_i y1), some (sw_i y2), none] [] h0 (sw_Qz (fun z h' => h0 = h')) := by
  have hI : mK (prW [] []) h0 h0 := mK.refl hJ
  refine sx_iload_n dX12_isTask_0 rfl ?_
  refine sx_iconst dX12_isTask_1 ⟨by decide, by decide⟩ ?_
  refine sx_iconst dX12_isTask_2 ⟨by decide, by decide⟩ ?_
  refine sx_callSz lk_X12_500 dX12_isTask_3 (vs := [_, _, _]) rfl rfl (Nat.le_of_ble_eq_true rfl) (Nat.le_of_ble_eq_true rfl) rfl (c_X12_isIn _ hI.1 _ _ _) (fun x2 h1 zx2 ph1 => ?_)
  obtain ⟨rfl, p_x2⟩ := ph1
  refine sx_if_eq (tgt := 20) dX12_isTask_6 (by decide) (fun c3 => ?_) (fun c3 => ?_)
  ·
    replace p_x2 := mt p_x2.mpr (show ¬ (x2 = 1) by rw [c3]; decide)
    clear zx2
    refine sx_iconst dX12_isTask_20 ⟨by decide, by decide⟩ ?_
    refine sx_ireturn dX12_isTask_21 ?_
    exact ⟨_, rfl, by omega, rfl⟩
  ·
    have vx2 : x2 = 1 := by rcases zx2 with q | q; (exact absurd q c3); exact q
    replace p_x2 := p_x2.mp vx2
    clear zx2
    refine sx_iload_n dX12_isTask_9 rfl ?_
    refine sx_iconst dX12_isTask_10 ⟨by decide, by decide⟩ ?_
    refine sx_sipush dX12_isTask_11 ⟨by decide, by decide, by decide⟩ ?_
    refine sx_callSz lk_X12_500 dX12_isTask_14 (vs := [_, _, _]) rfl rfl (Nat.le_of_ble_eq_true rfl) (Nat.le_of_ble_eq_true rfl) rfl (c_X12_isIn _ hI.1 _ _ _) (fun x5 h4 zx5 ph4 => ?_)
    obtain ⟨rfl, p_x5⟩ := ph4
    refine sx_if_ne (tgt := 22) dX12_isTask_17 (by decide) (fun c6 => ?_) (fun c6 => ?_)
    ·
      have vx5 : x5 = 1 := by rcases zx5 with q | q; (exact absurd q c6); exact q
      replace p_x5 := p_x5.mp vx5
      clear zx5
      refine sx_iload_n dX12_isTask_22 rfl ?_
      refine sx_istore_n dX12_isTask_23 (by decide) ?_
      refine sx_loop1 (fun (h : sw_H) (k : Int) => (h0 = h) ∧ (0 ≤ k) ∧ (k ≤ 9999)) (fun (h : sw_H) (k : Int) => k.toNat) (fun (h : sw_H) (k : Int) => sw_E G NH SH (d + 1) mX12_isTask 24 [some (sw_i y1), some (sw_i y2), some (sw_i k)] [] h (sw_Qz (fun z h' => h0 = h'))) ?_ _ _ ?_
      · rintro h7 k_8 ⟨rfl, j9, j10⟩ ihh7
        try dsimp only at ihh7
        refine sx_iload_n dX12_isTask_24 rfl ?_
        refine sx_if_le (tgt := 50) dX12_isTask_25 (by decide) (fun c11 => ?_) (fun c11 => ?_)
        ·
          refine sx_iconst dX12_isTask_50 ⟨by decide, by decide⟩ ?_
          refine sx_ireturn dX12_isTask_51 ?_
          exact ⟨_, rfl, by omega, rfl⟩
        ·
          refine sx_iload_n dX12_isTask_28 rfl ?_
          refine sx_bipush dX12_isTask_29 ⟨by decide, by decide, by decide⟩ ?_
          refine sx_irem dX12_isTask_31 (by decide) ?_
          refine sx_iconst dX12_isTask_32 ⟨by decide, by decide⟩ ?_
          refine sx_iload_n dX12_isTask_33 rfl ?_
          refine sx_callSz lk_X12_500 dX12_isTask_34 (vs := [_, _, _]) rfl rfl (Nat.le_of_ble_eq_true rfl) (Nat.le_of_ble_eq_true rfl) rfl (c_X12_isIn _ hI.1 _ _ _) (fun x13 h12 zx13 ph12 => ?_)
          obtain ⟨rfl, p_x13⟩ := ph12
          refine sx_if_ne (tgt := 42) dX12_isTask_37 (by decide) (fun c14 => ?_) (fun c14 => ?_)
          ·
            have vx13 : x13 = 1 := by rcases zx13 with q | q; (exact absurd q c14); exact q
            replace p_x13 := p_x13.mp vx13
            clear zx13
            refine sx_iload_n dX12_isTask_42 rfl ?_
            refine sx_bipush dX12_isTask_43 ⟨by decide, by decide, by decide⟩ ?_
            refine sx_idiv dX12_isTask_45 (by decide) ?_
            refine sy_topw (by (rw [Int.tdiv_eq_ediv_of_nonneg (by omega)]; omega)) ?_
            refine sy_top (fun v15 ev15 => ?_)
            refine sx_istore_n dX12_isTask_46 (by decide) ?_
            rw [Int.tdiv_eq_ediv_of_nonneg (by omega)] at ev15
            refine sx_goto (tgt := 24) dX12_isTask_47 (by decide) ?_
            exact ihh7 _ _ ⟨rfl, by omega, by omega⟩ (by exact sy_dec (by omega) (by omega))
          ·
            replace p_x13 := mt p_x13.mpr (show ¬ (x13 = 1) by rw [c14]; decide)
            clear zx13
            refine sx_iconst dX12_isTask_40 ⟨by decide, by decide⟩ ?_
            refine sx_ireturn dX12_isTask_41 ?_
            exact ⟨_, rfl, by omega, rfl⟩
      · exact ⟨rfl, by omega, by omega⟩
    ·
      replace p_x5 := mt p_x5.mpr (show ¬ (x5 = 1) by rw [c6]; decide)
      clear zx5
      refine sx_iconst dX12_isTask_20 ⟨by decide, by decide⟩ ?_
      refine sx_ireturn dX12_isTask_21 ?_
      exact ⟨_, rfl, by omega, rfl⟩
set_option maxRecDepth 20000 in
set_option maxHeartbeats 4000000 in
theorem c_X12_canTask {G : sw_G} (d : Nat) {h0 : sw_H} (hJ : mI h0) (y1 y2 : Int) (hw : WG h0)  : sw_E G NH SH (d + 4) mX12_canTask 0 [some (sw_r 224), some (sw_i y1), some (sw_i y2)] [] h0 (sw_Qz (fun z h' => mK (prW [67, 79, 83] [262, 270, 271, 272]) h0 h' ∧ (h' 224 83 = 0) ∧ (imp (z = 1) (∃ s to, RW h' s to)))) := by
  have hI : mK (prW [67, 79, 83] [262, 270, 271, 272]) h0 h0 := mK.refl hJ
  refine sx_aload_n dX12_canTask_0 rfl ?_
  refine sx_iconst dX12_canTask_1 ⟨by decide, by decide⟩ ?_
  refine sy_putI (k := 83) cl_12 fl_X12_516 dX12_canTask_2 s_224 (by decide) rfl (by decide) rfl rfl (fun h1 eh1 => ?_)
  have Ih1 := hI.up eh1 (show (0 : Int) ≤ _ ∧ _ ≤ (64 : Int) from ⟨by omega, by omega⟩) rfl
  have th1_224_83 := eh1.1
  refine sx_iload_n dX12_canTask_5 rfl ?_
  refine sx_iload_n dX12_canTask_6 rfl ?_
  refine sx_callSz lk_X12_626 dX12_canTask_7 (vs := [_, _]) rfl rfl (Nat.le_of_ble_eq_true rfl) (Nat.le_of_ble_eq_true rfl) rfl (c_X12_isTask _ Ih1.1 _ _) (fun x3 h2 zx3 ph2 => ?_)
  subst ph2
  refine sx_if_ne (tgt := 15) dX12_canTask_10 (by decide) (fun c4 => ?_) (fun c4 => ?_)
  ·
    have vx3 : x3 = 1 := by rcases zx3 with q | q; (exact absurd q c4); exact q
    clear zx3
    refine sx_aload_n dX12_canTask_15 rfl ?_
    refine sx_iload_n dX12_canTask_16 rfl ?_
    refine sx_callSi lk_X12_629 dX12_canTask_17 (vs := [_]) rfl rfl (Nat.le_of_ble_eq_true rfl) (Nat.le_of_ble_eq_true rfl) rfl (c_X12_startOf _ Ih1.1 _) (fun x6 h5 ph5 => ?_)
    obtain ⟨rfl, p_x6⟩ := ph5
    have vs := V_start p_x6
    refine sx_callVv lk_X12_632 cl_12 s_224 (by decide) dX12_canTask_20 (vs := [_]) rfl rfl (Nat.le_of_ble_eq_true rfl) (Nat.le_of_ble_eq_true rfl) rfl (c_X12_spreadFrom _ Ih1.1 _ (vs.1)) (fun h7 ph7 => ?_)
    obtain ⟨Kh7, p_h7⟩ := ph7
    have Ih7 := Ih1.tr Kh7 (prW_sub rfl rfl)
    have th7_224_83 := Kh7.2 224 83 rfl
    have WG1 : WG h7 := WG_eq (fun k => by rw [Kh7.2 273 k rfl]; exact Ih1.2 273 k rfl) hw
    refine sx_aload_n dX12_canTask_23 rfl ?_
    refine sx_iload_n dX12_canTask_24 rfl ?_
    refine sx_callVz lk_X12_635 cl_12 s_224 (by decide) dX12_canTask_25 (vs := [_]) rfl rfl (Nat.le_of_ble_eq_true rfl) (Nat.le_of_ble_eq_true rfl) rfl (c_X12_spreadTo _ Ih7.1 _ _ (p_h7) (WG1) (vs.2)) (fun x10 h9 zx10 ph9 => ?_)
    obtain ⟨Kh9, r_h9⟩ := ph9
    have Ih9 := Ih7.tr Kh9 (prW_sub rfl rfl)
    have th9_224_83 := Kh9.2 224 83 rfl
    refine sx_ireturn dX12_canTask_28 ?_
    exact ⟨_, rfl, by omega, ⟨Ih9, by omega, fun q => ⟨_, r_h9 q⟩⟩⟩
  ·
    clear zx3
    refine sx_iconst dX12_canTask_13 ⟨by decide, by decide⟩ ?_
    refine sx_ireturn dX12_canTask_14 ?_
    exact ⟨_, rfl, by omega, ⟨Ih1, by omega, fun q => absurd q (by decide)⟩⟩
set_option maxRecDepth 20000 in
set_option maxHeartbeats 4000000 in
theorem c_X12_shortest {G : sw_G} (d : Nat) {h0 : sw_H} (hJ : mI h0) (y1 y2 : Int) (hB : mB h0)  : sw_E G NH SH (d + 5) mX12_shortest 0 [some (sw_r 224), some (sw_i y1), some (sw_i y2), none] [] h0 (sw_Qi (fun z h' => mK (prW [67, 79, 83] [262, 270, 271, 272, 273, 274]) h0 h' ∧ (mB h') ∧ (h' 224 100 = h0 224 100))) := by
  have hI : mK (prW [67, 79, 83] [262, 270, 271, 272, 273, 274]) h0 h0 := mK.refl hJ
  refine sx_iconst dX12_shortest_0 ⟨by decide, by decide⟩ ?_
  refine sx_istore_n dX12_shortest_1 (by decide) ?_
  refine sx_loop1 (fun (h : sw_H) (t : Int) => (mK (prW [67, 79, 83] [262, 270, 271, 272, 273, 274]) h0 h) ∧ (0 ≤ t) ∧ (∀ j : Nat, (j : Int) < t → 1 ≤ h 273 j ∧ h 273 j ≤ 99001)) (fun (h : sw_H) (t : Int) => (10 - t).toNat) (fun (h : sw_H) (t : Int) => sw_E G NH SH (d + 5) mX12_shortest 2 [some (sw_r 224), some (sw_i y1), some (sw_i y2), some (sw_i t)] [] h (sw_Qi (fun z h' => mK (prW [67, 79, 83] [262, 270, 271, 272, 273, 274]) h0 h' ∧ (mB h') ∧ (h' 224 100 = h0 224 100)))) ?_ _ _ ?_
  · rintro h1 t_2 ⟨Ih1, jt, jw⟩ ihh1
    try dsimp only at ihh1
    refine sx_iload_n dX12_shortest_2 rfl ?_
    refine sx_bipush dX12_shortest_3 ⟨by decide, by decide, by decide⟩ ?_
    refine sx_icmp_ge (tgt := 21) dX12_shortest_5 (by decide) (fun c3 => ?_) (fun c3 => ?_)
    ·
      have hw : WG h1 := fun t ht => jw t (by omega)
      refine sx_aload_n dX12_shortest_21 rfl ?_
      refine sx_iload_n dX12_shortest_22 rfl ?_
      refine sx_iload_n dX12_shortest_23 rfl ?_
      refine sx_callVz lk_X12_638 cl_12 s_224 (by decide) dX12_shortest_24 (vs := [_, _]) rfl rfl (Nat.le_of_ble_eq_true rfl) (Nat.le_of_ble_eq_true rfl) rfl (c_X12_canTask _ Ih1.1 _ _ (hw)) (fun x5 h4 zx5 ph4 => ?_)
      obtain ⟨Kh4, l_h4, r_h4⟩ := ph4
      have Ih4 := Ih1.tr Kh4 (prW_sub rfl rfl)
      refine sx_if_ne (tgt := 32) dX12_shortest_27 (by decide) (fun c6 => ?_) (fun c6 => ?_)
      ·
        have vx5 : x5 = 1 := by rcases zx5 with q | q; (exact absurd q c6); exact q
        clear zx5
        obtain ⟨s, to, hR⟩ := r_h4 (by omega)
        refine sx_aload_n dX12_shortest_32 rfl ?_
        refine sx_callVv lk_X12_641 cl_12 s_224 (by decide) dX12_shortest_33 (vs := []) rfl rfl (Nat.le_of_ble_eq_true rfl) (Nat.le_of_ble_eq_true rfl) rfl (c_X12_layRow _ Ih4.1 _ _ (hR) (by omega)) (fun h7 ph7 => ?_)
        have Kh7 := ph7
        have Ih7 := Ih4.tr Kh7 (prW_sub rfl rfl)
        refine sx_aload_n dX12_shortest_36 rfl ?_
        refine sx_getI (k := 83) cl_12 fl_X12_516 dX12_shortest_37 s_224 (by decide) rfl (by decide) ?_
        have r9 : (0 : Int) ≤ h7 224 83 ∧ h7 224 83 ≤ 64 := Ih7.1 224 83
        refine sx_ireturn dX12_shortest_40 ?_
        exact ⟨_, rfl, ⟨Ih7, mB_mK Ih7 rfl rfl hJ hB, Ih7.2 224 100 rfl⟩⟩
      ·
        clear zx5
        refine sx_iconst dX12_shortest_30 ⟨by decide, by decide⟩ ?_
        refine sx_ireturn dX12_shortest_31 ?_
        exact ⟨_, rfl, ⟨Ih4, mB_mK Ih4 rfl rfl hJ hB, Ih4.2 224 100 rfl⟩⟩
    ·
      refine sx_aload_n dX12_shortest_8 rfl ?_
      refine sx_getS (k := 81) (t := 273) cl_12 fl_X12_163 dX12_shortest_9 s_224 (by decide) rfl (by decide) ?_
      refine sx_iload_n dX12_shortest_12 rfl ?_
      refine sx_iconst dX12_shortest_13 ⟨by decide, by decide⟩ ?_
      refine sy_iastore dX12_shortest_14 s_273 (by decide) (by decide) ⟨by omega, by omega⟩ (fun h10 eh10 => ?_)
      have Ih10 := Ih1.up eh10 trivial rfl
      have th10_224_83 := eh10.2 (224) 83 (fun q => absurd q.1 (by decide))
      have jw2 : ∀ j : Nat, (j : Int) < t_2 + 1 → 1 ≤ h10 273 j ∧ h10 273 j ≤ 99001 := fun j hj => by rw [eh10.at 273 j]; simp only [true_and]; by_cases q : j = (t_2).toNat; (rw [if_pos q]; omega); (rw [if_neg q]; exact jw j (by omega))
      refine sx_iinc dX12_shortest_15 (by decide) rfl ?_
      rw [sw_w_id (by omega) (by omega)]
      refine sx_goto (tgt := 2) dX12_shortest_18 (by decide) ?_
      exact ihh1 _ _ ⟨Ih10, by omega, by exact jw2⟩ (by exact sy_dec (by omega) (by omega))
  · exact ⟨hI, by omega, by (intro j hj; omega)⟩
set_option maxRecDepth 20000 in
set_option maxHeartbeats 4000000 in
theorem c_X12_cheapest {G : sw_G} (d : Nat) {h0 : sw_H} (hJ : mI h0) (y1 y2 : Int) (hB : mB h0)  : sw_E G NH SH (d + 5) mX12_cheapest 0 [some (sw_r 224), some (sw_i y1), some (sw_i y2), none] [] h0 (sw_Qi (fun z h' => mK (prW [59, 60, 67, 79, 83] [251, 262, 270, 271, 272, 273, 274]) h0 h' ∧ (mB h') ∧ (h' 224 100 = h0 224 100))) := by
  have hI : mK (prW [59, 60, 67, 79, 83] [251, 262, 270, 271, 272, 273, 274]) h0 h0 := mK.refl hJ
  refine sx_iconst dX12_cheapest_0 ⟨by decide, by decide⟩ ?_
  refine sx_istore_n dX12_cheapest_1 (by decide) ?_
  refine sx_loop1 (fun (h : sw_H) (t : Int) => (mK (prW [59, 60, 67, 79, 83] [251, 262, 270, 271, 272, 273, 274]) h0 h) ∧ (0 ≤ t) ∧ (∀ j : Nat, (j : Int) < t → 1 ≤ h 273 j ∧ h 273 j ≤ 99001) ∧ (h 224 85 = -1)) (fun (h : sw_H) (t : Int) => (10 - t).toNat) (fun (h : sw_H) (t : Int) => sw_E G NH SH (d + 5) mX12_cheapest 2 [some (sw_r 224), some (sw_i y1), some (sw_i y2), some (sw_i t)] [] h (sw_Qi (fun z h' => mK (prW [59, 60, 67, 79, 83] [251, 262, 270, 271, 272, 273, 274]) h0 h' ∧ (mB h') ∧ (h' 224 100 = h0 224 100)))) ?_ _ _ ?_
  · rintro h1 t_2 ⟨Ih1, jt, jw, j85⟩ ihh1
    try dsimp only at ihh1
    refine sx_iload_n dX12_cheapest_2 rfl ?_
    refine sx_bipush dX12_cheapest_3 ⟨by decide, by decide, by decide⟩ ?_
    refine sx_icmp_ge (tgt := 32) dX12_cheapest_5 (by decide) (fun c3 => ?_) (fun c3 => ?_)
    ·
      have hw : WG h1 := fun t ht => jw t (by omega)
      refine sx_aload_n dX12_cheapest_32 rfl ?_
      refine sx_iload_n dX12_cheapest_33 rfl ?_
      refine sx_iload_n dX12_cheapest_34 rfl ?_
      refine sx_callVz lk_X12_638 cl_12 s_224 (by decide) dX12_cheapest_35 (vs := [_, _]) rfl rfl (Nat.le_of_ble_eq_true rfl) (Nat.le_of_ble_eq_true rfl) rfl (c_X12_canTask _ Ih1.1 _ _ (hw)) (fun x5 h4 zx5 ph4 => ?_)
      obtain ⟨Kh4, l_h4, r_h4⟩ := ph4
      have Ih4 := Ih1.tr Kh4 (prW_sub rfl rfl)
      have th4_224_85 := Kh4.2 224 85 rfl
      refine sx_if_ne (tgt := 43) dX12_cheapest_38 (by decide) (fun c6 => ?_) (fun c6 => ?_)
      ·
        have vx5 : x5 = 1 := by rcases zx5 with q | q; (exact absurd q c6); exact q
        clear zx5
        obtain ⟨s, to, hR⟩ := r_h4 (by omega)
        refine sx_aload_n dX12_cheapest_43 rfl ?_
        refine sx_callVv lk_X12_641 cl_12 s_224 (by decide) dX12_cheapest_44 (vs := []) rfl rfl (Nat.le_of_ble_eq_true rfl) (Nat.le_of_ble_eq_true rfl) rfl (c_X12_layRow _ Ih4.1 _ _ (hR) (by omega)) (fun h7 ph7 => ?_)
        have Kh7 := ph7
        have Ih7 := Ih4.tr Kh7 (prW_sub rfl rfl)
        have th7_224_85 := Kh7.2 224 85 rfl
        refine sx_aload_n dX12_cheapest_47 rfl ?_
        refine sx_getS (k := 78) (t := 271) cl_12 fl_X12_157 dX12_cheapest_48 s_224 (by decide) rfl (by decide) ?_
        refine sx_iconst dX12_cheapest_51 ⟨by decide, by decide⟩ ?_
        refine sx_iaload dX12_cheapest_52 s_271 (by decide) (by decide) ⟨by omega, by omega⟩ ?_
        refine sx_sipush dX12_cheapest_53 ⟨by decide, by decide, by decide⟩ ?_
        refine sx_idiv dX12_cheapest_56 (by decide) ?_
        refine sx_ireturn dX12_cheapest_57 ?_
        exact ⟨_, rfl, ⟨Ih7, mB_mK Ih7 rfl rfl hJ hB, Ih7.2 224 100 rfl⟩⟩
      ·
        clear zx5
        refine sx_iconst dX12_cheapest_41 ⟨by decide, by decide⟩ ?_
        refine sx_ireturn dX12_cheapest_42 ?_
        exact ⟨_, rfl, ⟨Ih4, mB_mK Ih4 rfl rfl hJ hB, Ih4.2 224 100 rfl⟩⟩
    ·
      refine sx_aload_n dX12_cheapest_8 rfl ?_
      refine sx_getS (k := 81) (t := 273) cl_12 fl_X12_163 dX12_cheapest_9 s_224 (by decide) rfl (by decide) ?_
      refine sx_iload_n dX12_cheapest_12 rfl ?_
      refine sx_sipush dX12_cheapest_13 ⟨by decide, by decide, by decide⟩ ?_
      refine sx_aload_n dX12_cheapest_16 rfl ?_
      refine sx_iconst dX12_cheapest_17 ⟨by decide, by decide⟩ ?_
      refine sx_iload_n dX12_cheapest_18 rfl ?_
      refine sx_callVi lk_X12_644 cl_12 s_224 (by decide) dX12_cheapest_19 (vs := [_, _]) rfl rfl (Nat.le_of_ble_eq_true rfl) (Nat.le_of_ble_eq_true rfl) rfl (c_X12_takesOf _ Ih1.1 _ _ (mC_mK Ih1 rfl rfl hJ hB.1)) (fun x10 h9 ph9 => ?_)
      obtain ⟨Kh9, p_h9⟩ := ph9
      have Ih9 := Ih1.tr Kh9 (prW_sub rfl rfl)
      have th9_224_83 := Kh9.2 224 83 rfl
      have th9_224_85 := Kh9.2 224 85 rfl
      have tq := p_h9 (by omega) rfl
      have jwk : ∀ j : Nat, (j : Int) < t_2 → 1 ≤ h9 273 j ∧ h9 273 j ≤ 99001 := fun j hj => by rw [Kh9.2 273 j rfl]; exact jw j hj
      refine sx_imul dX12_cheapest_22 ?_
      refine sy_topw (by omega) ?_
      refine sx_iconst dX12_cheapest_23 ⟨by decide, by decide⟩ ?_
      refine sx_iadd dX12_cheapest_24 ?_
      refine sy_topw (by omega) ?_
      refine sy_iastore dX12_cheapest_25 s_273 (by decide) (by decide) ⟨by omega, by omega⟩ (fun h11 eh11 => ?_)
      have Ih11 := Ih9.up eh11 trivial rfl
      have th11_224_83 := eh11.2 (224) 83 (fun q => absurd q.1 (by decide))
      have th11_224_85 := eh11.2 (224) 85 (fun q => absurd q.1 (by decide))
      have jw2 : ∀ j : Nat, (j : Int) < t_2 + 1 → 1 ≤ h11 273 j ∧ h11 273 j ≤ 99001 := fun j hj => by rw [eh11.at 273 j]; simp only [true_and]; by_cases q : j = (t_2).toNat; (rw [if_pos q]; omega); (rw [if_neg q]; exact jwk j (by omega))
      refine sx_iinc dX12_cheapest_26 (by decide) rfl ?_
      rw [sw_w_id (by omega) (by omega)]
      refine sx_goto (tgt := 2) dX12_cheapest_29 (by decide) ?_
      exact ihh1 _ _ ⟨Ih11, by omega, by exact jw2, by omega⟩ (by exact sy_dec (by omega) (by omega))
  · exact ⟨hI, by omega, by (intro j hj; omega), by (have q := hB.2.2.2; omega)⟩
set_option maxRecDepth 20000 in
set_option maxHeartbeats 4000000 in
theorem c_X12_shuffled {G : sw_G} (d : Nat) {h0 : sw_H} (hJ : mI h0) (y1 y2 : Int) (hB : mB h0)  : sw_E G NH SH (d + 3) mX12_shuffled 0 [some (sw_r 224), some (sw_i y1), some (sw_i y2), none, none, none] [] h0 (sw_Qi (fun z h' => mK (prW [67] [262]) h0 h' ∧ (mB h') ∧ (h' 224 100 = h0 224 100))) := by
  have hI : mK (prW [67] [262]) h0 h0 := mK.refl hJ
  refine sx_iload_n dX12_shuffled_0 rfl ?_
  refine sx_iconst dX12_shuffled_1 ⟨by decide, by decide⟩ ?_
  refine sx_iconst dX12_shuffled_2 ⟨by decide, by decide⟩ ?_
  refine sx_callSz lk_X12_500 dX12_shuffled_3 (vs := [_, _, _]) rfl rfl (Nat.le_of_ble_eq_true rfl) (Nat.le_of_ble_eq_true rfl) rfl (c_X12_isIn _ hI.1 _ _ _) (fun x2 h1 zx2 ph1 => ?_)
  obtain ⟨rfl, p_x2⟩ := ph1
  refine sx_if_eq (tgt := 20) dX12_shuffled_6 (by decide) (fun c3 => ?_) (fun c3 => ?_)
  ·
    replace p_x2 := mt p_x2.mpr (show ¬ (x2 = 1) by rw [c3]; decide)
    clear zx2
    refine sx_iconst dX12_shuffled_20 ⟨by decide, by decide⟩ ?_
    refine sx_ireturn dX12_shuffled_21 ?_
    exact ⟨_, rfl, ⟨hI, mB_mK hI rfl rfl hJ hB, hI.2 224 100 rfl⟩⟩
  ·
    have vx2 : x2 = 1 := by rcases zx2 with q | q; (exact absurd q c3); exact q
    replace p_x2 := p_x2.mp vx2
    clear zx2
    refine sx_iload_n dX12_shuffled_9 rfl ?_
    refine sx_iconst dX12_shuffled_10 ⟨by decide, by decide⟩ ?_
    refine sx_ldcw kc_X12_647 ⟨by decide, by decide⟩ dX12_shuffled_11 ?_
    refine sx_callSz lk_X12_500 dX12_shuffled_14 (vs := [_, _, _]) rfl rfl (Nat.le_of_ble_eq_true rfl) (Nat.le_of_ble_eq_true rfl) rfl (c_X12_isIn _ hI.1 _ _ _) (fun x5 h4 zx5 ph4 => ?_)
    obtain ⟨rfl, p_x5⟩ := ph4
    refine sx_if_ne (tgt := 22) dX12_shuffled_17 (by decide) (fun c6 => ?_) (fun c6 => ?_)
    ·
      have vx5 : x5 = 1 := by rcases zx5 with q | q; (exact absurd q c6); exact q
      replace p_x5 := p_x5.mp vx5
      clear zx5
      refine sx_iload_n dX12_shuffled_22 rfl ?_
      refine sx_callSi lk_X12_629 dX12_shuffled_23 (vs := [_]) rfl rfl (Nat.le_of_ble_eq_true rfl) (Nat.le_of_ble_eq_true rfl) rfl (c_X12_startOf _ hI.1 _) (fun x8 h7 ph7 => ?_)
      obtain ⟨rfl, p_x8⟩ := ph7
      have vs := V_start p_x8
      have vr := V_rng vs.1
      refine sx_istore_n dX12_shuffled_26 (by decide) ?_
      refine sx_iload_n dX12_shuffled_27 rfl ?_
      refine sx_callSi lk_X12_610 dX12_shuffled_28 (vs := [_]) rfl rfl (Nat.le_of_ble_eq_true rfl) (Nat.le_of_ble_eq_true rfl) rfl (c_X12_digitsOf _ hI.1 _ (by first | omega | (rw [Int.tmod_eq_emod_of_nonneg (by omega)]; omega) | (rw [Int.tdiv_eq_ediv_of_nonneg (by omega)]; omega))) (fun x10 h9 ph9 => ?_)
      obtain ⟨rfl, p_x10⟩ := ph9
      have d7 := dgs_7 y2
      refine sx_iconst dX12_shuffled_31 ⟨by decide, by decide⟩ ?_
      refine sx_isub dX12_shuffled_32 ?_
      refine sy_topw (by omega) ?_
      refine sy_top (fun v11 ev11 => ?_)
      refine sx_istore dX12_shuffled_33 (by decide) ?_
      refine sx_loop2 (fun (h : sw_H) (v : Int) (k : Int) => (mK (prW [67] [262]) h0 h) ∧ (-1 ≤ k) ∧ (k ≤ 6) ∧ (v = -1 ∨ V v) ∧ (-1 ≤ v ∧ v ≤ 99999)) (fun (h : sw_H) (v : Int) (k : Int) => (k + 1).toNat) (fun (h : sw_H) (v : Int) (k : Int) => sw_E G NH SH (d + 3) mX12_shuffled 35 [some (sw_r 224), some (sw_i y1), some (sw_i y2), some (sw_i v), some (sw_i k), none] [] h (sw_Qi (fun z h' => mK (prW [67] [262]) h0 h' ∧ (mB h') ∧ (h' 224 100 = h0 224 100)))) ?_ _ _ _ ?_
      · rintro h12 v_13 k_14 ⟨Ih12, jk, jk6, jv, jv0⟩ ihh12
        try dsimp only at ihh12
        refine sx_iload dX12_shuffled_35 rfl ?_
        refine sx_if_lt (tgt := 89) dX12_shuffled_37 (by decide) (fun c15 => ?_) (fun c15 => ?_)
        ·
          refine sx_iload_n dX12_shuffled_89 rfl ?_
          refine sx_if_lt (tgt := 101) dX12_shuffled_90 (by decide) (fun c16 => ?_) (fun c16 => ?_)
          ·
            refine sx_iconst dX12_shuffled_101 ⟨by decide, by decide⟩ ?_
            refine sx_goto (tgt := 106) dX12_shuffled_102 (by decide) ?_
            refine sx_ireturn dX12_shuffled_106 ?_
            exact ⟨_, rfl, ⟨Ih12, mB_mK Ih12 rfl rfl hJ hB, Ih12.2 224 100 rfl⟩⟩
          ·
            refine sx_iload_n dX12_shuffled_93 rfl ?_
            refine sx_callSi lk_X12_610 dX12_shuffled_94 (vs := [_]) rfl rfl (Nat.le_of_ble_eq_true rfl) (Nat.le_of_ble_eq_true rfl) rfl (c_X12_digitsOf _ Ih12.1 _ (by first | omega | (rw [Int.tmod_eq_emod_of_nonneg (by omega)]; omega) | (rw [Int.tdiv_eq_ediv_of_nonneg (by omega)]; omega))) (fun x18 h17 ph17 => ?_)
            obtain ⟨rfl, p_x18⟩ := ph17
            refine sx_iconst dX12_shuffled_97 ⟨by decide, by decide⟩ ?_
            refine sx_icmp_le (tgt := 105) dX12_shuffled_98 (by decide) (fun c19 => ?_) (fun c19 => ?_)
            ·
              refine sx_iload_n dX12_shuffled_105 rfl ?_
              refine sx_ireturn dX12_shuffled_106 ?_
              exact ⟨_, rfl, ⟨Ih12, mB_mK Ih12 rfl rfl hJ hB, Ih12.2 224 100 rfl⟩⟩
            ·
              refine sx_iconst dX12_shuffled_101 ⟨by decide, by decide⟩ ?_
              refine sx_goto (tgt := 106) dX12_shuffled_102 (by decide) ?_
              refine sx_ireturn dX12_shuffled_106 ?_
              exact ⟨_, rfl, ⟨Ih12, mB_mK Ih12 rfl rfl hJ hB, Ih12.2 224 100 rfl⟩⟩
        ·
          refine sx_iload_n dX12_shuffled_40 rfl ?_
          refine sx_if_lt (tgt := 89) dX12_shuffled_41 (by decide) (fun c20 => ?_) (fun c20 => ?_)
          ·
            refine sx_iload_n dX12_shuffled_89 rfl ?_
            refine sx_if_lt (tgt := 101) dX12_shuffled_90 (by decide) (fun c21 => ?_) (fun c21 => ?_)
            ·
              refine sx_iconst dX12_shuffled_101 ⟨by decide, by decide⟩ ?_
              refine sx_goto (tgt := 106) dX12_shuffled_102 (by decide) ?_
              refine sx_ireturn dX12_shuffled_106 ?_
              exact ⟨_, rfl, ⟨Ih12, mB_mK Ih12 rfl rfl hJ hB, Ih12.2 224 100 rfl⟩⟩
            ·
              refine sx_iload_n dX12_shuffled_93 rfl ?_
              refine sx_callSi lk_X12_610 dX12_shuffled_94 (vs := [_]) rfl rfl (Nat.le_of_ble_eq_true rfl) (Nat.le_of_ble_eq_true rfl) rfl (c_X12_digitsOf _ Ih12.1 _ (by first | omega | (rw [Int.tmod_eq_emod_of_nonneg (by omega)]; omega) | (rw [Int.tdiv_eq_ediv_of_nonneg (by omega)]; omega))) (fun x23 h22 ph22 => ?_)
              obtain ⟨rfl, p_x23⟩ := ph22
              refine sx_iconst dX12_shuffled_97 ⟨by decide, by decide⟩ ?_
              refine sx_icmp_le (tgt := 105) dX12_shuffled_98 (by decide) (fun c24 => ?_) (fun c24 => ?_)
              ·
                refine sx_iload_n dX12_shuffled_105 rfl ?_
                refine sx_ireturn dX12_shuffled_106 ?_
                exact ⟨_, rfl, ⟨Ih12, mB_mK Ih12 rfl rfl hJ hB, Ih12.2 224 100 rfl⟩⟩
              ·
                refine sx_iconst dX12_shuffled_101 ⟨by decide, by decide⟩ ?_
                refine sx_goto (tgt := 106) dX12_shuffled_102 (by decide) ?_
                refine sx_ireturn dX12_shuffled_106 ?_
                exact ⟨_, rfl, ⟨Ih12, mB_mK Ih12 rfl rfl hJ hB, Ih12.2 224 100 rfl⟩⟩
          ·
            refine sx_iload_n dX12_shuffled_44 rfl ?_
            refine sx_bipush dX12_shuffled_45 ⟨by decide, by decide, by decide⟩ ?_
            refine sx_iload dX12_shuffled_47 rfl ?_
            refine sx_callSi lk_X12_598 dX12_shuffled_49 (vs := [_, _]) rfl rfl (Nat.le_of_ble_eq_true rfl) (Nat.le_of_ble_eq_true rfl) rfl (c_X12_power _ Ih12.1 _ _ (by first | omega | (rw [Int.tmod_eq_emod_of_nonneg (by omega)]; omega) | (rw [Int.tdiv_eq_ediv_of_nonneg (by omega)]; omega))) (fun x26 h25 ph25 => ?_)
            obtain ⟨rfl, p_x26⟩ := ph25
            have p10 := pw_10 (n := k_14) (by omega) (by omega)
            refine sx_idiv dX12_shuffled_52 (by omega) ?_
            refine sx_bipush dX12_shuffled_53 ⟨by decide, by decide, by decide⟩ ?_
            refine sx_irem dX12_shuffled_55 (by decide) ?_
            refine sx_iconst dX12_shuffled_56 ⟨by decide, by decide⟩ ?_
            refine sx_isub dX12_shuffled_57 ?_
            refine sy_top (fun v27 ev27 => ?_)
            refine sx_istore dX12_shuffled_58 (by decide) ?_
            refine sx_iload dX12_shuffled_60 rfl ?_
            refine sx_iconst dX12_shuffled_62 ⟨by decide, by decide⟩ ?_
            refine sx_bipush dX12_shuffled_63 ⟨by decide, by decide, by decide⟩ ?_
            refine sx_callSz lk_X12_500 dX12_shuffled_65 (vs := [_, _, _]) rfl rfl (Nat.le_of_ble_eq_true rfl) (Nat.le_of_ble_eq_true rfl) rfl (c_X12_isIn _ Ih12.1 _ _ _) (fun x29 h28 zx29 ph28 => ?_)
            obtain ⟨rfl, p_x29⟩ := ph28
            refine sx_if_eq (tgt := 81) dX12_shuffled_68 (by decide) (fun c30 => ?_) (fun c30 => ?_)
            ·
              replace p_x29 := mt p_x29.mpr (show ¬ (x29 = 1) by rw [c30]; decide)
              clear zx29
              refine sx_iconst dX12_shuffled_81 ⟨by decide, by decide⟩ ?_
              refine sx_istore_n dX12_shuffled_82 (by decide) ?_
              refine sx_iinc dX12_shuffled_83 (by decide) rfl ?_
              rw [sw_w_id (by omega) (by omega)]
              refine sx_goto (tgt := 35) dX12_shuffled_86 (by decide) ?_
              refine sx_kill 5 ?_
              exact ihh12 _ _ _ ⟨Ih12, by omega, by omega, by first | exact jv2 | exact Or.inl rfl, by omega⟩ (by exact sy_dec (by omega) (by omega))
            ·
              have vx29 : x29 = 1 := by rcases zx29 with q | q; (exact absurd q c30); exact q
              replace p_x29 := p_x29.mp vx29
              clear zx29
              refine sx_aload_n dX12_shuffled_71 rfl ?_
              refine sx_iload_n dX12_shuffled_72 rfl ?_
              refine sx_iload dX12_shuffled_73 rfl ?_
              refine sx_callVi lk_X12_616 cl_12 s_224 (by decide) dX12_shuffled_75 (vs := [_, _]) rfl rfl (Nat.le_of_ble_eq_true rfl) (Nat.le_of_ble_eq_true rfl) rfl (c_X12_shuffledBy _ Ih12.1 _ _ (jv.resolve_left (by omega)) (by omega)) (fun x32 h31 ph31 => ?_)
              obtain ⟨Kh31, z_h31⟩ := ph31
              have Ih31 := Ih12.tr Kh31 (prW_sub rfl rfl)
              have jv2 : x32 = -1 ∨ V x32 := by rw [z_h31]; exact shI_V (jv.resolve_left (by omega)) (by omega)
              have jvr : -1 ≤ x32 ∧ x32 ≤ 99999 := by rcases jv2 with q | q; omega; (have := V_rng q; omega)
              refine sx_goto (tgt := 82) dX12_shuffled_78 (by decide) ?_
              refine sx_istore_n dX12_shuffled_82 (by decide) ?_
              refine sx_iinc dX12_shuffled_83 (by decide) rfl ?_
              rw [sw_w_id (by omega) (by omega)]
              refine sx_goto (tgt := 35) dX12_shuffled_86 (by decide) ?_
              refine sx_kill 5 ?_
              exact ihh12 _ _ _ ⟨Ih31, by omega, by omega, by first | exact jv2 | exact Or.inl rfl, by omega⟩ (by exact sy_dec (by omega) (by omega))
      · exact ⟨hI, by omega, by omega, by exact Or.inr vs.1, by omega⟩
    ·
      replace p_x5 := mt p_x5.mpr (show ¬ (x5 = 1) by rw [c6]; decide)
      clear zx5
      refine sx_iconst dX12_shuffled_20 ⟨by decide, by decide⟩ ?_
      refine sx_ireturn dX12_shuffled_21 ?_
      exact ⟨_, rfl, ⟨hI, mB_mK hI rfl rfl hJ hB, hI.2 224 100 rfl⟩⟩
set_option maxRecDepth 20000 in
set_option maxHeartbeats 4000000 in
theorem c_X12_runBy {G : sw_G} (d : Nat) {h0 : sw_H} (hJ : mI h0) (y1 y2 y3 : Int) (hC : mC h0) (hw : 0 ≤ y1 ∧ y1 < h0 227 (h0 224 36).toNat) (hf : 0 ≤ y2 ∧ 0 ≤ y3 ∧ y3 ≤ 6 ∧ y2 + y3 ≤ h0 234 (6 * h0 224 36 + y1).toNat) (hsh : ∀ i : Int, y2 ≤ i → i < y2 + y3 → 0 ≤ h0 241 (60 * h0 224 36 + h0 233 (6 * h0 224 36 + y1).toNat + i).toNat ∧ h0 241 (60 * h0 224 36 + h0 233 (6 * h0 224 36 + y1).toNat + i).toNat < 7)  : sw_E G NH SH (d + 3) mX12_runBy 0 [some (sw_r 224), some (sw_i y1), some (sw_i y2), some (sw_i y3), none, none, none] [] h0 (sw_Qi (fun z h' => mK (prW [67, 84] [262]) h0 h' ∧ ((z = -1 ∨ V z) ∧ -1 ≤ z ∧ z ≤ 99999) ∧ (0 ≤ z → 0 ≤ h' 224 84 ∧ h' 224 84 ≤ 3))) := by
  have hI : mK (prW [67, 84] [262]) h0 h0 := mK.refl hJ
  obtain ⟨wr1, wr2, wr3, wr4⟩ := mC_w hC hJ (w := y1) (by omega) (by omega)
  have rb36 : (0 : Int) ≤ h0 224 36 ∧ h0 224 36 ≤ 1 := hJ 224 36
  refine sx_aload_n dX12_runBy_0 rfl ?_
  refine sx_iconst dX12_runBy_1 ⟨by decide, by decide⟩ ?_
  refine sy_putI (k := 84) cl_12 fl_X12_648 dX12_runBy_2 s_224 (by decide) rfl (by decide) rfl rfl (fun h1 eh1 => ?_)
  have Ih1 := hI.up eh1 trivial rfl
  have th1_224_84 := eh1.1
  refine sx_iconst dX12_runBy_5 ⟨by decide, by decide⟩ ?_
  refine sx_istore dX12_runBy_6 (by decide) ?_
  refine sx_iload_n dX12_runBy_8 rfl ?_
  refine sx_istore dX12_runBy_9 (by decide) ?_
  refine sx_loop2 (fun (h : sw_H) (high : Int) (i : Int) => (mK (prW [67, 84] [262]) h0 h) ∧ (y2 ≤ i) ∧ (i ≤ y2 + y3) ∧ (-3 * (i - y2) ≤ high) ∧ (high ≤ 3 * (i - y2)) ∧ (0 ≤ h 224 84) ∧ (h 224 84 ≤ 3 + 3 * (i - y2))) (fun (h : sw_H) (high : Int) (i : Int) => (100 - i).toNat) (fun (h : sw_H) (high : Int) (i : Int) => sw_E G NH SH (d + 3) mX12_runBy 11 [some (sw_r 224), some (sw_i y1), some (sw_i y2), some (sw_i y3), some (sw_i high), some (sw_i i), none] [] h (sw_Qi (fun z h' => mK (prW [67, 84] [262]) h0 h' ∧ ((z = -1 ∨ V z) ∧ -1 ≤ z ∧ z ≤ 99999) ∧ (0 ≤ z → 0 ≤ h' 224 84 ∧ h' 224 84 ≤ 3)))) ?_ _ _ _ ?_
  · rintro h2 high_3 i_4 ⟨Ih2, j5, j6, j7, j8, j9, j10⟩ ihh2
    try dsimp only at ihh2
    refine sx_iload dX12_runBy_11 rfl ?_
    refine sx_iload_n dX12_runBy_13 rfl ?_
    refine sx_iload_n dX12_runBy_14 rfl ?_
    refine sx_iadd dX12_runBy_15 ?_
    refine sy_topw (by omega) ?_
    refine sx_icmp_ge (tgt := 74) dX12_runBy_16 (by decide) (fun c11 => ?_) (fun c11 => ?_)
    ·
      refine sx_aload_n dX12_runBy_74 rfl ?_
      refine sx_getI (k := 84) cl_12 fl_X12_648 dX12_runBy_75 s_224 (by decide) rfl (by decide) ?_
      refine sx_iconst dX12_runBy_78 ⟨by decide, by decide⟩ ?_
      refine sx_icmp_le (tgt := 84) dX12_runBy_79 (by decide) (fun c12 => ?_) (fun c12 => ?_)
      ·
        refine sx_aload_n dX12_runBy_84 rfl ?_
        refine sx_getI (k := 84) cl_12 fl_X12_648 dX12_runBy_85 s_224 (by decide) rfl (by decide) ?_
        refine sx_callSi lk_X12_629 dX12_runBy_88 (vs := [_]) rfl rfl (Nat.le_of_ble_eq_true rfl) (Nat.le_of_ble_eq_true rfl) rfl (c_X12_startOf _ Ih2.1 _) (fun x14 h13 ph13 => ?_)
        obtain ⟨rfl, p_x14⟩ := ph13
        have vs := V_start p_x14
        have vr := V_rng vs.1
        refine sx_istore dX12_runBy_91 (by decide) ?_
        refine sx_iload_n dX12_runBy_93 rfl ?_
        refine sx_istore dX12_runBy_94 (by decide) ?_
        refine sx_loop2 (fun (h : sw_H) (v : Int) (i : Int) => (mK (prW [67, 84] [262]) h0 h) ∧ (y2 ≤ i) ∧ (i ≤ y2 + y3) ∧ (v = -1 ∨ V v) ∧ (-1 ≤ v ∧ v ≤ 99999) ∧ (0 ≤ h 224 84) ∧ (h 224 84 ≤ 3)) (fun (h : sw_H) (v : Int) (i : Int) => (100 - i).toNat) (fun (h : sw_H) (v : Int) (i : Int) => sw_E G NH SH (d + 3) mX12_runBy 96 [some (sw_r 224), some (sw_i y1), some (sw_i y2), some (sw_i y3), some (sw_i high_3), some (sw_i v), some (sw_i i)] [] h (sw_Qi (fun z h' => mK (prW [67, 84] [262]) h0 h' ∧ ((z = -1 ∨ V z) ∧ -1 ≤ z ∧ z ≤ 99999) ∧ (0 ≤ z → 0 ≤ h' 224 84 ∧ h' 224 84 ≤ 3)))) ?_ _ _ _ ?_
        · rintro h15 v_16 i_17 ⟨Ih15, ji, ji2, jv, jvr, j84, j84b⟩ ihh15
          try dsimp only at ihh15
          refine sx_iload dX12_runBy_96 rfl ?_
          refine sx_iload_n dX12_runBy_98 rfl ?_
          refine sx_iload_n dX12_runBy_99 rfl ?_
          refine sx_iadd dX12_runBy_100 ?_
          refine sy_topw (by omega) ?_
          refine sx_icmp_ge (tgt := 135) dX12_runBy_101 (by decide) (fun c18 => ?_) (fun c18 => ?_)
          ·
            refine sx_iload dX12_runBy_135 rfl ?_
            refine sx_if_lt (tgt := 149) dX12_runBy_137 (by decide) (fun c19 => ?_) (fun c19 => ?_)
            ·
              refine sx_iconst dX12_runBy_149 ⟨by decide, by decide⟩ ?_
              refine sx_goto (tgt := 155) dX12_runBy_150 (by decide) ?_
              refine sx_ireturn dX12_runBy_155 ?_
              exact ⟨_, rfl, ⟨Ih15, by first | exact ⟨jv, by omega, by omega⟩ | exact ⟨Or.inl rfl, by omega, by omega⟩, fun q => by omega⟩⟩
            ·
              refine sx_iload dX12_runBy_140 rfl ?_
              refine sx_callSi lk_X12_610 dX12_runBy_142 (vs := [_]) rfl rfl (Nat.le_of_ble_eq_true rfl) (Nat.le_of_ble_eq_true rfl) rfl (c_X12_digitsOf _ Ih15.1 _ (by first | omega | (rw [Int.tmod_eq_emod_of_nonneg (by omega)]; omega) | (rw [Int.tdiv_eq_ediv_of_nonneg (by omega)]; omega))) (fun x21 h20 ph20 => ?_)
              obtain ⟨rfl, p_x21⟩ := ph20
              refine sx_iconst dX12_runBy_145 ⟨by decide, by decide⟩ ?_
              refine sx_icmp_le (tgt := 153) dX12_runBy_146 (by decide) (fun c22 => ?_) (fun c22 => ?_)
              ·
                refine sx_iload dX12_runBy_153 rfl ?_
                refine sx_ireturn dX12_runBy_155 ?_
                exact ⟨_, rfl, ⟨Ih15, by first | exact ⟨jv, by omega, by omega⟩ | exact ⟨Or.inl rfl, by omega, by omega⟩, fun q => by omega⟩⟩
              ·
                refine sx_iconst dX12_runBy_149 ⟨by decide, by decide⟩ ?_
                refine sx_goto (tgt := 155) dX12_runBy_150 (by decide) ?_
                refine sx_ireturn dX12_runBy_155 ?_
                exact ⟨_, rfl, ⟨Ih15, by first | exact ⟨jv, by omega, by omega⟩ | exact ⟨Or.inl rfl, by omega, by omega⟩, fun q => by omega⟩⟩
          ·
            refine sx_iload dX12_runBy_104 rfl ?_
            refine sx_if_lt (tgt := 135) dX12_runBy_106 (by decide) (fun c23 => ?_) (fun c23 => ?_)
            ·
              refine sx_iload dX12_runBy_135 rfl ?_
              refine sx_if_lt (tgt := 149) dX12_runBy_137 (by decide) (fun c24 => ?_) (fun c24 => ?_)
              ·
                refine sx_iconst dX12_runBy_149 ⟨by decide, by decide⟩ ?_
                refine sx_goto (tgt := 155) dX12_runBy_150 (by decide) ?_
                refine sx_ireturn dX12_runBy_155 ?_
                exact ⟨_, rfl, ⟨Ih15, by first | exact ⟨jv, by omega, by omega⟩ | exact ⟨Or.inl rfl, by omega, by omega⟩, fun q => by omega⟩⟩
              ·
                refine sx_iload dX12_runBy_140 rfl ?_
                refine sx_callSi lk_X12_610 dX12_runBy_142 (vs := [_]) rfl rfl (Nat.le_of_ble_eq_true rfl) (Nat.le_of_ble_eq_true rfl) rfl (c_X12_digitsOf _ Ih15.1 _ (by first | omega | (rw [Int.tmod_eq_emod_of_nonneg (by omega)]; omega) | (rw [Int.tdiv_eq_ediv_of_nonneg (by omega)]; omega))) (fun x26 h25 ph25 => ?_)
                obtain ⟨rfl, p_x26⟩ := ph25
                refine sx_iconst dX12_runBy_145 ⟨by decide, by decide⟩ ?_
                refine sx_icmp_le (tgt := 153) dX12_runBy_146 (by decide) (fun c27 => ?_) (fun c27 => ?_)
                ·
                  refine sx_iload dX12_runBy_153 rfl ?_
                  refine sx_ireturn dX12_runBy_155 ?_
                  exact ⟨_, rfl, ⟨Ih15, by first | exact ⟨jv, by omega, by omega⟩ | exact ⟨Or.inl rfl, by omega, by omega⟩, fun q => by omega⟩⟩
                ·
                  refine sx_iconst dX12_runBy_149 ⟨by decide, by decide⟩ ?_
                  refine sx_goto (tgt := 155) dX12_runBy_150 (by decide) ?_
                  refine sx_ireturn dX12_runBy_155 ?_
                  exact ⟨_, rfl, ⟨Ih15, by first | exact ⟨jv, by omega, by omega⟩ | exact ⟨Or.inl rfl, by omega, by omega⟩, fun q => by omega⟩⟩
            ·
              have sI := hsh i_17 (by omega) (by omega)
              have w41 : h15 241 (60 * h0 224 36 + h0 233 (6 * h0 224 36 + y1).toNat + i_17).toNat = h0 241 (60 * h0 224 36 + h0 233 (6 * h0 224 36 + y1).toNat + i_17).toNat := Ih15.2 241 _ rfl
              refine sx_aload_n dX12_runBy_109 rfl ?_
              refine sx_iload dX12_runBy_110 rfl ?_
              refine sx_aload_n dX12_runBy_112 rfl ?_
              refine sx_getS (k := 25) (t := 241) cl_12 fl_X12_63 dX12_runBy_113 s_224 (by decide) rfl (by decide) ?_
              refine sx_aload_n dX12_runBy_116 rfl ?_
              refine sx_iload_n dX12_runBy_117 rfl ?_
              refine sx_iload dX12_runBy_118 rfl ?_
              refine sx_callVi lk_X12_519 cl_12 s_224 (by decide) dX12_runBy_120 (vs := [_, _]) rfl rfl (Nat.le_of_ble_eq_true rfl) (Nat.le_of_ble_eq_true rfl) rfl (c_X12_itemOf _ Ih15.1 _ _ (by first | omega | (rw [Int.tmod_eq_emod_of_nonneg (by omega)]; omega) | (rw [Int.tdiv_eq_ediv_of_nonneg (by omega)]; omega)) (by first | omega | (rw [Int.tmod_eq_emod_of_nonneg (by omega)]; omega) | (rw [Int.tdiv_eq_ediv_of_nonneg (by omega)]; omega))) (fun x29 h28 ph28 => ?_)
              obtain ⟨rfl, p_x29⟩ := ph28
              obtain ⟨qn, -, -⟩ := p_x29
              rw [Ih15.2 224 36 rfl, Ih15.2 233 _ rfl] at qn
              subst qn
              refine sy_iaF (F := fun z => (0 : Int) ≤ z ∧ z ≤ 9999) dX12_runBy_123 s_241 (by decide) (by decide) ⟨by omega, by omega⟩ (Ih15.1 241 _) (fun r30 => ?_)
              refine sx_callVi lk_X12_616 cl_12 s_224 (by decide) dX12_runBy_124 (vs := [_, _]) rfl rfl (Nat.le_of_ble_eq_true rfl) (Nat.le_of_ble_eq_true rfl) rfl (c_X12_shuffledBy _ Ih15.1 _ _ (jv.resolve_left (by omega)) (by omega)) (fun x32 h31 ph31 => ?_)
              obtain ⟨Kh31, z_h31⟩ := ph31
              have Ih31 := Ih15.tr Kh31 (prW_sub rfl rfl)
              have th31_224_84 := Kh31.2 224 84 rfl
              have jv2 : x32 = -1 ∨ V x32 := by rw [z_h31]; exact shI_V (jv.resolve_left (by omega)) (by omega)
              have jvr2 : -1 ≤ x32 ∧ x32 ≤ 99999 := by rcases jv2 with q | q; omega; (have := V_rng q; omega)
              refine sx_istore dX12_runBy_127 (by decide) ?_
              refine sx_iinc dX12_runBy_129 (by decide) rfl ?_
              rw [sw_w_id (by omega) (by omega)]
              refine sx_goto (tgt := 96) dX12_runBy_132 (by decide) ?_
              exact ihh15 _ _ _ ⟨Ih31, by omega, by omega, by exact jv2, by omega, by omega, by omega⟩ (by exact sy_dec (by omega) (by omega))
        · exact ⟨Ih2, by omega, by omega, by exact Or.inr vs.1, by omega, by omega, by omega⟩
      ·
        refine sx_iconst dX12_runBy_82 ⟨by decide, by decide⟩ ?_
        refine sx_ireturn dX12_runBy_83 ?_
        exact ⟨_, rfl, ⟨Ih2, ⟨Or.inl rfl, by omega, by omega⟩, fun q => absurd q (by decide)⟩⟩
    ·
      have sI := hsh i_4 (by omega) (by omega)
      have w41 : h2 241 (60 * h0 224 36 + h0 233 (6 * h0 224 36 + y1).toNat + i_4).toNat = h0 241 (60 * h0 224 36 + h0 233 (6 * h0 224 36 + y1).toNat + i_4).toNat := Ih2.2 241 _ rfl
      refine sx_aload_n dX12_runBy_19 rfl ?_
      refine sx_getS (k := 25) (t := 241) cl_12 fl_X12_63 dX12_runBy_20 s_224 (by decide) rfl (by decide) ?_
      refine sx_aload_n dX12_runBy_23 rfl ?_
      refine sx_iload_n dX12_runBy_24 rfl ?_
      refine sx_iload dX12_runBy_25 rfl ?_
      refine sx_callVi lk_X12_519 cl_12 s_224 (by decide) dX12_runBy_27 (vs := [_, _]) rfl rfl (Nat.le_of_ble_eq_true rfl) (Nat.le_of_ble_eq_true rfl) rfl (c_X12_itemOf _ Ih2.1 _ _ (by first | omega | (rw [Int.tmod_eq_emod_of_nonneg (by omega)]; omega) | (rw [Int.tdiv_eq_ediv_of_nonneg (by omega)]; omega)) (by first | omega | (rw [Int.tmod_eq_emod_of_nonneg (by omega)]; omega) | (rw [Int.tdiv_eq_ediv_of_nonneg (by omega)]; omega))) (fun x34 h33 ph33 => ?_)
      obtain ⟨rfl, p_x34⟩ := ph33
      obtain ⟨qn, -, -⟩ := p_x34
      rw [Ih2.2 224 36 rfl, Ih2.2 233 _ rfl] at qn
      subst qn
      refine sy_iaF (F := fun z => (0 : Int) ≤ z ∧ z ≤ 9999) dX12_runBy_30 s_241 (by decide) (by decide) ⟨by omega, by omega⟩ (Ih2.1 241 _) (fun r35 => ?_)
      refine sy_top (fun v36 ev36 => ?_)
      refine sx_istore dX12_runBy_31 (by decide) ?_
      have tkb : 0 ≤ tk v36 ∧ tk v36 ≤ 3 := by unfold tk; omega
      have ldb : 0 ≤ ld v36 ∧ ld v36 ≤ 3 := by unfold ld; omega
      refine sx_aload_n dX12_runBy_33 rfl ?_
      refine sx_aload_n dX12_runBy_34 rfl ?_
      refine sx_getI (k := 84) cl_12 fl_X12_648 dX12_runBy_35 s_224 (by decide) rfl (by decide) ?_
      refine sx_iload dX12_runBy_38 rfl ?_
      refine sx_callSi lk_X12_443 dX12_runBy_40 (vs := [_]) rfl rfl (Nat.le_of_ble_eq_true rfl) (Nat.le_of_ble_eq_true rfl) rfl (c_X12_taken _ Ih2.1 _) (fun x38 h37 ph37 => ?_)
      obtain ⟨rfl, p_x38⟩ := ph37
      refine sx_iload dX12_runBy_43 rfl ?_
      refine sx_isub dX12_runBy_45 ?_
      refine sy_topw (by omega) ?_
      refine sx_callSi lk_X12_588 dX12_runBy_46 (vs := [_, _]) rfl rfl (Nat.le_of_ble_eq_true rfl) (Nat.le_of_ble_eq_true rfl) rfl (c_X12_more _ Ih2.1 _ _) (fun x40 h39 ph39 => ?_)
      obtain ⟨rfl, p_x40⟩ := ph39
      refine sy_putI (k := 84) cl_12 fl_X12_648 dX12_runBy_49 s_224 (by decide) rfl (by decide) rfl rfl (fun h41 eh41 => ?_)
      have Ih41 := Ih2.up eh41 trivial rfl
      have th41_224_84 := eh41.1
      refine sx_iload dX12_runBy_52 rfl ?_
      refine sx_iload dX12_runBy_54 rfl ?_
      refine sx_callSi lk_X12_446 dX12_runBy_56 (vs := [_]) rfl rfl (Nat.le_of_ble_eq_true rfl) (Nat.le_of_ble_eq_true rfl) rfl (c_X12_laidBy _ Ih41.1 _) (fun x43 h42 ph42 => ?_)
      obtain ⟨rfl, p_x43⟩ := ph42
      refine sx_iload dX12_runBy_59 rfl ?_
      refine sx_callSi lk_X12_443 dX12_runBy_61 (vs := [_]) rfl rfl (Nat.le_of_ble_eq_true rfl) (Nat.le_of_ble_eq_true rfl) rfl (c_X12_taken _ Ih41.1 _) (fun x45 h44 ph44 => ?_)
      obtain ⟨rfl, p_x45⟩ := ph44
      refine sx_isub dX12_runBy_64 ?_
      refine sy_topw (by omega) ?_
      refine sx_iadd dX12_runBy_65 ?_
      refine sy_topw (by omega) ?_
      refine sy_top (fun v46 ev46 => ?_)
      refine sx_istore dX12_runBy_66 (by decide) ?_
      refine sx_iinc dX12_runBy_68 (by decide) rfl ?_
      rw [sw_w_id (by omega) (by omega)]
      refine sx_goto (tgt := 11) dX12_runBy_71 (by decide) ?_
      refine sx_kill 6 ?_
      exact ihh2 _ _ _ ⟨Ih41, by omega, by omega, by omega, by omega, by omega, by omega⟩ (by exact sy_dec (by omega) (by omega))
  · exact ⟨Ih1, by omega, by omega, by omega, by omega, by omega, by omega⟩
set_option maxRecDepth 20000 in
set_option maxHeartbeats 4000000 in
theorem c_X12_tidy {G : sw_G} (d : Nat) {h0 : sw_H} (hJ : mI h0) (y1 : Int) (hB : mB h0)  : sw_E G NH SH (d + 5) mX12_tidy 0 [some (sw_r 224), some (sw_i y1), none, none, none, none, none, none] [] h0 (sw_Qi (fun z h' => mK (prW [67, 79, 83, 84] [262, 270, 271, 272, 273]) h0 h' ∧ (mB h') ∧ (h' 224 100 = h0 224 100))) := by
  have hI : mK (prW [67, 79, 83, 84] [262, 270, 271, 272, 273]) h0 h0 := mK.refl hJ
  refine sx_aload_n dX12_tidy_0 rfl ?_
  refine sx_iload_n dX12_tidy_1 rfl ?_
  refine sx_callVz lk_X12_570 cl_12 s_224 (by decide) dX12_tidy_2 (vs := [_]) rfl rfl (Nat.le_of_ble_eq_true rfl) (Nat.le_of_ble_eq_true rfl) rfl (c_X12_isOne _ hI.1 _) (fun x2 h1 zx2 ph1 => ?_)
  obtain ⟨rfl, p_x2⟩ := ph1
  refine sx_if_ne (tgt := 10) dX12_tidy_5 (by decide) (fun c3 => ?_) (fun c3 => ?_)
  ·
    have vx2 : x2 = 1 := by rcases zx2 with q | q; (exact absurd q c3); exact q
    replace p_x2 := p_x2.mp vx2
    clear zx2
    obtain ⟨wr1, wr2, wr3, wr4⟩ := mC_w hB.1 hJ (w := y1) (by omega) (by omega)
    refine sx_iconst dX12_tidy_10 ⟨by decide, by decide⟩ ?_
    refine sx_istore_n dX12_tidy_11 (by decide) ?_
    refine sx_loop1 (fun (h : sw_H) (t : Int) => (mK (prW [67, 79, 83, 84] [262, 270, 271, 272, 273]) h0 h) ∧ (0 ≤ t) ∧ (∀ j : Nat, (j : Int) < t → 1 ≤ h 273 j ∧ h 273 j ≤ 99001)) (fun (h : sw_H) (t : Int) => (10 - t).toNat) (fun (h : sw_H) (t : Int) => sw_E G NH SH (d + 5) mX12_tidy 12 [some (sw_r 224), some (sw_i y1), some (sw_i t), none, none, none, none, none] [] h (sw_Qi (fun z h' => mK (prW [67, 79, 83, 84] [262, 270, 271, 272, 273]) h0 h' ∧ (mB h') ∧ (h' 224 100 = h0 224 100)))) ?_ _ _ ?_
    · rintro h4 t_5 ⟨Ih4, jt, jw⟩ ihh4
      try dsimp only at ihh4
      refine sx_iload_n dX12_tidy_12 rfl ?_
      refine sx_bipush dX12_tidy_13 ⟨by decide, by decide, by decide⟩ ?_
      refine sx_icmp_ge (tgt := 31) dX12_tidy_15 (by decide) (fun c6 => ?_) (fun c6 => ?_)
      ·
        have rl : (0 : Int) ≤ h4 224 83 ∧ h4 224 83 ≤ 64 := Ih4.1 224 83
        refine sx_aload_n dX12_tidy_31 rfl ?_
        refine sx_getI (k := 83) cl_12 fl_X12_516 dX12_tidy_32 s_224 (by decide) rfl (by decide) ?_
        have r7 : (0 : Int) ≤ h4 224 83 ∧ h4 224 83 ≤ 64 := Ih4.1 224 83
        refine sy_top (fun v8 ev8 => ?_)
        refine sx_istore_n dX12_tidy_35 (by decide) ?_
        refine sx_iconst dX12_tidy_36 ⟨by decide, by decide⟩ ?_
        refine sx_istore_n dX12_tidy_37 (by decide) ?_
        refine sx_iconst dX12_tidy_38 ⟨by decide, by decide⟩ ?_
        refine sx_istore dX12_tidy_39 (by decide) ?_
        refine sx_loop2 (fun (h : sw_H) (less : Int) (i : Int) => (mK (prW [67, 79, 83, 84] [262, 270, 271, 272, 273]) h0 h) ∧ (0 ≤ i) ∧ (i ≤ h0 234 (6 * h0 224 36 + y1).toNat) ∧ (∀ j : Nat, j < 7 → 1 ≤ h 273 j ∧ h 273 j ≤ 99001)) (fun (h : sw_H) (less : Int) (i : Int) => (100 - i).toNat) (fun (h : sw_H) (less : Int) (i : Int) => sw_E G NH SH (d + 5) mX12_tidy 41 [some (sw_r 224), some (sw_i y1), some (sw_i v8), some (sw_i less), some (sw_i i), none, none, none] [] h (sw_Qi (fun z h' => mK (prW [67, 79, 83, 84] [262, 270, 271, 272, 273]) h0 h' ∧ (mB h') ∧ (h' 224 100 = h0 224 100)))) ?_ _ _ _ ?_
        · rintro h9 less_10 i_11 ⟨Ih9, ji, jm, jw7⟩ ihh9
          try dsimp only at ihh9
          refine sx_iload dX12_tidy_41 rfl ?_
          refine sx_aload_n dX12_tidy_43 rfl ?_
          refine sx_iload_n dX12_tidy_44 rfl ?_
          refine sx_callVi lk_X12_546 cl_12 s_224 (by decide) dX12_tidy_45 (vs := [_]) rfl rfl (Nat.le_of_ble_eq_true rfl) (Nat.le_of_ble_eq_true rfl) rfl (c_X12_manyIn _ Ih9.1 _ (by first | omega | (rw [Int.tmod_eq_emod_of_nonneg (by omega)]; omega) | (rw [Int.tdiv_eq_ediv_of_nonneg (by omega)]; omega))) (fun x13 h12 ph12 => ?_)
          obtain ⟨rfl, p_x13⟩ := ph12
          rw [Ih9.2 224 36 rfl, Ih9.2 234 _ rfl] at p_x13
          refine sx_icmp_ge (tgt := 169) dX12_tidy_48 (by decide) (fun c14 => ?_) (fun c14 => ?_)
          ·
            refine sx_aload_n dX12_tidy_169 rfl ?_
            refine sx_iload_n dX12_tidy_170 rfl ?_
            refine sy_putI (k := 83) cl_12 fl_X12_516 dX12_tidy_171 s_224 (by decide) rfl (by decide) rfl rfl (fun h15 eh15 => ?_)
            have Ih15 := Ih9.up eh15 (show (0 : Int) ≤ _ ∧ _ ≤ (64 : Int) from ⟨by omega, by omega⟩) rfl
            have th15_224_83 := eh15.1
            have th15_224_84 := eh15.2 (224) 84 (by decide)
            refine sx_iload_n dX12_tidy_174 rfl ?_
            refine sx_ireturn dX12_tidy_175 ?_
            exact ⟨_, rfl, ⟨Ih15, mB_mK Ih15 rfl rfl hJ hB, Ih15.2 224 100 rfl⟩⟩
          ·
            refine sx_iconst dX12_tidy_51 ⟨by decide, by decide⟩ ?_
            refine sx_istore dX12_tidy_52 (by decide) ?_
            refine sx_loop1 (fun (h : sw_H) (n : Int) => (h9 = h) ∧ (0 ≤ n) ∧ (n ≤ 6) ∧ (i_11 + n ≤ h0 234 (6 * h0 224 36 + y1).toNat) ∧ (∀ j : Int, i_11 ≤ j → j < i_11 + n → 0 ≤ h0 241 (60 * h0 224 36 + h0 233 (6 * h0 224 36 + y1).toNat + j).toNat ∧ h0 241 (60 * h0 224 36 + h0 233 (6 * h0 224 36 + y1).toNat + j).toNat < 7)) (fun (h : sw_H) (n : Int) => (10 - n).toNat) (fun (h : sw_H) (n : Int) => sw_E G NH SH (d + 5) mX12_tidy 54 [some (sw_r 224), some (sw_i y1), some (sw_i v8), some (sw_i less_10), some (sw_i i_11), some (sw_i n), none, none] [] h (sw_Qi (fun z h' => mK (prW [67, 79, 83, 84] [262, 270, 271, 272, 273]) h0 h' ∧ (mB h') ∧ (h' 224 100 = h0 224 100)))) ?_ _ _ ?_
            · rintro h16 n_17 ⟨rfl, jn, jn6, jnm, jsh⟩ ihh16
              try dsimp only at ihh16
              refine sx_iload dX12_tidy_54 rfl ?_
              refine sx_bipush dX12_tidy_56 ⟨by decide, by decide, by decide⟩ ?_
              refine sx_icmp_ge (tgt := 80) dX12_tidy_58 (by decide) (fun c18 => ?_) (fun c18 => ?_)
              ·
                refine sx_loop1 (fun (h : sw_H) (n : Int) => (mK (prW [67, 79, 83, 84] [262, 270, 271, 272, 273]) h0 h) ∧ (0 ≤ n) ∧ (n ≤ 6) ∧ (i_11 + n ≤ h0 234 (6 * h0 224 36 + y1).toNat) ∧ (∀ j : Int, i_11 ≤ j → j < i_11 + n → 0 ≤ h0 241 (60 * h0 224 36 + h0 233 (6 * h0 224 36 + y1).toNat + j).toNat ∧ h0 241 (60 * h0 224 36 + h0 233 (6 * h0 224 36 + y1).toNat + j).toNat < 7) ∧ (∀ j : Nat, j < 7 → 1 ≤ h 273 j ∧ h 273 j ≤ 99001)) (fun (h : sw_H) (n : Int) => (n + 1).toNat) (fun (h : sw_H) (n : Int) => sw_E G NH SH (d + 5) mX12_tidy 80 [some (sw_r 224), some (sw_i y1), some (sw_i v8), some (sw_i less_10), some (sw_i i_11), some (sw_i n), none, none] [] h (sw_Qi (fun z h' => mK (prW [67, 79, 83, 84] [262, 270, 271, 272, 273]) h0 h' ∧ (mB h') ∧ (h' 224 100 = h0 224 100)))) ?_ _ _ ?_
                · rintro h19 n_20 ⟨Ih19, jn, jn6, jnm, jsh, jw7⟩ ihh19
                  try dsimp only at ihh19
                  refine sx_iload dX12_tidy_80 rfl ?_
                  refine sx_if_le (tgt := 103) dX12_tidy_82 (by decide) (fun c21 => ?_) (fun c21 => ?_)
                  ·
                    refine sx_iload dX12_tidy_103 rfl ?_
                    refine sx_if_le (tgt := 150) dX12_tidy_105 (by decide) (fun c22 => ?_) (fun c22 => ?_)
                    ·
                      have jw8 : ∀ j : Nat, j < 7 → 1 ≤ h19 273 j ∧ h19 273 j ≤ 99001 := fun j hj => by exact jw7 j hj
                      refine sx_iload dX12_tidy_150 rfl ?_
                      refine sx_iload dX12_tidy_152 rfl ?_
                      refine sx_if_le (tgt := 162) dX12_tidy_154 (by decide) (fun c23 => ?_) (fun c23 => ?_)
                      ·
                        refine sx_iconst dX12_tidy_162 ⟨by decide, by decide⟩ ?_
                        refine sx_iadd dX12_tidy_163 ?_
                        refine sy_topw (by omega) ?_
                        refine sy_top (fun v24 ev24 => ?_)
                        refine sx_istore dX12_tidy_164 (by decide) ?_
                        refine sx_goto (tgt := 41) dX12_tidy_166 (by decide) ?_
                        refine sx_kill 5 ?_
                        exact ihh9 _ _ _ ⟨Ih19, by omega, by omega, by exact jw8⟩ (by exact sy_dec (by omega) (by omega))
                      ·
                        refine sx_iload dX12_tidy_157 rfl ?_
                        refine sx_goto (tgt := 163) dX12_tidy_159 (by decide) ?_
                        refine sx_iadd dX12_tidy_163 ?_
                        refine sy_topw (by omega) ?_
                        refine sy_top (fun v25 ev25 => ?_)
                        refine sx_istore dX12_tidy_164 (by decide) ?_
                        refine sx_goto (tgt := 41) dX12_tidy_166 (by decide) ?_
                        refine sx_kill 5 ?_
                        exact ihh9 _ _ _ ⟨Ih19, by omega, by omega, by exact jw8⟩ (by exact sy_dec (by omega) (by omega))
                    ·
                      refine sx_aload_n dX12_tidy_108 rfl ?_
                      refine sx_iload_n dX12_tidy_109 rfl ?_
                      refine sx_iload dX12_tidy_110 rfl ?_
                      refine sx_iload dX12_tidy_112 rfl ?_
                      refine sx_callVi lk_X12_651 cl_12 s_224 (by decide) dX12_tidy_114 (vs := [_, _, _]) rfl rfl (Nat.le_of_ble_eq_true rfl) (Nat.le_of_ble_eq_true rfl) rfl (c_X12_runBy _ Ih19.1 _ _ _ (mC_mK Ih19 rfl rfl hJ hB.1) (by rw [Ih19.2 224 36 rfl, Ih19.2 227 _ rfl]; omega) (by rw [Ih19.2 224 36 rfl, Ih19.2 234 _ rfl]; omega) (by rw [Ih19.2 224 36 rfl, Ih19.2 233 _ rfl]; intro j q1 q2; rw [Ih19.2 241 _ rfl]; exact jsh j q1 q2)) (fun x27 h26 ph26 => ?_)
                      obtain ⟨Kh26, v_h26, n_h26⟩ := ph26
                      have Ih26 := Ih19.tr Kh26 (prW_sub rfl rfl)
                      have th26_224_83 := Kh26.2 224 83 rfl
                      refine sx_istore dX12_tidy_117 (by decide) ?_
                      have jw10 : ∀ j : Nat, j < 7 → 1 ≤ h26 273 j ∧ h26 273 j ≤ 99001 := fun j hj => by rw [show h26 273 j = _ from Kh26.2 273 j rfl]; exact jw7 j hj
                      refine sx_aload_n dX12_tidy_119 rfl ?_
                      refine sx_aload_n dX12_tidy_120 rfl ?_
                      refine sx_getI (k := 84) cl_12 fl_X12_648 dX12_tidy_121 s_224 (by decide) rfl (by decide) ?_
                      refine sx_callSi lk_X12_629 dX12_tidy_124 (vs := [_]) rfl rfl (Nat.le_of_ble_eq_true rfl) (Nat.le_of_ble_eq_true rfl) rfl (c_X12_startOf _ Ih26.1 _) (fun x29 h28 ph28 => ?_)
                      obtain ⟨rfl, p_x29⟩ := ph28
                      have vs := V_start p_x29
                      refine sx_callVv lk_X12_632 cl_12 s_224 (by decide) dX12_tidy_127 (vs := [_]) rfl rfl (Nat.le_of_ble_eq_true rfl) (Nat.le_of_ble_eq_true rfl) rfl (c_X12_spreadFrom _ Ih26.1 _ (vs.1)) (fun h30 ph30 => ?_)
                      obtain ⟨Kh30, p_h30⟩ := ph30
                      have Ih30 := Ih26.tr Kh30 (prW_sub rfl rfl)
                      have th30_224_83 := Kh30.2 224 83 rfl
                      have th30_224_84 := Kh30.2 224 84 rfl
                      have WG1 : WG h30 := fun t ht => by rw [Kh30.2 273 t rfl]; exact jw10 t ht
                      refine sx_aload_n dX12_tidy_130 rfl ?_
                      refine sx_iload dX12_tidy_131 rfl ?_
                      refine sx_callVz lk_X12_635 cl_12 s_224 (by decide) dX12_tidy_133 (vs := [_]) rfl rfl (Nat.le_of_ble_eq_true rfl) (Nat.le_of_ble_eq_true rfl) rfl (c_X12_spreadTo _ Ih30.1 _ _ (p_h30) (WG1) (vs.2)) (fun x33 h32 zx33 ph32 => ?_)
                      obtain ⟨Kh32, r_h32⟩ := ph32
                      have Ih32 := Ih30.tr Kh32 (prW_sub rfl rfl)
                      have th32_224_83 := Kh32.2 224 83 rfl
                      have th32_224_84 := Kh32.2 224 84 rfl
                      refine sx_istore dX12_tidy_136 (by decide) ?_
                      refine sx_iload_n dX12_tidy_138 rfl ?_
                      refine sx_iload dX12_tidy_139 rfl ?_
                      refine sx_aload_n dX12_tidy_141 rfl ?_
                      refine sx_getS (k := 78) (t := 271) cl_12 fl_X12_157 dX12_tidy_142 s_224 (by decide) rfl (by decide) ?_
                      refine sx_iconst dX12_tidy_145 ⟨by decide, by decide⟩ ?_
                      refine sx_iaload dX12_tidy_146 s_271 (by decide) (by decide) ⟨by omega, by omega⟩ ?_
                      refine sx_isub dX12_tidy_147 ?_
                      refine sx_iadd dX12_tidy_148 ?_
                      refine sy_top (fun v34 ev34 => ?_)
                      refine sx_istore_n dX12_tidy_149 (by decide) ?_
                      have jw8 : ∀ j : Nat, j < 7 → 1 ≤ h32 273 j ∧ h32 273 j ≤ 99001 := fun j hj => by rw [show h32 273 j = _ from Kh32.2 273 j rfl, show h30 273 j = _ from Kh30.2 273 j rfl, show h26 273 j = _ from Kh26.2 273 j rfl]; exact jw7 j hj
                      refine sx_iload dX12_tidy_150 rfl ?_
                      refine sx_iload dX12_tidy_152 rfl ?_
                      refine sx_if_le (tgt := 162) dX12_tidy_154 (by decide) (fun c35 => ?_) (fun c35 => ?_)
                      ·
                        refine sx_iconst dX12_tidy_162 ⟨by decide, by decide⟩ ?_
                        refine sx_iadd dX12_tidy_163 ?_
                        refine sy_topw (by omega) ?_
                        refine sy_top (fun v36 ev36 => ?_)
                        refine sx_istore dX12_tidy_164 (by decide) ?_
                        refine sx_goto (tgt := 41) dX12_tidy_166 (by decide) ?_
                        refine sx_kill 5 ?_
                        refine sx_kill 6 ?_
                        refine sx_kill 7 ?_
                        exact ihh9 _ _ _ ⟨Ih32, by omega, by omega, by exact jw8⟩ (by exact sy_dec (by omega) (by omega))
                      ·
                        refine sx_iload dX12_tidy_157 rfl ?_
                        refine sx_goto (tgt := 163) dX12_tidy_159 (by decide) ?_
                        refine sx_iadd dX12_tidy_163 ?_
                        refine sy_topw (by omega) ?_
                        refine sy_top (fun v37 ev37 => ?_)
                        refine sx_istore dX12_tidy_164 (by decide) ?_
                        refine sx_goto (tgt := 41) dX12_tidy_166 (by decide) ?_
                        refine sx_kill 5 ?_
                        refine sx_kill 6 ?_
                        refine sx_kill 7 ?_
                        exact ihh9 _ _ _ ⟨Ih32, by omega, by omega, by exact jw8⟩ (by exact sy_dec (by omega) (by omega))
                  ·
                    refine sx_aload_n dX12_tidy_85 rfl ?_
                    refine sx_iload_n dX12_tidy_86 rfl ?_
                    refine sx_iload dX12_tidy_87 rfl ?_
                    refine sx_iload dX12_tidy_89 rfl ?_
                    refine sx_callVi lk_X12_651 cl_12 s_224 (by decide) dX12_tidy_91 (vs := [_, _, _]) rfl rfl (Nat.le_of_ble_eq_true rfl) (Nat.le_of_ble_eq_true rfl) rfl (c_X12_runBy _ Ih19.1 _ _ _ (mC_mK Ih19 rfl rfl hJ hB.1) (by rw [Ih19.2 224 36 rfl, Ih19.2 227 _ rfl]; omega) (by rw [Ih19.2 224 36 rfl, Ih19.2 234 _ rfl]; omega) (by rw [Ih19.2 224 36 rfl, Ih19.2 233 _ rfl]; intro j q1 q2; rw [Ih19.2 241 _ rfl]; exact jsh j q1 q2)) (fun x39 h38 ph38 => ?_)
                    obtain ⟨Kh38, v_h38, n_h38⟩ := ph38
                    have Ih38 := Ih19.tr Kh38 (prW_sub rfl rfl)
                    have th38_224_83 := Kh38.2 224 83 rfl
                    refine sx_if_ge (tgt := 103) dX12_tidy_94 (by decide) (fun c40 => ?_) (fun c40 => ?_)
                    ·
                      refine sx_iload dX12_tidy_103 rfl ?_
                      refine sx_if_le (tgt := 150) dX12_tidy_105 (by decide) (fun c41 => ?_) (fun c41 => ?_)
                      ·
                        have jw8 : ∀ j : Nat, j < 7 → 1 ≤ h38 273 j ∧ h38 273 j ≤ 99001 := fun j hj => by rw [show h38 273 j = _ from Kh38.2 273 j rfl]; exact jw7 j hj
                        refine sx_iload dX12_tidy_150 rfl ?_
                        refine sx_iload dX12_tidy_152 rfl ?_
                        refine sx_if_le (tgt := 162) dX12_tidy_154 (by decide) (fun c42 => ?_) (fun c42 => ?_)
                        ·
                          refine sx_iconst dX12_tidy_162 ⟨by decide, by decide⟩ ?_
                          refine sx_iadd dX12_tidy_163 ?_
                          refine sy_topw (by omega) ?_
                          refine sy_top (fun v43 ev43 => ?_)
                          refine sx_istore dX12_tidy_164 (by decide) ?_
                          refine sx_goto (tgt := 41) dX12_tidy_166 (by decide) ?_
                          refine sx_kill 5 ?_
                          exact ihh9 _ _ _ ⟨Ih38, by omega, by omega, by exact jw8⟩ (by exact sy_dec (by omega) (by omega))
                        ·
                          refine sx_iload dX12_tidy_157 rfl ?_
                          refine sx_goto (tgt := 163) dX12_tidy_159 (by decide) ?_
                          refine sx_iadd dX12_tidy_163 ?_
                          refine sy_topw (by omega) ?_
                          refine sy_top (fun v44 ev44 => ?_)
                          refine sx_istore dX12_tidy_164 (by decide) ?_
                          refine sx_goto (tgt := 41) dX12_tidy_166 (by decide) ?_
                          refine sx_kill 5 ?_
                          exact ihh9 _ _ _ ⟨Ih38, by omega, by omega, by exact jw8⟩ (by exact sy_dec (by omega) (by omega))
                      ·
                        refine sx_aload_n dX12_tidy_108 rfl ?_
                        refine sx_iload_n dX12_tidy_109 rfl ?_
                        refine sx_iload dX12_tidy_110 rfl ?_
                        refine sx_iload dX12_tidy_112 rfl ?_
                        refine sx_callVi lk_X12_651 cl_12 s_224 (by decide) dX12_tidy_114 (vs := [_, _, _]) rfl rfl (Nat.le_of_ble_eq_true rfl) (Nat.le_of_ble_eq_true rfl) rfl (c_X12_runBy _ Ih38.1 _ _ _ (mC_mK Ih38 rfl rfl hJ hB.1) (by rw [Ih38.2 224 36 rfl, Ih38.2 227 _ rfl]; omega) (by rw [Ih38.2 224 36 rfl, Ih38.2 234 _ rfl]; omega) (by rw [Ih38.2 224 36 rfl, Ih38.2 233 _ rfl]; intro j q1 q2; rw [Ih38.2 241 _ rfl]; exact jsh j q1 q2)) (fun x46 h45 ph45 => ?_)
                        obtain ⟨Kh45, v_h45, n_h45⟩ := ph45
                        have Ih45 := Ih38.tr Kh45 (prW_sub rfl rfl)
                        have th45_224_83 := Kh45.2 224 83 rfl
                        refine sx_istore dX12_tidy_117 (by decide) ?_
                        have jw10 : ∀ j : Nat, j < 7 → 1 ≤ h45 273 j ∧ h45 273 j ≤ 99001 := fun j hj => by rw [show h45 273 j = _ from Kh45.2 273 j rfl, show h38 273 j = _ from Kh38.2 273 j rfl]; exact jw7 j hj
                        refine sx_aload_n dX12_tidy_119 rfl ?_
                        refine sx_aload_n dX12_tidy_120 rfl ?_
                        refine sx_getI (k := 84) cl_12 fl_X12_648 dX12_tidy_121 s_224 (by decide) rfl (by decide) ?_
                        refine sx_callSi lk_X12_629 dX12_tidy_124 (vs := [_]) rfl rfl (Nat.le_of_ble_eq_true rfl) (Nat.le_of_ble_eq_true rfl) rfl (c_X12_startOf _ Ih45.1 _) (fun x48 h47 ph47 => ?_)
                        obtain ⟨rfl, p_x48⟩ := ph47
                        have vs := V_start p_x48
                        refine sx_callVv lk_X12_632 cl_12 s_224 (by decide) dX12_tidy_127 (vs := [_]) rfl rfl (Nat.le_of_ble_eq_true rfl) (Nat.le_of_ble_eq_true rfl) rfl (c_X12_spreadFrom _ Ih45.1 _ (vs.1)) (fun h49 ph49 => ?_)
                        obtain ⟨Kh49, p_h49⟩ := ph49
                        have Ih49 := Ih45.tr Kh49 (prW_sub rfl rfl)
                        have th49_224_83 := Kh49.2 224 83 rfl
                        have th49_224_84 := Kh49.2 224 84 rfl
                        have WG1 : WG h49 := fun t ht => by rw [Kh49.2 273 t rfl]; exact jw10 t ht
                        refine sx_aload_n dX12_tidy_130 rfl ?_
                        refine sx_iload dX12_tidy_131 rfl ?_
                        refine sx_callVz lk_X12_635 cl_12 s_224 (by decide) dX12_tidy_133 (vs := [_]) rfl rfl (Nat.le_of_ble_eq_true rfl) (Nat.le_of_ble_eq_true rfl) rfl (c_X12_spreadTo _ Ih49.1 _ _ (p_h49) (WG1) (vs.2)) (fun x52 h51 zx52 ph51 => ?_)
                        obtain ⟨Kh51, r_h51⟩ := ph51
                        have Ih51 := Ih49.tr Kh51 (prW_sub rfl rfl)
                        have th51_224_83 := Kh51.2 224 83 rfl
                        have th51_224_84 := Kh51.2 224 84 rfl
                        refine sx_istore dX12_tidy_136 (by decide) ?_
                        refine sx_iload_n dX12_tidy_138 rfl ?_
                        refine sx_iload dX12_tidy_139 rfl ?_
                        refine sx_aload_n dX12_tidy_141 rfl ?_
                        refine sx_getS (k := 78) (t := 271) cl_12 fl_X12_157 dX12_tidy_142 s_224 (by decide) rfl (by decide) ?_
                        refine sx_iconst dX12_tidy_145 ⟨by decide, by decide⟩ ?_
                        refine sx_iaload dX12_tidy_146 s_271 (by decide) (by decide) ⟨by omega, by omega⟩ ?_
                        refine sx_isub dX12_tidy_147 ?_
                        refine sx_iadd dX12_tidy_148 ?_
                        refine sy_top (fun v53 ev53 => ?_)
                        refine sx_istore_n dX12_tidy_149 (by decide) ?_
                        have jw8 : ∀ j : Nat, j < 7 → 1 ≤ h51 273 j ∧ h51 273 j ≤ 99001 := fun j hj => by rw [show h51 273 j = _ from Kh51.2 273 j rfl, show h49 273 j = _ from Kh49.2 273 j rfl, show h45 273 j = _ from Kh45.2 273 j rfl, show h38 273 j = _ from Kh38.2 273 j rfl]; exact jw7 j hj
                        refine sx_iload dX12_tidy_150 rfl ?_
                        refine sx_iload dX12_tidy_152 rfl ?_
                        refine sx_if_le (tgt := 162) dX12_tidy_154 (by decide) (fun c54 => ?_) (fun c54 => ?_)
                        ·
                          refine sx_iconst dX12_tidy_162 ⟨by decide, by decide⟩ ?_
                          refine sx_iadd dX12_tidy_163 ?_
                          refine sy_topw (by omega) ?_
                          refine sy_top (fun v55 ev55 => ?_)
                          refine sx_istore dX12_tidy_164 (by decide) ?_
                          refine sx_goto (tgt := 41) dX12_tidy_166 (by decide) ?_
                          refine sx_kill 5 ?_
                          refine sx_kill 6 ?_
                          refine sx_kill 7 ?_
                          exact ihh9 _ _ _ ⟨Ih51, by omega, by omega, by exact jw8⟩ (by exact sy_dec (by omega) (by omega))
                        ·
                          refine sx_iload dX12_tidy_157 rfl ?_
                          refine sx_goto (tgt := 163) dX12_tidy_159 (by decide) ?_
                          refine sx_iadd dX12_tidy_163 ?_
                          refine sy_topw (by omega) ?_
                          refine sy_top (fun v56 ev56 => ?_)
                          refine sx_istore dX12_tidy_164 (by decide) ?_
                          refine sx_goto (tgt := 41) dX12_tidy_166 (by decide) ?_
                          refine sx_kill 5 ?_
                          refine sx_kill 6 ?_
                          refine sx_kill 7 ?_
                          exact ihh9 _ _ _ ⟨Ih51, by omega, by omega, by exact jw8⟩ (by exact sy_dec (by omega) (by omega))
                    ·
                      have jw9 : ∀ j : Nat, j < 7 → 1 ≤ h38 273 j ∧ h38 273 j ≤ 99001 := fun j hj => by rw [Kh38.2 273 j rfl]; exact jw7 j hj
                      refine sx_iinc dX12_tidy_97 (by decide) rfl ?_
                      rw [sw_w_id (by omega) (by omega)]
                      refine sx_goto (tgt := 80) dX12_tidy_100 (by decide) ?_
                      exact ihh19 _ _ ⟨Ih38, by omega, by omega, by omega, by exact fun j q1 q2 => jsh j q1 (by omega), by exact jw9⟩ (by exact sy_dec (by omega) (by omega))
                · exact ⟨Ih9, by omega, by omega, by omega, by exact jsh, by exact jw7⟩
              ·
                refine sx_aload_n dX12_tidy_61 rfl ?_
                refine sx_iload_n dX12_tidy_62 rfl ?_
                refine sx_iload dX12_tidy_63 rfl ?_
                refine sx_iload dX12_tidy_65 rfl ?_
                refine sx_iadd dX12_tidy_67 ?_
                refine sy_topw (by omega) ?_
                refine sx_callVz lk_X12_591 cl_12 s_224 (by decide) dX12_tidy_68 (vs := [_, _]) rfl rfl (Nat.le_of_ble_eq_true rfl) (Nat.le_of_ble_eq_true rfl) rfl (c_X12_isShuffle _ Ih9.1 _ _ (mC_mK Ih9 rfl rfl hJ hB.1) (by rw [Ih9.2 224 36 rfl, Ih9.2 227 _ rfl]; omega) (by omega)) (fun x58 h57 zx58 ph57 => ?_)
                obtain ⟨rfl, p_x58⟩ := ph57
                have hsz0 := p_x58
                rw [Ih9.2 224 36 rfl, Ih9.2 233 _ rfl, Ih9.2 234 _ rfl, Ih9.2 240 _ rfl, Ih9.2 241 _ rfl] at hsz0
                clear p_x58
                refine sx_if_eq (tgt := 80) dX12_tidy_71 (by decide) (fun c59 => ?_) (fun c59 => ?_)
                ·
                  clear zx58
                  refine sx_loop1 (fun (h : sw_H) (n : Int) => (mK (prW [67, 79, 83, 84] [262, 270, 271, 272, 273]) h0 h) ∧ (0 ≤ n) ∧ (n ≤ 6) ∧ (i_11 + n ≤ h0 234 (6 * h0 224 36 + y1).toNat) ∧ (∀ j : Int, i_11 ≤ j → j < i_11 + n → 0 ≤ h0 241 (60 * h0 224 36 + h0 233 (6 * h0 224 36 + y1).toNat + j).toNat ∧ h0 241 (60 * h0 224 36 + h0 233 (6 * h0 224 36 + y1).toNat + j).toNat < 7) ∧ (∀ j : Nat, j < 7 → 1 ≤ h 273 j ∧ h 273 j ≤ 99001)) (fun (h : sw_H) (n : Int) => (n + 1).toNat) (fun (h : sw_H) (n : Int) => sw_E G NH SH (d + 5) mX12_tidy 80 [some (sw_r 224), some (sw_i y1), some (sw_i v8), some (sw_i less_10), some (sw_i i_11), some (sw_i n), none, none] [] h (sw_Qi (fun z h' => mK (prW [67, 79, 83, 84] [262, 270, 271, 272, 273]) h0 h' ∧ (mB h') ∧ (h' 224 100 = h0 224 100)))) ?_ _ _ ?_
                  · rintro h60 n_61 ⟨Ih60, jn, jn6, jnm, jsh, jw7⟩ ihh60
                    try dsimp only at ihh60
                    refine sx_iload dX12_tidy_80 rfl ?_
                    refine sx_if_le (tgt := 103) dX12_tidy_82 (by decide) (fun c62 => ?_) (fun c62 => ?_)
                    ·
                      refine sx_iload dX12_tidy_103 rfl ?_
                      refine sx_if_le (tgt := 150) dX12_tidy_105 (by decide) (fun c63 => ?_) (fun c63 => ?_)
                      ·
                        have jw8 : ∀ j : Nat, j < 7 → 1 ≤ h60 273 j ∧ h60 273 j ≤ 99001 := fun j hj => by exact jw7 j hj
                        refine sx_iload dX12_tidy_150 rfl ?_
                        refine sx_iload dX12_tidy_152 rfl ?_
                        refine sx_if_le (tgt := 162) dX12_tidy_154 (by decide) (fun c64 => ?_) (fun c64 => ?_)
                        ·
                          refine sx_iconst dX12_tidy_162 ⟨by decide, by decide⟩ ?_
                          refine sx_iadd dX12_tidy_163 ?_
                          refine sy_topw (by omega) ?_
                          refine sy_top (fun v65 ev65 => ?_)
                          refine sx_istore dX12_tidy_164 (by decide) ?_
                          refine sx_goto (tgt := 41) dX12_tidy_166 (by decide) ?_
                          refine sx_kill 5 ?_
                          exact ihh9 _ _ _ ⟨Ih60, by omega, by omega, by exact jw8⟩ (by exact sy_dec (by omega) (by omega))
                        ·
                          refine sx_iload dX12_tidy_157 rfl ?_
                          refine sx_goto (tgt := 163) dX12_tidy_159 (by decide) ?_
                          refine sx_iadd dX12_tidy_163 ?_
                          refine sy_topw (by omega) ?_
                          refine sy_top (fun v66 ev66 => ?_)
                          refine sx_istore dX12_tidy_164 (by decide) ?_
                          refine sx_goto (tgt := 41) dX12_tidy_166 (by decide) ?_
                          refine sx_kill 5 ?_
                          exact ihh9 _ _ _ ⟨Ih60, by omega, by omega, by exact jw8⟩ (by exact sy_dec (by omega) (by omega))
                      ·
                        refine sx_aload_n dX12_tidy_108 rfl ?_
                        refine sx_iload_n dX12_tidy_109 rfl ?_
                        refine sx_iload dX12_tidy_110 rfl ?_
                        refine sx_iload dX12_tidy_112 rfl ?_
                        refine sx_callVi lk_X12_651 cl_12 s_224 (by decide) dX12_tidy_114 (vs := [_, _, _]) rfl rfl (Nat.le_of_ble_eq_true rfl) (Nat.le_of_ble_eq_true rfl) rfl (c_X12_runBy _ Ih60.1 _ _ _ (mC_mK Ih60 rfl rfl hJ hB.1) (by rw [Ih60.2 224 36 rfl, Ih60.2 227 _ rfl]; omega) (by rw [Ih60.2 224 36 rfl, Ih60.2 234 _ rfl]; omega) (by rw [Ih60.2 224 36 rfl, Ih60.2 233 _ rfl]; intro j q1 q2; rw [Ih60.2 241 _ rfl]; exact jsh j q1 q2)) (fun x68 h67 ph67 => ?_)
                        obtain ⟨Kh67, v_h67, n_h67⟩ := ph67
                        have Ih67 := Ih60.tr Kh67 (prW_sub rfl rfl)
                        have th67_224_83 := Kh67.2 224 83 rfl
                        refine sx_istore dX12_tidy_117 (by decide) ?_
                        have jw10 : ∀ j : Nat, j < 7 → 1 ≤ h67 273 j ∧ h67 273 j ≤ 99001 := fun j hj => by rw [show h67 273 j = _ from Kh67.2 273 j rfl]; exact jw7 j hj
                        refine sx_aload_n dX12_tidy_119 rfl ?_
                        refine sx_aload_n dX12_tidy_120 rfl ?_
                        refine sx_getI (k := 84) cl_12 fl_X12_648 dX12_tidy_121 s_224 (by decide) rfl (by decide) ?_
                        refine sx_callSi lk_X12_629 dX12_tidy_124 (vs := [_]) rfl rfl (Nat.le_of_ble_eq_true rfl) (Nat.le_of_ble_eq_true rfl) rfl (c_X12_startOf _ Ih67.1 _) (fun x70 h69 ph69 => ?_)
                        obtain ⟨rfl, p_x70⟩ := ph69
                        have vs := V_start p_x70
                        refine sx_callVv lk_X12_632 cl_12 s_224 (by decide) dX12_tidy_127 (vs := [_]) rfl rfl (Nat.le_of_ble_eq_true rfl) (Nat.le_of_ble_eq_true rfl) rfl (c_X12_spreadFrom _ Ih67.1 _ (vs.1)) (fun h71 ph71 => ?_)
                        obtain ⟨Kh71, p_h71⟩ := ph71
                        have Ih71 := Ih67.tr Kh71 (prW_sub rfl rfl)
                        have th71_224_83 := Kh71.2 224 83 rfl
                        have th71_224_84 := Kh71.2 224 84 rfl
                        have WG1 : WG h71 := fun t ht => by rw [Kh71.2 273 t rfl]; exact jw10 t ht
                        refine sx_aload_n dX12_tidy_130 rfl ?_
                        refine sx_iload dX12_tidy_131 rfl ?_
                        refine sx_callVz lk_X12_635 cl_12 s_224 (by decide) dX12_tidy_133 (vs := [_]) rfl rfl (Nat.le_of_ble_eq_true rfl) (Nat.le_of_ble_eq_true rfl) rfl (c_X12_spreadTo _ Ih71.1 _ _ (p_h71) (WG1) (vs.2)) (fun x74 h73 zx74 ph73 => ?_)
                        obtain ⟨Kh73, r_h73⟩ := ph73
                        have Ih73 := Ih71.tr Kh73 (prW_sub rfl rfl)
                        have th73_224_83 := Kh73.2 224 83 rfl
                        have th73_224_84 := Kh73.2 224 84 rfl
                        refine sx_istore dX12_tidy_136 (by decide) ?_
                        refine sx_iload_n dX12_tidy_138 rfl ?_
                        refine sx_iload dX12_tidy_139 rfl ?_
                        refine sx_aload_n dX12_tidy_141 rfl ?_
                        refine sx_getS (k := 78) (t := 271) cl_12 fl_X12_157 dX12_tidy_142 s_224 (by decide) rfl (by decide) ?_
                        refine sx_iconst dX12_tidy_145 ⟨by decide, by decide⟩ ?_
                        refine sx_iaload dX12_tidy_146 s_271 (by decide) (by decide) ⟨by omega, by omega⟩ ?_
                        refine sx_isub dX12_tidy_147 ?_
                        refine sx_iadd dX12_tidy_148 ?_
                        refine sy_top (fun v75 ev75 => ?_)
                        refine sx_istore_n dX12_tidy_149 (by decide) ?_
                        have jw8 : ∀ j : Nat, j < 7 → 1 ≤ h73 273 j ∧ h73 273 j ≤ 99001 := fun j hj => by rw [show h73 273 j = _ from Kh73.2 273 j rfl, show h71 273 j = _ from Kh71.2 273 j rfl, show h67 273 j = _ from Kh67.2 273 j rfl]; exact jw7 j hj
                        refine sx_iload dX12_tidy_150 rfl ?_
                        refine sx_iload dX12_tidy_152 rfl ?_
                        refine sx_if_le (tgt := 162) dX12_tidy_154 (by decide) (fun c76 => ?_) (fun c76 => ?_)
                        ·
                          refine sx_iconst dX12_tidy_162 ⟨by decide, by decide⟩ ?_
                          refine sx_iadd dX12_tidy_163 ?_
                          refine sy_topw (by omega) ?_
                          refine sy_top (fun v77 ev77 => ?_)
                          refine sx_istore dX12_tidy_164 (by decide) ?_
                          refine sx_goto (tgt := 41) dX12_tidy_166 (by decide) ?_
                          refine sx_kill 5 ?_
                          refine sx_kill 6 ?_
                          refine sx_kill 7 ?_
                          exact ihh9 _ _ _ ⟨Ih73, by omega, by omega, by exact jw8⟩ (by exact sy_dec (by omega) (by omega))
                        ·
                          refine sx_iload dX12_tidy_157 rfl ?_
                          refine sx_goto (tgt := 163) dX12_tidy_159 (by decide) ?_
                          refine sx_iadd dX12_tidy_163 ?_
                          refine sy_topw (by omega) ?_
                          refine sy_top (fun v78 ev78 => ?_)
                          refine sx_istore dX12_tidy_164 (by decide) ?_
                          refine sx_goto (tgt := 41) dX12_tidy_166 (by decide) ?_
                          refine sx_kill 5 ?_
                          refine sx_kill 6 ?_
                          refine sx_kill 7 ?_
                          exact ihh9 _ _ _ ⟨Ih73, by omega, by omega, by exact jw8⟩ (by exact sy_dec (by omega) (by omega))
                    ·
                      refine sx_aload_n dX12_tidy_85 rfl ?_
                      refine sx_iload_n dX12_tidy_86 rfl ?_
                      refine sx_iload dX12_tidy_87 rfl ?_
                      refine sx_iload dX12_tidy_89 rfl ?_
                      refine sx_callVi lk_X12_651 cl_12 s_224 (by decide) dX12_tidy_91 (vs := [_, _, _]) rfl rfl (Nat.le_of_ble_eq_true rfl) (Nat.le_of_ble_eq_true rfl) rfl (c_X12_runBy _ Ih60.1 _ _ _ (mC_mK Ih60 rfl rfl hJ hB.1) (by rw [Ih60.2 224 36 rfl, Ih60.2 227 _ rfl]; omega) (by rw [Ih60.2 224 36 rfl, Ih60.2 234 _ rfl]; omega) (by rw [Ih60.2 224 36 rfl, Ih60.2 233 _ rfl]; intro j q1 q2; rw [Ih60.2 241 _ rfl]; exact jsh j q1 q2)) (fun x80 h79 ph79 => ?_)
                      obtain ⟨Kh79, v_h79, n_h79⟩ := ph79
                      have Ih79 := Ih60.tr Kh79 (prW_sub rfl rfl)
                      have th79_224_83 := Kh79.2 224 83 rfl
                      refine sx_if_ge (tgt := 103) dX12_tidy_94 (by decide) (fun c81 => ?_) (fun c81 => ?_)
                      ·
                        refine sx_iload dX12_tidy_103 rfl ?_
                        refine sx_if_le (tgt := 150) dX12_tidy_105 (by decide) (fun c82 => ?_) (fun c82 => ?_)
                        ·
                          have jw8 : ∀ j : Nat, j < 7 → 1 ≤ h79 273 j ∧ h79 273 j ≤ 99001 := fun j hj => by rw [show h79 273 j = _ from Kh79.2 273 j rfl]; exact jw7 j hj
                          refine sx_iload dX12_tidy_150 rfl ?_
                          refine sx_iload dX12_tidy_152 rfl ?_
                          refine sx_if_le (tgt := 162) dX12_tidy_154 (by decide) (fun c83 => ?_) (fun c83 => ?_)
                          ·
                            refine sx_iconst dX12_tidy_162 ⟨by decide, by decide⟩ ?_
                            refine sx_iadd dX12_tidy_163 ?_
                            refine sy_topw (by omega) ?_
                            refine sy_top (fun v84 ev84 => ?_)
                            refine sx_istore dX12_tidy_164 (by decide) ?_
                            refine sx_goto (tgt := 41) dX12_tidy_166 (by decide) ?_
                            refine sx_kill 5 ?_
                            exact ihh9 _ _ _ ⟨Ih79, by omega, by omega, by exact jw8⟩ (by exact sy_dec (by omega) (by omega))
                          ·
                            refine sx_iload dX12_tidy_157 rfl ?_
                            refine sx_goto (tgt := 163) dX12_tidy_159 (by decide) ?_
                            refine sx_iadd dX12_tidy_163 ?_
                            refine sy_topw (by omega) ?_
                            refine sy_top (fun v85 ev85 => ?_)
                            refine sx_istore dX12_tidy_164 (by decide) ?_
                            refine sx_goto (tgt := 41) dX12_tidy_166 (by decide) ?_
                            refine sx_kill 5 ?_
                            exact ihh9 _ _ _ ⟨Ih79, by omega, by omega, by exact jw8⟩ (by exact sy_dec (by omega) (by omega))
                        ·
                          refine sx_aload_n dX12_tidy_108 rfl ?_
                          refine sx_iload_n dX12_tidy_109 rfl ?_
                          refine sx_iload dX12_tidy_110 rfl ?_
                          refine sx_iload dX12_tidy_112 rfl ?_
                          refine sx_callVi lk_X12_651 cl_12 s_224 (by decide) dX12_tidy_114 (vs := [_, _, _]) rfl rfl (Nat.le_of_ble_eq_true rfl) (Nat.le_of_ble_eq_true rfl) rfl (c_X12_runBy _ Ih79.1 _ _ _ (mC_mK Ih79 rfl rfl hJ hB.1) (by rw [Ih79.2 224 36 rfl, Ih79.2 227 _ rfl]; omega) (by rw [Ih79.2 224 36 rfl, Ih79.2 234 _ rfl]; omega) (by rw [Ih79.2 224 36 rfl, Ih79.2 233 _ rfl]; intro j q1 q2; rw [Ih79.2 241 _ rfl]; exact jsh j q1 q2)) (fun x87 h86 ph86 => ?_)
                          obtain ⟨Kh86, v_h86, n_h86⟩ := ph86
                          have Ih86 := Ih79.tr Kh86 (prW_sub rfl rfl)
                          have th86_224_83 := Kh86.2 224 83 rfl
                          refine sx_istore dX12_tidy_117 (by decide) ?_
                          have jw10 : ∀ j : Nat, j < 7 → 1 ≤ h86 273 j ∧ h86 273 j ≤ 99001 := fun j hj => by rw [show h86 273 j = _ from Kh86.2 273 j rfl, show h79 273 j = _ from Kh79.2 273 j rfl]; exact jw7 j hj
                          refine sx_aload_n dX12_tidy_119 rfl ?_
                          refine sx_aload_n dX12_tidy_120 rfl ?_
                          refine sx_getI (k := 84) cl_12 fl_X12_648 dX12_tidy_121 s_224 (by decide) rfl (by decide) ?_
                          refine sx_callSi lk_X12_629 dX12_tidy_124 (vs := [_]) rfl rfl (Nat.le_of_ble_eq_true rfl) (Nat.le_of_ble_eq_true rfl) rfl (c_X12_startOf _ Ih86.1 _) (fun x89 h88 ph88 => ?_)
                          obtain ⟨rfl, p_x89⟩ := ph88
                          have vs := V_start p_x89
                          refine sx_callVv lk_X12_632 cl_12 s_224 (by decide) dX12_tidy_127 (vs := [_]) rfl rfl (Nat.le_of_ble_eq_true rfl) (Nat.le_of_ble_eq_true rfl) rfl (c_X12_spreadFrom _ Ih86.1 _ (vs.1)) (fun h90 ph90 => ?_)
                          obtain ⟨Kh90, p_h90⟩ := ph90
                          have Ih90 := Ih86.tr Kh90 (prW_sub rfl rfl)
                          have th90_224_83 := Kh90.2 224 83 rfl
                          have th90_224_84 := Kh90.2 224 84 rfl
                          have WG1 : WG h90 := fun t ht => by rw [Kh90.2 273 t rfl]; exact jw10 t ht
                          refine sx_aload_n dX12_tidy_130 rfl ?_
                          refine sx_iload dX12_tidy_131 rfl ?_
                          refine sx_callVz lk_X12_635 cl_12 s_224 (by decide) dX12_tidy_133 (vs := [_]) rfl rfl (Nat.le_of_ble_eq_true rfl) (Nat.le_of_ble_eq_true rfl) rfl (c_X12_spreadTo _ Ih90.1 _ _ (p_h90) (WG1) (vs.2)) (fun x93 h92 zx93 ph92 => ?_)
                          obtain ⟨Kh92, r_h92⟩ := ph92
                          have Ih92 := Ih90.tr Kh92 (prW_sub rfl rfl)
                          have th92_224_83 := Kh92.2 224 83 rfl
                          have th92_224_84 := Kh92.2 224 84 rfl
                          refine sx_istore dX12_tidy_136 (by decide) ?_
                          refine sx_iload_n dX12_tidy_138 rfl ?_
                          refine sx_iload dX12_tidy_139 rfl ?_
                          refine sx_aload_n dX12_tidy_141 rfl ?_
                          refine sx_getS (k := 78) (t := 271) cl_12 fl_X12_157 dX12_tidy_142 s_224 (by decide) rfl (by decide) ?_
                          refine sx_iconst dX12_tidy_145 ⟨by decide, by decide⟩ ?_
                          refine sx_iaload dX12_tidy_146 s_271 (by decide) (by decide) ⟨by omega, by omega⟩ ?_
                          refine sx_isub dX12_tidy_147 ?_
                          refine sx_iadd dX12_tidy_148 ?_
                          refine sy_top (fun v94 ev94 => ?_)
                          refine sx_istore_n dX12_tidy_149 (by decide) ?_
                          have jw8 : ∀ j : Nat, j < 7 → 1 ≤ h92 273 j ∧ h92 273 j ≤ 99001 := fun j hj => by rw [show h92 273 j = _ from Kh92.2 273 j rfl, show h90 273 j = _ from Kh90.2 273 j rfl, show h86 273 j = _ from Kh86.2 273 j rfl, show h79 273 j = _ from Kh79.2 273 j rfl]; exact jw7 j hj
                          refine sx_iload dX12_tidy_150 rfl ?_
                          refine sx_iload dX12_tidy_152 rfl ?_
                          refine sx_if_le (tgt := 162) dX12_tidy_154 (by decide) (fun c95 => ?_) (fun c95 => ?_)
                          ·
                            refine sx_iconst dX12_tidy_162 ⟨by decide, by decide⟩ ?_
                            refine sx_iadd dX12_tidy_163 ?_
                            refine sy_topw (by omega) ?_
                            refine sy_top (fun v96 ev96 => ?_)
                            refine sx_istore dX12_tidy_164 (by decide) ?_
                            refine sx_goto (tgt := 41) dX12_tidy_166 (by decide) ?_
                            refine sx_kill 5 ?_
                            refine sx_kill 6 ?_
                            refine sx_kill 7 ?_
                            exact ihh9 _ _ _ ⟨Ih92, by omega, by omega, by exact jw8⟩ (by exact sy_dec (by omega) (by omega))
                          ·
                            refine sx_iload dX12_tidy_157 rfl ?_
                            refine sx_goto (tgt := 163) dX12_tidy_159 (by decide) ?_
                            refine sx_iadd dX12_tidy_163 ?_
                            refine sy_topw (by omega) ?_
                            refine sy_top (fun v97 ev97 => ?_)
                            refine sx_istore dX12_tidy_164 (by decide) ?_
                            refine sx_goto (tgt := 41) dX12_tidy_166 (by decide) ?_
                            refine sx_kill 5 ?_
                            refine sx_kill 6 ?_
                            refine sx_kill 7 ?_
                            exact ihh9 _ _ _ ⟨Ih92, by omega, by omega, by exact jw8⟩ (by exact sy_dec (by omega) (by omega))
                      ·
                        have jw9 : ∀ j : Nat, j < 7 → 1 ≤ h79 273 j ∧ h79 273 j ≤ 99001 := fun j hj => by rw [Kh79.2 273 j rfl]; exact jw7 j hj
                        refine sx_iinc dX12_tidy_97 (by decide) rfl ?_
                        rw [sw_w_id (by omega) (by omega)]
                        refine sx_goto (tgt := 80) dX12_tidy_100 (by decide) ?_
                        exact ihh60 _ _ ⟨Ih79, by omega, by omega, by omega, by exact fun j q1 q2 => jsh j q1 (by omega), by exact jw9⟩ (by exact sy_dec (by omega) (by omega))
                  · exact ⟨Ih9, by omega, by omega, by omega, by exact jsh, by exact jw7⟩
                ·
                  have vx58 : x58 = 1 := by rcases zx58 with q | q; (exact absurd q c59); exact q
                  clear zx58
                  have hsz := hsz0 (by omega)
                  have jsh2 : ∀ j : Int, i_11 ≤ j → j < i_11 + (n_17 + 1) → 0 ≤ h0 241 (60 * h0 224 36 + h0 233 (6 * h0 224 36 + y1).toNat + j).toNat ∧ h0 241 (60 * h0 224 36 + h0 233 (6 * h0 224 36 + y1).toNat + j).toNat < 7 := fun j q1 q2 => by by_cases q : j = i_11 + n_17; (rw [q]; exact ⟨(show (0 : Int) ≤ _ ∧ _ ≤ (9999 : Int) from hJ 241 _).1, hsz.2.2⟩); exact jsh j q1 (by omega)
                  refine sx_iinc dX12_tidy_74 (by decide) rfl ?_
                  rw [sw_w_id (by omega) (by omega)]
                  refine sx_goto (tgt := 54) dX12_tidy_77 (by decide) ?_
                  exact ihh16 _ _ ⟨rfl, by omega, by omega, by omega, by exact jsh2⟩ (by exact sy_dec (by omega) (by omega))
            · exact ⟨rfl, by omega, by omega, by omega, by (intro j q1 q2; omega)⟩
        · exact ⟨Ih4, by omega, by omega, by exact fun j hj => jw j (by omega)⟩
      ·
        refine sx_aload_n dX12_tidy_18 rfl ?_
        refine sx_getS (k := 81) (t := 273) cl_12 fl_X12_163 dX12_tidy_19 s_224 (by decide) rfl (by decide) ?_
        refine sx_iload_n dX12_tidy_22 rfl ?_
        refine sx_iconst dX12_tidy_23 ⟨by decide, by decide⟩ ?_
        refine sy_iastore dX12_tidy_24 s_273 (by decide) (by decide) ⟨by omega, by omega⟩ (fun h98 eh98 => ?_)
        have Ih98 := Ih4.up eh98 trivial rfl
        have th98_224_83 := eh98.2 (224) 83 (fun q => absurd q.1 (by decide))
        have th98_224_84 := eh98.2 (224) 84 (fun q => absurd q.1 (by decide))
        have jw2 : ∀ j : Nat, (j : Int) < t_5 + 1 → 1 ≤ h98 273 j ∧ h98 273 j ≤ 99001 := fun j hj => by rw [eh98.at 273 j]; simp only [true_and]; by_cases q : j = (t_5).toNat; (rw [if_pos q]; omega); (rw [if_neg q]; exact jw j (by omega))
        refine sx_iinc dX12_tidy_25 (by decide) rfl ?_
        rw [sw_w_id (by omega) (by omega)]
        refine sx_goto (tgt := 12) dX12_tidy_28 (by decide) ?_
        exact ihh4 _ _ ⟨Ih98, by omega, by exact jw2⟩ (by exact sy_dec (by omega) (by omega))
    · exact ⟨hI, by omega, by (intro j hj; omega)⟩
  ·
    replace p_x2 := mt p_x2.mpr (show ¬ (x2 = 1) by rw [c3]; decide)
    clear zx2
    refine sx_iconst dX12_tidy_8 ⟨by decide, by decide⟩ ?_
    refine sx_ireturn dX12_tidy_9 ?_
    exact ⟨_, rfl, ⟨hI, mB_mK hI rfl rfl hJ hB, hI.2 224 100 rfl⟩⟩

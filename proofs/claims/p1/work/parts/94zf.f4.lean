-- ===== loops over nothing, odds, fits =====
theorem dv1 {x e : Int} (h : x = e) (h1 : 1 ≤ e) : sw_w (x.tdiv e) = 1 := by
  subst h
  rw [Int.tdiv_self (by omega)]
  rfl
theorem tm0 {x e : Int} (h : x = e) (h1 : 1 ≤ e) : x.tmod e = 0 := by
  subst h
  rw [Int.tmod_eq_emod_of_nonneg (by omega), Int.emod_self]
set_option maxRecDepth 20000 in
set_option maxHeartbeats 4000000 in
theorem f_X12_bit {G : sw_G} (d : Nat) {h0 : sw_H} (hJ : mI h0) (y1 y2 : Int) (hz : y1 = 0 ∧ y2 = 0)  : sw_E G NH SH (d) mX12_bit 0 [some (sw_i y1), some (sw_i y2)] [] h0 (sw_Qz (fun z h' => h0 = h' ∧ (z = 0))) := by
  have hI : mK (prW [] []) h0 h0 := mK.refl hJ
  refine sx_iload_n dX12_bit_0 rfl ?_
  refine sx_iload_n dX12_bit_1 rfl ?_
  refine sx_ishr dX12_bit_2 ?_
  refine sx_iconst dX12_bit_3 ⟨by decide, by decide⟩ ?_
  refine sx_iand dX12_bit_4 ?_
  refine sx_iconst dX12_bit_5 ⟨by decide, by decide⟩ ?_
  refine sx_icmp_ne (tgt := 13) dX12_bit_6 (by decide) (fun c1 => ?_) (fun c1 => ?_)
  ·
    refine sx_iconst dX12_bit_13 ⟨by decide, by decide⟩ ?_
    refine sx_ireturn dX12_bit_14 ?_
    exact ⟨_, rfl, by omega, ⟨rfl, by omega⟩⟩
  ·
    exfalso; rw [hz.1, hz.2] at c1; revert c1; decide
set_option maxRecDepth 20000 in
set_option maxHeartbeats 4000000 in
theorem f_X12_takesOf {G : sw_G} (d : Nat) {h0 : sw_H} (hJ : mI h0) (y1 y2 : Int) (hz : h0 224 85 = -1 ∧ (∀ k, h0 232 k = 0)) (hy : 0 ≤ y1 ∧ y1 ≤ 2)  : sw_E G NH SH (d + 1) mX12_takesOf 0 [some (sw_r 224), some (sw_i y1), some (sw_i y2)] [] h0 (sw_Qi (fun z h' => mK (prW [59, 60] [251]) h0 h' ∧ (z = 1 + y1))) := by
  have hI : mK (prW [59, 60] [251]) h0 h0 := mK.refl hJ
  refine sx_aload_n dX12_takesOf_0 rfl ?_
  refine sx_getI (k := 85) cl_12 fl_X12_169 dX12_takesOf_1 s_224 (by decide) rfl (by decide) ?_
  refine sx_if_lt (tgt := 12) dX12_takesOf_4 (by decide) (fun c1 => ?_) (fun c1 => ?_)
  ·
    refine sx_aload_n dX12_takesOf_12 rfl ?_
    refine sx_iload_n dX12_takesOf_13 rfl ?_
    refine sy_putI (k := 59) cl_12 fl_X12_485 dX12_takesOf_14 s_224 (by decide) rfl (by decide) rfl rfl (fun h2 eh2 => ?_)
    have Ih2 := hI.up eh2 trivial rfl
    refine sx_aload_n dX12_takesOf_17 rfl ?_
    refine sx_iload_n dX12_takesOf_18 rfl ?_
    refine sy_putI (k := 60) cl_12 fl_X12_488 dX12_takesOf_19 s_224 (by decide) rfl (by decide) rfl rfl (fun h3 eh3 => ?_)
    have Ih3 := Ih2.up eh3 trivial rfl
    refine sx_aload_n dX12_takesOf_22 rfl ?_
    refine sx_getS (k := 16) (t := 232) cl_12 fl_X12_36 dX12_takesOf_23 s_224 (by decide) rfl (by decide) ?_
    refine sx_aload_n dX12_takesOf_26 rfl ?_
    refine sx_getI (k := 36) cl_12 fl_X12_349 dX12_takesOf_27 s_224 (by decide) rfl (by decide) ?_
    have r4 : (0 : Int) ≤ h3 224 36 ∧ h3 224 36 ≤ 1 := Ih3.1 224 36
    refine sx_iaload dX12_takesOf_30 s_232 (by decide) (by decide) ⟨by omega, by omega⟩ ?_
    refine sx_iconst dX12_takesOf_31 ⟨by decide, by decide⟩ ?_
    refine sx_callSz lk_X12_358 dX12_takesOf_32 (vs := [_, _]) rfl rfl (Nat.le_of_ble_eq_true rfl) (Nat.le_of_ble_eq_true rfl) rfl (f_X12_bit _ Ih3.1 _ _ (⟨(Ih3.2 232 _ rfl).trans (hz.2 _), rfl⟩)) (fun x6 h5 zx6 ph5 => ?_)
    obtain ⟨rfl, p_x6⟩ := ph5
    refine sx_if_eq (tgt := 51) dX12_takesOf_35 (by decide) (fun c7 => ?_) (fun c7 => ?_)
    ·
      clear zx6
      refine sx_iconst dX12_takesOf_51 ⟨by decide, by decide⟩ ?_
      refine sx_iload_n dX12_takesOf_52 rfl ?_
      refine sx_iadd dX12_takesOf_53 ?_
      refine sy_topw (by omega) ?_
      refine sx_ireturn dX12_takesOf_54 ?_
      exact ⟨_, rfl, ⟨Ih3, by omega⟩⟩
    ·
      have vx6 : x6 = 1 := by rcases zx6 with q | q; (exact absurd q c7); exact q
      clear zx6
      exfalso; omega
  ·
    exfalso; omega
set_option maxRecDepth 20000 in
set_option maxHeartbeats 4000000 in
theorem f_X12_takes {G : sw_G} (d : Nat) {h0 : sw_H} (hJ : mI h0) (y1 y2 : Int) (hB : mB h0) (hF : FM h0)  : sw_E G NH SH (d + 3) mX12_takes 0 [some (sw_r 224), some (sw_i y1), some (sw_i y2)] [] h0 (sw_Qi (fun z h' => mK (prW [59, 60] [251]) h0 h' ∧ (mB h') ∧ (h' 224 100 = h0 224 100) ∧ (z = (if (0 ≤ y1 ∧ y1 ≤ 2) ∧ (0 ≤ y2 ∧ y2 ≤ 18) then 1 + y1 else -1)))) := by
  have hI : mK (prW [59, 60] [251]) h0 h0 := mK.refl hJ
  obtain ⟨b0, r0, t2, k4, k5, a3, a4, l3, s9, t0, z7, z8, z9, z10, z12, z61, z89⟩ := hF
  have fw : h0 227 (h0 224 36).toNat = 0 := z7 _
  have fi : h0 228 (h0 224 36).toNat = 0 := z8 _
  refine sx_iload_n dX12_takes_0 rfl ?_
  refine sx_iconst dX12_takes_1 ⟨by decide, by decide⟩ ?_
  refine sx_iconst dX12_takes_2 ⟨by decide, by decide⟩ ?_
  refine sx_callSz lk_X12_500 dX12_takes_3 (vs := [_, _, _]) rfl rfl (Nat.le_of_ble_eq_true rfl) (Nat.le_of_ble_eq_true rfl) rfl (c_X12_isIn _ hI.1 _ _ _) (fun x2 h1 zx2 ph1 => ?_)
  obtain ⟨rfl, p_x2⟩ := ph1
  refine sx_if_eq (tgt := 28) dX12_takes_6 (by decide) (fun c3 => ?_) (fun c3 => ?_)
  ·
    replace p_x2 := mt p_x2.mpr (show ¬ (x2 = 1) by rw [c3]; decide)
    clear zx2
    refine sx_iconst dX12_takes_28 ⟨by decide, by decide⟩ ?_
    refine sx_ireturn dX12_takes_29 ?_
    exact ⟨_, rfl, ⟨hI, mB_mK hI rfl rfl hJ hB, hI.2 224 100 rfl, by split <;> omega⟩⟩
  ·
    have vx2 : x2 = 1 := by rcases zx2 with q | q; (exact absurd q c3); exact q
    replace p_x2 := p_x2.mp vx2
    clear zx2
    refine sx_iload_n dX12_takes_9 rfl ?_
    refine sx_iconst dX12_takes_10 ⟨by decide, by decide⟩ ?_
    refine sx_bipush dX12_takes_11 ⟨by decide, by decide, by decide⟩ ?_
    refine sx_callSz lk_X12_500 dX12_takes_13 (vs := [_, _, _]) rfl rfl (Nat.le_of_ble_eq_true rfl) (Nat.le_of_ble_eq_true rfl) rfl (c_X12_isIn _ hI.1 _ _ _) (fun x5 h4 zx5 ph4 => ?_)
    obtain ⟨rfl, p_x5⟩ := ph4
    refine sx_if_eq (tgt := 28) dX12_takes_16 (by decide) (fun c6 => ?_) (fun c6 => ?_)
    ·
      replace p_x5 := mt p_x5.mpr (show ¬ (x5 = 1) by rw [c6]; decide)
      clear zx5
      refine sx_iconst dX12_takes_28 ⟨by decide, by decide⟩ ?_
      refine sx_ireturn dX12_takes_29 ?_
      exact ⟨_, rfl, ⟨hI, mB_mK hI rfl rfl hJ hB, hI.2 224 100 rfl, by split <;> omega⟩⟩
    ·
      have vx5 : x5 = 1 := by rcases zx5 with q | q; (exact absurd q c6); exact q
      replace p_x5 := p_x5.mp vx5
      clear zx5
      refine sx_aload_n dX12_takes_19 rfl ?_
      refine sx_iload_n dX12_takes_20 rfl ?_
      refine sx_iload_n dX12_takes_21 rfl ?_
      refine sx_callVi lk_X12_644 cl_12 s_224 (by decide) dX12_takes_22 (vs := [_, _]) rfl rfl (Nat.le_of_ble_eq_true rfl) (Nat.le_of_ble_eq_true rfl) rfl (f_X12_takesOf _ hI.1 _ _ (⟨hB.2.2.2, z12⟩) (by omega)) (fun x8 h7 ph7 => ?_)
      obtain ⟨Kh7, p_h7⟩ := ph7
      have Ih7 := hI.tr Kh7 (prW_sub rfl rfl)
      refine sx_goto (tgt := 29) dX12_takes_25 (by decide) ?_
      refine sx_ireturn dX12_takes_29 ?_
      exact ⟨_, rfl, ⟨Ih7, mB_mK Ih7 rfl rfl hJ hB, Ih7.2 224 100 rfl, by split <;> omega⟩⟩
set_option maxRecDepth 20000 in
set_option maxHeartbeats 4000000 in
theorem f_X12_total {G : sw_G} (d : Nat) {h0 : sw_H} (hJ : mI h0) (y1 : Int) (hB : mB h0) (hF : FM h0)  : sw_E G NH SH (d + 4) mX12_total 0 [some (sw_r 224), some (sw_i y1), none, none] [] h0 (sw_Qi (fun z h' => mK (prW [] [278]) h0 h' ∧ (mB h') ∧ (h' 224 100 = h0 224 100) ∧ (z = (if 0 ≤ y1 ∧ y1 ≤ 2 then 0 else -1)))) := by
  have hI : mK (prW [] [278]) h0 h0 := mK.refl hJ
  obtain ⟨b0, r0, t2, k4, k5, a3, a4, l3, s9, t0, z7, z8, z9, z10, z12, z61, z89⟩ := hF
  have fw : h0 227 (h0 224 36).toNat = 0 := z7 _
  have fi : h0 228 (h0 224 36).toNat = 0 := z8 _
  refine sx_aload_n dX12_total_0 rfl ?_
  refine sx_iload_n dX12_total_1 rfl ?_
  refine sx_callVz lk_X12_667 cl_12 s_224 (by decide) dX12_total_2 (vs := [_]) rfl rfl (Nat.le_of_ble_eq_true rfl) (Nat.le_of_ble_eq_true rfl) rfl (c_X12_isForm _ hI.1 _) (fun x2 h1 zx2 ph1 => ?_)
  obtain ⟨rfl, p_x2⟩ := ph1
  refine sx_if_ne (tgt := 10) dX12_total_5 (by decide) (fun c3 => ?_) (fun c3 => ?_)
  ·
    have vx2 : x2 = 1 := by rcases zx2 with q | q; (exact absurd q c3); exact q
    replace p_x2 := p_x2.mp vx2
    clear zx2
    refine sx_iconst dX12_total_10 ⟨by decide, by decide⟩ ?_
    refine sx_istore_n dX12_total_11 (by decide) ?_
    refine sx_iconst dX12_total_12 ⟨by decide, by decide⟩ ?_
    refine sx_istore_n dX12_total_13 (by decide) ?_
    refine sx_loop2 (fun (h : sw_H) (sum : Int) (w : Int) => (mK (prW [] [278]) h0 h) ∧ (w = 0) ∧ (sum = 0)) (fun (h : sw_H) (sum : Int) (w : Int) => (10 - w).toNat) (fun (h : sw_H) (sum : Int) (w : Int) => sw_E G NH SH (d + 4) mX12_total 14 [some (sw_r 224), some (sw_i y1), some (sw_i sum), some (sw_i w)] [] h (sw_Qi (fun z h' => mK (prW [] [278]) h0 h' ∧ (mB h') ∧ (h' 224 100 = h0 224 100) ∧ (z = (if 0 ≤ y1 ∧ y1 ≤ 2 then 0 else -1))))) ?_ _ _ _ ?_
    · rintro h4 sum_5 w_6 ⟨Ih4, j7, j8⟩ ihh4
      try dsimp only at ihh4
      refine sx_iload_n dX12_total_14 rfl ?_
      refine sx_aload_n dX12_total_15 rfl ?_
      refine sx_callVi lk_X12_497 cl_12 s_224 (by decide) dX12_total_16 (vs := []) rfl rfl (Nat.le_of_ble_eq_true rfl) (Nat.le_of_ble_eq_true rfl) rfl (c_X12_lots _ Ih4.1) (fun x10 h9 ph9 => ?_)
      obtain ⟨rfl, p_x10⟩ := ph9
      rw [Ih4.2 224 36 rfl, Ih4.2 227 _ rfl] at p_x10
      refine sx_icmp_ge (tgt := 49) dX12_total_19 (by decide) (fun c11 => ?_) (fun c11 => ?_)
      ·
        refine sx_iload_n dX12_total_49 rfl ?_
        refine sx_ireturn dX12_total_50 ?_
        exact ⟨_, rfl, ⟨Ih4, mB_mK Ih4 rfl rfl hJ hB, Ih4.2 224 100 rfl, by split <;> omega⟩⟩
      ·
        exfalso; omega
    · exact ⟨hI, by omega, by omega⟩
  ·
    replace p_x2 := mt p_x2.mpr (show ¬ (x2 = 1) by rw [c3]; decide)
    clear zx2
    refine sx_iconst dX12_total_8 ⟨by decide, by decide⟩ ?_
    refine sx_ireturn dX12_total_9 ?_
    exact ⟨_, rfl, ⟨hI, mB_mK hI rfl rfl hJ hB, hI.2 224 100 rfl, by split <;> omega⟩⟩
set_option maxRecDepth 20000 in
set_option maxHeartbeats 4000000 in
theorem f_X12_commonest {G : sw_G} (d : Nat) {h0 : sw_H} (hJ : mI h0) (hB : mB h0) (hF : FM h0)  : sw_E G NH SH (d) mX12_commonest 0 [some (sw_r 224), none, none, none, none, none] [] h0 (sw_Qi (fun z h' => h0 = h' ∧ (z = (-1)))) := by
  have hI : mK (prW [] []) h0 h0 := mK.refl hJ
  obtain ⟨b0, r0, t2, k4, k5, a3, a4, l3, s9, t0, z7, z8, z9, z10, z12, z61, z89⟩ := hF
  have fw : h0 227 (h0 224 36).toNat = 0 := z7 _
  have fi : h0 228 (h0 224 36).toNat = 0 := z8 _
  refine sx_iconst dX12_commonest_0 ⟨by decide, by decide⟩ ?_
  refine sx_istore_n dX12_commonest_1 (by decide) ?_
  refine sx_iconst dX12_commonest_2 ⟨by decide, by decide⟩ ?_
  refine sx_istore_n dX12_commonest_3 (by decide) ?_
  refine sx_iconst dX12_commonest_4 ⟨by decide, by decide⟩ ?_
  refine sx_istore_n dX12_commonest_5 (by decide) ?_
  refine sx_loop3 (fun (h : sw_H) (its : Int) (most : Int) (t : Int) => (h0 = h) ∧ (0 ≤ t) ∧ (its = -1) ∧ (most = 0)) (fun (h : sw_H) (its : Int) (most : Int) (t : Int) => (20 - t).toNat) (fun (h : sw_H) (its : Int) (most : Int) (t : Int) => sw_E G NH SH (d) mX12_commonest 6 [some (sw_r 224), some (sw_i its), some (sw_i most), some (sw_i t), none, none] [] h (sw_Qi (fun z h' => h0 = h' ∧ (z = (-1))))) ?_ _ _ _ _ ?_
  · rintro h1 its_2 most_3 t_4 ⟨rfl, j5, j6, j7⟩ ihh1
    try dsimp only at ihh1
    refine sx_iload_n dX12_commonest_6 rfl ?_
    refine sx_bipush dX12_commonest_7 ⟨by decide, by decide, by decide⟩ ?_
    refine sx_icmp_ge (tgt := 103) dX12_commonest_9 (by decide) (fun c8 => ?_) (fun c8 => ?_)
    ·
      refine sx_iload_n dX12_commonest_103 rfl ?_
      refine sx_ireturn dX12_commonest_104 ?_
      exact ⟨_, rfl, ⟨rfl, by first | omega | (exfalso; omega)⟩⟩
    ·
      refine sx_iconst dX12_commonest_12 ⟨by decide, by decide⟩ ?_
      refine sx_istore dX12_commonest_13 (by decide) ?_
      refine sx_bipush dX12_commonest_15 ⟨by decide, by decide, by decide⟩ ?_
      refine sx_aload_n dX12_commonest_17 rfl ?_
      refine sx_getI (k := 36) cl_12 fl_X12_349 dX12_commonest_18 s_224 (by decide) rfl (by decide) ?_
      have r9 : (0 : Int) ≤ h0 224 36 ∧ h0 224 36 ≤ 1 := hI.1 224 36
      refine sx_imul dX12_commonest_21 ?_
      refine sy_topw (by omega) ?_
      refine sy_top (fun v10 ev10 => ?_)
      refine sx_istore dX12_commonest_22 (by decide) ?_
      refine sx_loop2 (fun (h : sw_H) (n : Int) (k : Int) => (h0 = h) ∧ (k = 60 * h0 224 36) ∧ (n = 0)) (fun (h : sw_H) (n : Int) (k : Int) => (120 - k).toNat) (fun (h : sw_H) (n : Int) (k : Int) => sw_E G NH SH (d) mX12_commonest 24 [some (sw_r 224), some (sw_i its_2), some (sw_i most_3), some (sw_i t_4), some (sw_i n), some (sw_i k)] [] h (sw_Qi (fun z h' => h0 = h' ∧ (z = (-1))))) ?_ _ _ _ ?_
      · rintro h11 n_12 k_13 ⟨rfl, j14, j15⟩ ihh11
        try dsimp only at ihh11
        refine sx_iload dX12_commonest_24 rfl ?_
        refine sx_bipush dX12_commonest_26 ⟨by decide, by decide, by decide⟩ ?_
        refine sx_aload_n dX12_commonest_28 rfl ?_
        refine sx_getI (k := 36) cl_12 fl_X12_349 dX12_commonest_29 s_224 (by decide) rfl (by decide) ?_
        have r16 : (0 : Int) ≤ h0 224 36 ∧ h0 224 36 ≤ 1 := hI.1 224 36
        refine sx_imul dX12_commonest_32 ?_
        refine sy_topw (by omega) ?_
        refine sx_aload_n dX12_commonest_33 rfl ?_
        refine sx_getS (k := 12) (t := 228) cl_12 fl_X12_24 dX12_commonest_34 s_224 (by decide) rfl (by decide) ?_
        refine sx_aload_n dX12_commonest_37 rfl ?_
        refine sx_getI (k := 36) cl_12 fl_X12_349 dX12_commonest_38 s_224 (by decide) rfl (by decide) ?_
        have r17 : (0 : Int) ≤ h0 224 36 ∧ h0 224 36 ≤ 1 := hI.1 224 36
        refine sy_iaF (F := fun z => (0 : Int) ≤ z ∧ z ≤ 60) dX12_commonest_41 s_228 (by decide) (by decide) ⟨by omega, by omega⟩ (hI.1 228 _) (fun r18 => ?_)
        refine sx_iadd dX12_commonest_42 ?_
        refine sy_topw (by omega) ?_
        refine sx_icmp_ge (tgt := 83) dX12_commonest_43 (by decide) (fun c19 => ?_) (fun c19 => ?_)
        ·
          refine sx_iload dX12_commonest_83 rfl ?_
          refine sx_iload_n dX12_commonest_85 rfl ?_
          refine sx_icmp_gt (tgt := 92) dX12_commonest_86 (by decide) (fun c20 => ?_) (fun c20 => ?_)
          ·
            exfalso; omega
          ·
            refine sx_goto (tgt := 97) dX12_commonest_89 (by decide) ?_
            refine sx_iinc dX12_commonest_97 (by decide) rfl ?_
            rw [sw_w_id (by omega) (by omega)]
            refine sx_goto (tgt := 6) dX12_commonest_100 (by decide) ?_
            refine sx_kill 4 ?_
            refine sx_kill 5 ?_
            exact ihh1 _ _ _ _ ⟨rfl, by omega, by omega, by omega⟩ (by exact sy_dec (by omega) (by omega))
        ·
          exfalso; omega
      · exact ⟨rfl, by omega, by omega⟩
  · exact ⟨rfl, by omega, by omega, by omega⟩
set_option maxRecDepth 20000 in
set_option maxHeartbeats 4000000 in
theorem f_X12_pure {G : sw_G} (d : Nat) {h0 : sw_H} (hJ : mI h0) (hB : mB h0) (hF : FM h0)  : sw_E G NH SH (d + 2) mX12_pure 0 [some (sw_r 224), none, none, none] [] h0 (sw_Qi (fun z h' => h0 = h' ∧ (z = (0)))) := by
  have hI : mK (prW [] []) h0 h0 := mK.refl hJ
  obtain ⟨b0, r0, t2, k4, k5, a3, a4, l3, s9, t0, z7, z8, z9, z10, z12, z61, z89⟩ := hF
  have fw : h0 227 (h0 224 36).toNat = 0 := z7 _
  have fi : h0 228 (h0 224 36).toNat = 0 := z8 _
  refine sx_iconst dX12_pure_0 ⟨by decide, by decide⟩ ?_
  refine sx_istore_n dX12_pure_1 (by decide) ?_
  refine sx_iconst dX12_pure_2 ⟨by decide, by decide⟩ ?_
  refine sx_istore_n dX12_pure_3 (by decide) ?_
  refine sx_loop2 (fun (h : sw_H) (set : Int) (w : Int) => (h0 = h) ∧ (w = 0) ∧ (set = 0)) (fun (h : sw_H) (set : Int) (w : Int) => (10 - w).toNat) (fun (h : sw_H) (set : Int) (w : Int) => sw_E G NH SH (d + 2) mX12_pure 4 [some (sw_r 224), some (sw_i set), some (sw_i w), none] [] h (sw_Qi (fun z h' => h0 = h' ∧ (z = (0))))) ?_ _ _ _ ?_
  · rintro h1 set_2 w_3 ⟨rfl, j4, j5⟩ ihh1
    try dsimp only at ihh1
    refine sx_iload_n dX12_pure_4 rfl ?_
    refine sx_aload_n dX12_pure_5 rfl ?_
    refine sx_callVi lk_X12_497 cl_12 s_224 (by decide) dX12_pure_6 (vs := []) rfl rfl (Nat.le_of_ble_eq_true rfl) (Nat.le_of_ble_eq_true rfl) rfl (c_X12_lots _ hI.1) (fun x7 h6 ph6 => ?_)
    obtain ⟨rfl, p_x7⟩ := ph6
    refine sx_icmp_ge (tgt := 50) dX12_pure_9 (by decide) (fun c8 => ?_) (fun c8 => ?_)
    ·
      refine sx_iload_n dX12_pure_50 rfl ?_
      refine sx_ireturn dX12_pure_51 ?_
      exact ⟨_, rfl, ⟨rfl, by first | omega | (exfalso; omega)⟩⟩
    ·
      exfalso; omega
  · exact ⟨rfl, by omega, by omega⟩
set_option maxRecDepth 20000 in
set_option maxHeartbeats 4000000 in
theorem f_X12_divisor {G : sw_G} (d : Nat) {h0 : sw_H} (hJ : mI h0) (y1 y2 : Int) (hb : 1 ≤ y1 ∧ y1 ≤ 100000000) (he : y1 = y2)  : sw_E G NH SH (d) mX12_divisor 0 [some (sw_i y1), some (sw_i y2), none, none, none] [] h0 (sw_Qi (fun z h' => h0 = h' ∧ (z = y1))) := by
  have hI : mK (prW [] []) h0 h0 := mK.refl hJ
  refine sx_iload_n dX12_divisor_0 rfl ?_
  refine sx_istore_n dX12_divisor_1 (by decide) ?_
  refine sx_iload_n dX12_divisor_2 rfl ?_
  refine sx_istore_n dX12_divisor_3 (by decide) ?_
  refine sx_loop2 (fun (h : sw_H) (x : Int) (y : Int) => (h0 = h) ∧ (x = y1) ∧ (y = y1 ∨ y = 0)) (fun (h : sw_H) (x : Int) (y : Int) => y.toNat) (fun (h : sw_H) (x : Int) (y : Int) => sw_E G NH SH (d) mX12_divisor 4 [some (sw_i y1), some (sw_i y2), some (sw_i x), some (sw_i y), none] [] h (sw_Qi (fun z h' => h0 = h' ∧ (z = y1)))) ?_ _ _ _ ?_
  · rintro h1 x_2 y_3 ⟨rfl, j4, j5⟩ ihh1
    try dsimp only at ihh1
    refine sx_iload_n dX12_divisor_4 rfl ?_
    refine sx_if_le (tgt := 21) dX12_divisor_5 (by decide) (fun c6 => ?_) (fun c6 => ?_)
    ·
      refine sx_iload_n dX12_divisor_21 rfl ?_
      refine sx_ireturn dX12_divisor_22 ?_
      exact ⟨_, rfl, ⟨rfl, by omega⟩⟩
    ·
      have e10 : Int.tmod x_2 y_3 = 0 := tm0 (by omega) (by omega)
      refine sx_iload_n dX12_divisor_8 rfl ?_
      refine sx_iload_n dX12_divisor_9 rfl ?_
      refine sx_irem dX12_divisor_10 (by omega) ?_
      refine sy_topw (by omega) ?_
      refine sy_top (fun v7 ev7 => ?_)
      refine sx_istore dX12_divisor_11 (by decide) ?_
      refine sx_iload_n dX12_divisor_13 rfl ?_
      refine sx_istore_n dX12_divisor_14 (by decide) ?_
      refine sx_iload dX12_divisor_15 rfl ?_
      refine sx_istore_n dX12_divisor_17 (by decide) ?_
      refine sx_goto (tgt := 4) dX12_divisor_18 (by decide) ?_
      refine sx_kill 4 ?_
      exact ihh1 _ _ _ ⟨rfl, by omega, by omega⟩ (by exact sy_dec (by omega) (by omega))
  · exact ⟨rfl, by omega, by omega⟩
set_option maxRecDepth 20000 in
set_option maxHeartbeats 4000000 in
theorem f_X12_odds {G : sw_G} (d : Nat) {h0 : sw_H} (hJ : mI h0) (y1 y2 : Int) (hB : mB h0) (hF : FM h0)  : sw_E G NH SH (d + 1) mX12_odds 0 [some (sw_r 224), some (sw_i y1), some (sw_i y2), none, none] [] h0 (sw_Qi (fun z h' => h0 = h' ∧ (z = (if (0 ≤ y1 ∧ y1 ≤ 4) ∧ (0 ≤ y2 ∧ y2 ≤ 1) then 1 else -1)))) := by
  have hI : mK (prW [] []) h0 h0 := mK.refl hJ
  obtain ⟨b0, r0, t2, k4, k5, a3, a4, l3, s9, t0, z7, z8, z9, z10, z12, z61, z89⟩ := hF
  have fw : h0 227 (h0 224 36).toNat = 0 := z7 _
  have fi : h0 228 (h0 224 36).toNat = 0 := z8 _
  have ff : h0 230 (h0 224 36).toNat = 0 := z10 _
  refine sx_iload_n dX12_odds_0 rfl ?_
  refine sx_iconst dX12_odds_1 ⟨by decide, by decide⟩ ?_
  refine sx_iconst dX12_odds_2 ⟨by decide, by decide⟩ ?_
  refine sx_callSz lk_X12_500 dX12_odds_3 (vs := [_, _, _]) rfl rfl (Nat.le_of_ble_eq_true rfl) (Nat.le_of_ble_eq_true rfl) rfl (c_X12_isIn _ hI.1 _ _ _) (fun x2 h1 zx2 ph1 => ?_)
  obtain ⟨rfl, p_x2⟩ := ph1
  refine sx_if_eq (tgt := 18) dX12_odds_6 (by decide) (fun c3 => ?_) (fun c3 => ?_)
  ·
    replace p_x2 := mt p_x2.mpr (show ¬ (x2 = 1) by rw [c3]; decide)
    clear zx2
    refine sx_iconst dX12_odds_18 ⟨by decide, by decide⟩ ?_
    refine sx_ireturn dX12_odds_19 ?_
    exact ⟨_, rfl, ⟨rfl, by rw [if_neg (by omega)]⟩⟩
  ·
    have vx2 : x2 = 1 := by rcases zx2 with q | q; (exact absurd q c3); exact q
    replace p_x2 := p_x2.mp vx2
    clear zx2
    refine sx_iload_n dX12_odds_9 rfl ?_
    refine sx_iconst dX12_odds_10 ⟨by decide, by decide⟩ ?_
    refine sx_iconst dX12_odds_11 ⟨by decide, by decide⟩ ?_
    refine sx_callSz lk_X12_500 dX12_odds_12 (vs := [_, _, _]) rfl rfl (Nat.le_of_ble_eq_true rfl) (Nat.le_of_ble_eq_true rfl) rfl (c_X12_isIn _ hI.1 _ _ _) (fun x5 h4 zx5 ph4 => ?_)
    obtain ⟨rfl, p_x5⟩ := ph4
    refine sx_if_ne (tgt := 20) dX12_odds_15 (by decide) (fun c6 => ?_) (fun c6 => ?_)
    ·
      have vx5 : x5 = 1 := by rcases zx5 with q | q; (exact absurd q c6); exact q
      replace p_x5 := p_x5.mp vx5
      clear zx5
      have pb := pw_100 (n := y1) (by omega) (by omega)
      refine sx_bipush dX12_odds_20 ⟨by decide, by decide, by decide⟩ ?_
      refine sx_aload_n dX12_odds_22 rfl ?_
      refine sx_getS (k := 14) (t := 230) cl_12 fl_X12_30 dX12_odds_23 s_224 (by decide) rfl (by decide) ?_
      refine sx_aload_n dX12_odds_26 rfl ?_
      refine sx_getI (k := 36) cl_12 fl_X12_349 dX12_odds_27 s_224 (by decide) rfl (by decide) ?_
      have r7 : (0 : Int) ≤ h0 224 36 ∧ h0 224 36 ≤ 1 := hI.1 224 36
      refine sy_iaF (F := fun z => (0 : Int) ≤ z ∧ z ≤ 100) dX12_odds_30 s_230 (by decide) (by decide) ⟨by omega, by omega⟩ (hI.1 230 _) (fun r8 => ?_)
      refine sx_isub dX12_odds_31 ?_
      refine sy_topw (by omega) ?_
      refine sx_iload_n dX12_odds_32 rfl ?_
      refine sx_callSi lk_X12_598 dX12_odds_33 (vs := [_, _]) rfl rfl (Nat.le_of_ble_eq_true rfl) (Nat.le_of_ble_eq_true rfl) rfl (c_X12_power _ hI.1 _ _ (by first | omega | (rw [Int.tmod_eq_emod_of_nonneg (by omega)]; omega) | (rw [Int.tdiv_eq_ediv_of_nonneg (by omega)]; omega))) (fun x10 h9 ph9 => ?_)
      obtain ⟨rfl, p_x10⟩ := ph9
      rw [show (100 : Int) - h0 230 (h0 224 36).toNat = 100 by omega] at p_x10
      refine sx_istore_n dX12_odds_36 (by decide) ?_
      refine sx_bipush dX12_odds_37 ⟨by decide, by decide, by decide⟩ ?_
      refine sx_iload_n dX12_odds_39 rfl ?_
      refine sx_callSi lk_X12_598 dX12_odds_40 (vs := [_, _]) rfl rfl (Nat.le_of_ble_eq_true rfl) (Nat.le_of_ble_eq_true rfl) rfl (c_X12_power _ hI.1 _ _ (by first | omega | (rw [Int.tmod_eq_emod_of_nonneg (by omega)]; omega) | (rw [Int.tdiv_eq_ediv_of_nonneg (by omega)]; omega))) (fun x12 h11 ph11 => ?_)
      obtain ⟨rfl, p_x12⟩ := ph11
      refine sx_istore dX12_odds_43 (by decide) ?_
      refine sx_iload_n dX12_odds_45 rfl ?_
      refine sx_if_ne (tgt := 53) dX12_odds_46 (by decide) (fun c13 => ?_) (fun c13 => ?_)
      ·
        refine sx_iload dX12_odds_53 rfl ?_
        refine sx_iload dX12_odds_55 rfl ?_
        refine sx_iload_n dX12_odds_57 rfl ?_
        refine sx_callSi lk_X12_676 dX12_odds_58 (vs := [_, _]) rfl rfl (Nat.le_of_ble_eq_true rfl) (Nat.le_of_ble_eq_true rfl) rfl (f_X12_divisor _ hI.1 _ _ (by omega) (by omega)) (fun x15 h14 ph14 => ?_)
        obtain ⟨rfl, p_x15⟩ := ph14
        refine sx_idiv dX12_odds_61 (by omega) ?_
        refine sx_ireturn dX12_odds_62 ?_
        exact ⟨_, rfl, ⟨rfl, by rw [if_pos (by omega)]; exact dv1 (by omega) (by omega)⟩⟩
      ·
        refine sx_iload_n dX12_odds_49 rfl ?_
        refine sx_goto (tgt := 55) dX12_odds_50 (by decide) ?_
        refine sx_iload dX12_odds_55 rfl ?_
        refine sx_iload_n dX12_odds_57 rfl ?_
        refine sx_callSi lk_X12_676 dX12_odds_58 (vs := [_, _]) rfl rfl (Nat.le_of_ble_eq_true rfl) (Nat.le_of_ble_eq_true rfl) rfl (f_X12_divisor _ hI.1 _ _ (by omega) (by omega)) (fun x17 h16 ph16 => ?_)
        obtain ⟨rfl, p_x17⟩ := ph16
        refine sx_idiv dX12_odds_61 (by omega) ?_
        refine sx_ireturn dX12_odds_62 ?_
        exact ⟨_, rfl, ⟨rfl, by rw [if_pos (by omega)]; exact dv1 (by omega) (by omega)⟩⟩
    ·
      replace p_x5 := mt p_x5.mpr (show ¬ (x5 = 1) by rw [c6]; decide)
      clear zx5
      refine sx_iconst dX12_odds_18 ⟨by decide, by decide⟩ ?_
      refine sx_ireturn dX12_odds_19 ?_
      exact ⟨_, rfl, ⟨rfl, by rw [if_neg (by omega)]⟩⟩
set_option maxRecDepth 20000 in
set_option maxHeartbeats 4000000 in
theorem f_X12_couldBe {G : sw_G} (d : Nat) {h0 : sw_H} (hJ : mI h0) (y1 : Int) (hz : h0 227 (h0 224 36).toNat = 0)  : sw_E G NH SH (d + 1) mX12_couldBe 0 [some (sw_r 224), some (sw_i y1), none, none, none] [] h0 (sw_Qz (fun z h' => h0 = h' ∧ (z = 0))) := by
  have hI : mK (prW [] []) h0 h0 := mK.refl hJ
  refine sx_aload_n dX12_couldBe_0 rfl ?_
  refine sx_callVi lk_X12_497 cl_12 s_224 (by decide) dX12_couldBe_1 (vs := []) rfl rfl (Nat.le_of_ble_eq_true rfl) (Nat.le_of_ble_eq_true rfl) rfl (c_X12_lots _ hI.1) (fun x2 h1 ph1 => ?_)
  obtain ⟨rfl, p_x2⟩ := ph1
  refine sx_iconst dX12_couldBe_4 ⟨by decide, by decide⟩ ?_
  refine sx_isub dX12_couldBe_5 ?_
  refine sy_topw (by omega) ?_
  refine sy_top (fun v3 ev3 => ?_)
  refine sx_istore_n dX12_couldBe_6 (by decide) ?_
  refine sx_iload_n dX12_couldBe_7 rfl ?_
  refine sx_if_lt (tgt := 34) dX12_couldBe_8 (by decide) (fun c4 => ?_) (fun c4 => ?_)
  ·
    refine sx_iconst dX12_couldBe_34 ⟨by decide, by decide⟩ ?_
    refine sx_ireturn dX12_couldBe_35 ?_
    exact ⟨_, rfl, by omega, ⟨rfl, by omega⟩⟩
  ·
    exfalso; omega
set_option maxRecDepth 20000 in
set_option maxHeartbeats 4000000 in
theorem f_X12_layFits {G : sw_G} (d : Nat) {h0 : sw_H} (hJ : mI h0) (y1 : Int) (hz : h0 227 (h0 224 36).toNat = 0)  : sw_E G NH SH (d + 2) mX12_layFits 0 [some (sw_r 224), some (sw_i y1), none, none] [] h0 (sw_Qi (fun z h' => mK (prW [] [287]) h0 h' ∧ (z = 0))) := by
  have hI : mK (prW [] [287]) h0 h0 := mK.refl hJ
  refine sx_iconst dX12_layFits_0 ⟨by decide, by decide⟩ ?_
  refine sx_istore_n dX12_layFits_1 (by decide) ?_
  refine sx_iconst dX12_layFits_2 ⟨by decide, by decide⟩ ?_
  refine sx_istore_n dX12_layFits_3 (by decide) ?_
  refine sx_loop2 (fun (h : sw_H) (n : Int) (t : Int) => (mK (prW [] [287]) h0 h) ∧ (0 ≤ t) ∧ (n = 0)) (fun (h : sw_H) (n : Int) (t : Int) => (20 - t).toNat) (fun (h : sw_H) (n : Int) (t : Int) => sw_E G NH SH (d + 2) mX12_layFits 4 [some (sw_r 224), some (sw_i y1), some (sw_i n), some (sw_i t)] [] h (sw_Qi (fun z h' => mK (prW [] [287]) h0 h' ∧ (z = 0)))) ?_ _ _ _ ?_
  · rintro h1 n_2 t_3 ⟨Ih1, j4, j5⟩ ihh1
    try dsimp only at ihh1
    refine sx_iload_n dX12_layFits_4 rfl ?_
    refine sx_bipush dX12_layFits_5 ⟨by decide, by decide, by decide⟩ ?_
    refine sx_icmp_ge (tgt := 61) dX12_layFits_7 (by decide) (fun c6 => ?_) (fun c6 => ?_)
    ·
      refine sx_iload_n dX12_layFits_61 rfl ?_
      refine sx_ireturn dX12_layFits_62 ?_
      exact ⟨_, rfl, ⟨Ih1, by omega⟩⟩
    ·
      refine sx_aload_n dX12_layFits_10 rfl ?_
      refine sx_getS (k := 98) (t := 287) cl_12 fl_X12_208 dX12_layFits_11 s_224 (by decide) rfl (by decide) ?_
      refine sx_iload_n dX12_layFits_14 rfl ?_
      refine sx_aload_n dX12_layFits_15 rfl ?_
      refine sx_iload_n dX12_layFits_16 rfl ?_
      refine sx_callVz lk_X12_686 cl_12 s_224 (by decide) dX12_layFits_17 (vs := [_]) rfl rfl (Nat.le_of_ble_eq_true rfl) (Nat.le_of_ble_eq_true rfl) rfl (f_X12_couldBe _ Ih1.1 _ (by rw [Ih1.2 224 36 rfl, Ih1.2 227 _ rfl]; exact hz)) (fun x8 h7 zx8 ph7 => ?_)
      obtain ⟨rfl, p_x8⟩ := ph7
      refine sx_if_eq (tgt := 36) dX12_layFits_20 (by decide) (fun c9 => ?_) (fun c9 => ?_)
      ·
        clear zx8
        refine sx_iconst dX12_layFits_36 ⟨by decide, by decide⟩ ?_
        refine sy_zastore dX12_layFits_37 s_287 (by decide) (by decide) ⟨by omega, by omega⟩ (by omega) (fun h10 eh10 => ?_)
        have Ih10 := Ih1.up eh10 trivial rfl
        have e38 := eh10.1
        refine sx_iload_n dX12_layFits_38 rfl ?_
        refine sx_aload_n dX12_layFits_39 rfl ?_
        refine sx_getS (k := 98) (t := 287) cl_12 fl_X12_208 dX12_layFits_40 s_224 (by decide) rfl (by decide) ?_
        refine sx_iload_n dX12_layFits_43 rfl ?_
        refine sx_zaload dX12_layFits_44 s_287 (by decide) (by decide) ⟨by omega, by omega⟩ (fun b11 b12 => ?_)
        refine sx_if_eq (tgt := 52) dX12_layFits_45 (by decide) (fun c13 => ?_) (fun c13 => ?_)
        ·
          refine sx_iconst dX12_layFits_52 ⟨by decide, by decide⟩ ?_
          refine sx_iadd dX12_layFits_53 ?_
          refine sy_topw (by omega) ?_
          refine sy_top (fun v14 ev14 => ?_)
          refine sx_istore_n dX12_layFits_54 (by decide) ?_
          refine sx_iinc dX12_layFits_55 (by decide) rfl ?_
          rw [sw_w_id (by omega) (by omega)]
          refine sx_goto (tgt := 4) dX12_layFits_58 (by decide) ?_
          exact ihh1 _ _ _ ⟨Ih10, by omega, by omega⟩ (by exact sy_dec (by omega) (by omega))
        ·
          exfalso; omega
      ·
        have vx8 : x8 = 1 := by rcases zx8 with q | q; (exact absurd q c9); exact q
        clear zx8
        exfalso; omega
  · exact ⟨hI, by omega, by omega⟩
set_option maxRecDepth 20000 in
set_option maxHeartbeats 4000000 in
theorem f_X12_fits {G : sw_G} (d : Nat) {h0 : sw_H} (hJ : mI h0) (y1 : Int) (hB : mB h0) (hF : FM h0)  : sw_E G NH SH (d + 3) mX12_fits 0 [some (sw_r 224), some (sw_i y1)] [] h0 (sw_Qi (fun z h' => mK (prW [] [287]) h0 h' ∧ (mB h') ∧ (h' 224 100 = h0 224 100) ∧ (z = (0)))) := by
  have hI : mK (prW [] [287]) h0 h0 := mK.refl hJ
  obtain ⟨b0, r0, t2, k4, k5, a3, a4, l3, s9, t0, z7, z8, z9, z10, z12, z61, z89⟩ := hF
  have fw : h0 227 (h0 224 36).toNat = 0 := z7 _
  have fi : h0 228 (h0 224 36).toNat = 0 := z8 _
  refine sx_aload_n dX12_fits_0 rfl ?_
  refine sx_iload_n dX12_fits_1 rfl ?_
  refine sx_callVi lk_X12_692 cl_12 s_224 (by decide) dX12_fits_2 (vs := [_]) rfl rfl (Nat.le_of_ble_eq_true rfl) (Nat.le_of_ble_eq_true rfl) rfl (f_X12_layFits _ hI.1 _ (fw)) (fun x2 h1 ph1 => ?_)
  obtain ⟨Kh1, p_h1⟩ := ph1
  have Ih1 := hI.tr Kh1 (prW_sub rfl rfl)
  refine sx_ireturn dX12_fits_5 ?_
  exact ⟨_, rfl, ⟨Ih1, mB_mK Ih1 rfl rfl hJ hB, Ih1.2 224 100 rfl, by first | omega | (exfalso; omega)⟩⟩
set_option maxRecDepth 20000 in
set_option maxHeartbeats 4000000 in
theorem f_X12_fit {G : sw_G} (d : Nat) {h0 : sw_H} (hJ : mI h0) (y1 y2 : Int) (hB : mB h0) (hF : FM h0)  : sw_E G NH SH (d + 3) mX12_fit 0 [some (sw_r 224), some (sw_i y1), some (sw_i y2), none, none, none] [] h0 (sw_Qi (fun z h' => mK (prW [] [287]) h0 h' ∧ (mB h') ∧ (h' 224 100 = h0 224 100) ∧ (z = (-1)))) := by
  have hI : mK (prW [] [287]) h0 h0 := mK.refl hJ
  obtain ⟨b0, r0, t2, k4, k5, a3, a4, l3, s9, t0, z7, z8, z9, z10, z12, z61, z89⟩ := hF
  have fw : h0 227 (h0 224 36).toNat = 0 := z7 _
  have fi : h0 228 (h0 224 36).toNat = 0 := z8 _
  refine sx_aload_n dX12_fit_0 rfl ?_
  refine sx_iload_n dX12_fit_1 rfl ?_
  refine sx_callVi lk_X12_692 cl_12 s_224 (by decide) dX12_fit_2 (vs := [_]) rfl rfl (Nat.le_of_ble_eq_true rfl) (Nat.le_of_ble_eq_true rfl) rfl (f_X12_layFits _ hI.1 _ (fw)) (fun x2 h1 ph1 => ?_)
  obtain ⟨Kh1, p_h1⟩ := ph1
  have Ih1 := hI.tr Kh1 (prW_sub rfl rfl)
  refine sx_istore_n dX12_fit_5 (by decide) ?_
  refine sx_iload_n dX12_fit_6 rfl ?_
  refine sx_istore dX12_fit_7 (by decide) ?_
  refine sx_iconst dX12_fit_9 ⟨by decide, by decide⟩ ?_
  refine sx_istore dX12_fit_10 (by decide) ?_
  refine sx_loop2 (fun (h : sw_H) (left : Int) (t : Int) => (h1 = h) ∧ (t = 0)) (fun (h : sw_H) (left : Int) (t : Int) => (20 - t).toNat) (fun (h : sw_H) (left : Int) (t : Int) => sw_E G NH SH (d + 3) mX12_fit 12 [some (sw_r 224), some (sw_i y1), some (sw_i y2), some (sw_i x2), some (sw_i left), some (sw_i t)] [] h (sw_Qi (fun z h' => mK (prW [] [287]) h0 h' ∧ (mB h') ∧ (h' 224 100 = h0 224 100) ∧ (z = (-1))))) ?_ _ _ _ ?_
  · rintro h3 left_4 t_5 ⟨rfl, j6⟩ ihh3
    try dsimp only at ihh3
    refine sx_iload dX12_fit_12 rfl ?_
    refine sx_bipush dX12_fit_14 ⟨by decide, by decide, by decide⟩ ?_
    refine sx_icmp_ge (tgt := 58) dX12_fit_16 (by decide) (fun c7 => ?_) (fun c7 => ?_)
    ·
      refine sx_iconst dX12_fit_58 ⟨by decide, by decide⟩ ?_
      refine sx_ireturn dX12_fit_59 ?_
      exact ⟨_, rfl, ⟨Ih1, mB_mK Ih1 rfl rfl hJ hB, Ih1.2 224 100 rfl, by first | omega | (exfalso; omega)⟩⟩
    ·
      refine sx_iload_n dX12_fit_19 rfl ?_
      refine sx_if_lt (tgt := 58) dX12_fit_20 (by decide) (fun c8 => ?_) (fun c8 => ?_)
      ·
        refine sx_iconst dX12_fit_58 ⟨by decide, by decide⟩ ?_
        refine sx_ireturn dX12_fit_59 ?_
        exact ⟨_, rfl, ⟨Ih1, mB_mK Ih1 rfl rfl hJ hB, Ih1.2 224 100 rfl, by first | omega | (exfalso; omega)⟩⟩
      ·
        refine sx_iload_n dX12_fit_23 rfl ?_
        refine sx_iload_n dX12_fit_24 rfl ?_
        refine sx_icmp_ge (tgt := 58) dX12_fit_25 (by decide) (fun c9 => ?_) (fun c9 => ?_)
        ·
          refine sx_iconst dX12_fit_58 ⟨by decide, by decide⟩ ?_
          refine sx_ireturn dX12_fit_59 ?_
          exact ⟨_, rfl, ⟨Ih1, mB_mK Ih1 rfl rfl hJ hB, Ih1.2 224 100 rfl, by first | omega | (exfalso; omega)⟩⟩
        ·
          exfalso; omega
  · exact ⟨rfl, by omega⟩
set_option maxRecDepth 20000 in
set_option maxHeartbeats 4000000 in
theorem f_X12_ask {G : sw_G} (d : Nat) {h0 : sw_H} (hJ : mI h0) (y1 y2 y3 y4 : Int) (hB : mB h0) (hF : FM h0)  : sw_E G NH SH (d + 3) mX12_ask 0 [some (sw_r 224), some (sw_i y1), some (sw_i y2), some (sw_i y3), some (sw_i y4), none, none, none, none] [] h0 (sw_Qi (fun z h' => mK (prW [] [287]) h0 h' ∧ (mB h') ∧ (h' 224 100 = h0 224 100) ∧ (z = (-1)))) := by
  have hI : mK (prW [] [287]) h0 h0 := mK.refl hJ
  obtain ⟨b0, r0, t2, k4, k5, a3, a4, l3, s9, t0, z7, z8, z9, z10, z12, z61, z89⟩ := hF
  have fw : h0 227 (h0 224 36).toNat = 0 := z7 _
  have fi : h0 228 (h0 224 36).toNat = 0 := z8 _
  refine sx_iload_n dX12_ask_0 rfl ?_
  refine sx_iconst dX12_ask_1 ⟨by decide, by decide⟩ ?_
  refine sx_bipush dX12_ask_2 ⟨by decide, by decide, by decide⟩ ?_
  refine sx_callSz lk_X12_500 dX12_ask_4 (vs := [_, _, _]) rfl rfl (Nat.le_of_ble_eq_true rfl) (Nat.le_of_ble_eq_true rfl) rfl (c_X12_isIn _ hI.1 _ _ _) (fun x2 h1 zx2 ph1 => ?_)
  obtain ⟨rfl, p_x2⟩ := ph1
  refine sx_if_eq (tgt := 38) dX12_ask_7 (by decide) (fun c3 => ?_) (fun c3 => ?_)
  ·
    replace p_x2 := mt p_x2.mpr (show ¬ (x2 = 1) by rw [c3]; decide)
    clear zx2
    refine sx_iconst dX12_ask_38 ⟨by decide, by decide⟩ ?_
    refine sx_ireturn dX12_ask_39 ?_
    exact ⟨_, rfl, ⟨hI, mB_mK hI rfl rfl hJ hB, hI.2 224 100 rfl, by first | omega | (exfalso; omega)⟩⟩
  ·
    have vx2 : x2 = 1 := by rcases zx2 with q | q; (exact absurd q c3); exact q
    replace p_x2 := p_x2.mp vx2
    clear zx2
    refine sx_iload_n dX12_ask_10 rfl ?_
    refine sx_iconst dX12_ask_11 ⟨by decide, by decide⟩ ?_
    refine sx_bipush dX12_ask_12 ⟨by decide, by decide, by decide⟩ ?_
    refine sx_callSz lk_X12_500 dX12_ask_14 (vs := [_, _, _]) rfl rfl (Nat.le_of_ble_eq_true rfl) (Nat.le_of_ble_eq_true rfl) rfl (c_X12_isIn _ hI.1 _ _ _) (fun x5 h4 zx5 ph4 => ?_)
    obtain ⟨rfl, p_x5⟩ := ph4
    refine sx_if_eq (tgt := 38) dX12_ask_17 (by decide) (fun c6 => ?_) (fun c6 => ?_)
    ·
      replace p_x5 := mt p_x5.mpr (show ¬ (x5 = 1) by rw [c6]; decide)
      clear zx5
      refine sx_iconst dX12_ask_38 ⟨by decide, by decide⟩ ?_
      refine sx_ireturn dX12_ask_39 ?_
      exact ⟨_, rfl, ⟨hI, mB_mK hI rfl rfl hJ hB, hI.2 224 100 rfl, by first | omega | (exfalso; omega)⟩⟩
    ·
      have vx5 : x5 = 1 := by rcases zx5 with q | q; (exact absurd q c6); exact q
      replace p_x5 := p_x5.mp vx5
      clear zx5
      refine sx_iload_n dX12_ask_20 rfl ?_
      refine sx_iconst dX12_ask_21 ⟨by decide, by decide⟩ ?_
      refine sx_iconst dX12_ask_22 ⟨by decide, by decide⟩ ?_
      refine sx_callSz lk_X12_500 dX12_ask_23 (vs := [_, _, _]) rfl rfl (Nat.le_of_ble_eq_true rfl) (Nat.le_of_ble_eq_true rfl) rfl (c_X12_isIn _ hI.1 _ _ _) (fun x8 h7 zx8 ph7 => ?_)
      obtain ⟨rfl, p_x8⟩ := ph7
      refine sx_if_eq (tgt := 38) dX12_ask_26 (by decide) (fun c9 => ?_) (fun c9 => ?_)
      ·
        replace p_x8 := mt p_x8.mpr (show ¬ (x8 = 1) by rw [c9]; decide)
        clear zx8
        refine sx_iconst dX12_ask_38 ⟨by decide, by decide⟩ ?_
        refine sx_ireturn dX12_ask_39 ?_
        exact ⟨_, rfl, ⟨hI, mB_mK hI rfl rfl hJ hB, hI.2 224 100 rfl, by first | omega | (exfalso; omega)⟩⟩
      ·
        have vx8 : x8 = 1 := by rcases zx8 with q | q; (exact absurd q c9); exact q
        replace p_x8 := p_x8.mp vx8
        clear zx8
        refine sx_aload_n dX12_ask_29 rfl ?_
        refine sx_iload dX12_ask_30 rfl ?_
        refine sx_callVi lk_X12_692 cl_12 s_224 (by decide) dX12_ask_32 (vs := [_]) rfl rfl (Nat.le_of_ble_eq_true rfl) (Nat.le_of_ble_eq_true rfl) rfl (f_X12_layFits _ hI.1 _ (fw)) (fun x11 h10 ph10 => ?_)
        obtain ⟨Kh10, p_h10⟩ := ph10
        have Ih10 := hI.tr Kh10 (prW_sub rfl rfl)
        refine sx_if_ne (tgt := 40) dX12_ask_35 (by decide) (fun c12 => ?_) (fun c12 => ?_)
        ·
          exfalso; omega
        ·
          refine sx_iconst dX12_ask_38 ⟨by decide, by decide⟩ ?_
          refine sx_ireturn dX12_ask_39 ?_
          exact ⟨_, rfl, ⟨Ih10, mB_mK Ih10 rfl rfl hJ hB, Ih10.2 224 100 rfl, by first | omega | (exfalso; omega)⟩⟩
set_option maxRecDepth 20000 in
set_option maxHeartbeats 4000000 in
theorem f_X12_feed {G : sw_G} (d : Nat) {h0 : sw_H} (hJ : mI h0) (y1 y2 y3 y4 y5 : Int) (hB : mB h0)  (hF : FM h0) : sw_E G NH SH (d) mX12_feed 0 [some (sw_r 224), some (sw_i y1), some (sw_i y2), some (sw_i y3), some (sw_i y4), some (sw_i y5), none, none] [] h0 (sw_Qi (fun z h' => mK (prW [2] [225]) h0 h' ∧ (mB h') ∧ (h' 224 100 = h0 224 100) ∧ (z = 20))) := by
  obtain ⟨b0, r0, t2, k4, k5, a3, a4, l3, s9, t0, z7, z8, z9, z10, z12, z61, z89⟩ := hF
  have fw : h0 227 (h0 224 36).toNat = 0 := z7 _
  have hI : mK (prW [2] [225]) h0 h0 := mK.refl hJ
  refine sx_aload_n dX12_feed_0 rfl ?_
  refine sx_getI (k := 2) cl_12 fl_X12_346 dX12_feed_1 s_224 (by decide) rfl (by decide) ?_
  have r1 : (0 : Int) ≤ h0 224 2 ∧ h0 224 2 ≤ 1600 := hI.1 224 2
  refine sx_bipush dX12_feed_4 ⟨by decide, by decide, by decide⟩ ?_
  refine sx_iadd dX12_feed_6 ?_
  refine sy_topw (by omega) ?_
  refine sx_sipush dX12_feed_7 ⟨by decide, by decide, by decide⟩ ?_
  refine sx_icmp_le (tgt := 15) dX12_feed_10 (by decide) (fun c2 => ?_) (fun c2 => ?_)
  ·
    refine sx_iconst dX12_feed_15 ⟨by decide, by decide⟩ ?_
    refine sx_istore dX12_feed_16 (by decide) ?_
    refine sx_loop1 (fun (h : sw_H) (k : Int) => (mK (prW [2] [225]) h0 h) ∧ (0 ≤ k) ∧ (h 224 2 = h0 224 2)) (fun (h : sw_H) (k : Int) => (20 - k).toNat) (fun (h : sw_H) (k : Int) => sw_E G NH SH (d) mX12_feed 18 [some (sw_r 224), some (sw_i y1), some (sw_i y2), some (sw_i y3), some (sw_i y4), some (sw_i y5), some (sw_i k), none] [] h (sw_Qi (fun z h' => mK (prW [2] [225]) h0 h' ∧ (mB h') ∧ (h' 224 100 = h0 224 100) ∧ (z = 20)))) ?_ _ _ ?_
    · rintro h3 k_4 ⟨Ih3, j5, j6⟩ ihh3
      try dsimp only at ihh3
      refine sx_iload dX12_feed_18 rfl ?_
      refine sx_bipush dX12_feed_20 ⟨by decide, by decide, by decide⟩ ?_
      refine sx_icmp_ge (tgt := 105) dX12_feed_22 (by decide) (fun c7 => ?_) (fun c7 => ?_)
      ·
        refine sx_aload_n dX12_feed_105 rfl ?_
        refine sx_dupr dX12_feed_106 ?_
        refine sx_getI (k := 2) cl_12 fl_X12_346 dX12_feed_107 s_224 (by decide) rfl (by decide) ?_
        have r8 : (0 : Int) ≤ h3 224 2 ∧ h3 224 2 ≤ 1600 := Ih3.1 224 2
        refine sx_bipush dX12_feed_110 ⟨by decide, by decide, by decide⟩ ?_
        refine sx_iadd dX12_feed_112 ?_
        refine sy_topw (by omega) ?_
        refine sy_putI (k := 2) cl_12 fl_X12_346 dX12_feed_113 s_224 (by decide) rfl (by decide) rfl rfl (fun h9 eh9 => ?_)
        have Ih9 := Ih3.up eh9 (show (0 : Int) ≤ _ ∧ _ ≤ (1600 : Int) from ⟨by omega, by omega⟩) rfl
        have th9_224_2 := eh9.1
        refine sx_aload_n dX12_feed_116 rfl ?_
        refine sx_getI (k := 2) cl_12 fl_X12_346 dX12_feed_117 s_224 (by decide) rfl (by decide) ?_
        have r10 : (0 : Int) ≤ h9 224 2 ∧ h9 224 2 ≤ 1600 := Ih9.1 224 2
        refine sx_ireturn dX12_feed_120 ?_
        exact ⟨_, rfl, ⟨Ih9, mB_mK Ih9 rfl rfl hJ hB, Ih9.2 224 100 rfl, by first | omega | (exfalso; omega)⟩⟩
      ·
        refine sx_iload dX12_feed_25 rfl ?_
        refine sx_iconst dX12_feed_27 ⟨by decide, by decide⟩ ?_
        refine sx_icmp_ge (tgt := 35) dX12_feed_28 (by decide) (fun c11 => ?_) (fun c11 => ?_)
        ·
          refine sx_iload dX12_feed_35 rfl ?_
          refine sx_bipush dX12_feed_37 ⟨by decide, by decide, by decide⟩ ?_
          refine sx_icmp_ge (tgt := 46) dX12_feed_39 (by decide) (fun c12 => ?_) (fun c12 => ?_)
          ·
            refine sx_iload dX12_feed_46 rfl ?_
            refine sx_bipush dX12_feed_48 ⟨by decide, by decide, by decide⟩ ?_
            refine sx_icmp_ge (tgt := 57) dX12_feed_50 (by decide) (fun c13 => ?_) (fun c13 => ?_)
            ·
              refine sx_iload dX12_feed_57 rfl ?_
              refine sx_bipush dX12_feed_59 ⟨by decide, by decide, by decide⟩ ?_
              refine sx_icmp_ge (tgt := 69) dX12_feed_61 (by decide) (fun c14 => ?_) (fun c14 => ?_)
              ·
                refine sx_iload dX12_feed_69 rfl ?_
                refine sx_istore dX12_feed_71 (by decide) ?_
                refine sx_aload_n dX12_feed_73 rfl ?_
                refine sx_getS (k := 0) (t := 225) cl_12 fl_X12_7 dX12_feed_74 s_224 (by decide) rfl (by decide) ?_
                refine sx_aload_n dX12_feed_77 rfl ?_
                refine sx_getI (k := 2) cl_12 fl_X12_346 dX12_feed_78 s_224 (by decide) rfl (by decide) ?_
                have r15 : (0 : Int) ≤ h3 224 2 ∧ h3 224 2 ≤ 1600 := Ih3.1 224 2
                refine sx_iload dX12_feed_81 rfl ?_
                refine sx_iadd dX12_feed_83 ?_
                refine sy_topw (by omega) ?_
                refine sx_iload dX12_feed_84 rfl ?_
                refine sx_bipush dX12_feed_86 ⟨by decide, by decide, by decide⟩ ?_
                refine sx_bipush dX12_feed_88 ⟨by decide, by decide, by decide⟩ ?_
                refine sx_iload dX12_feed_90 rfl ?_
                refine sx_iconst dX12_feed_92 ⟨by decide, by decide⟩ ?_
                refine sx_iand dX12_feed_93 ?_
                refine sx_imul dX12_feed_94 ?_
                refine sx_isub dX12_feed_95 ?_
                refine sx_ishr dX12_feed_96 ?_
                refine sx_i2b dX12_feed_97 ?_
                refine sy_bastore dX12_feed_98 s_225 (by decide) (by decide) ⟨by omega, by omega⟩ (by exact b8_rng _) (fun h16 eh16 => ?_)
                have Ih16 := Ih3.up eh16 trivial rfl
                have th16_224_2 := eh16.2 (224) 2 (fun q => absurd q.1 (by decide))
                refine sx_iinc dX12_feed_99 (by decide) rfl ?_
                rw [sw_w_id (by omega) (by omega)]
                refine sx_goto (tgt := 18) dX12_feed_102 (by decide) ?_
                refine sx_kill 7 ?_
                exact ihh3 _ _ ⟨Ih16, by omega, by omega⟩ (by exact sy_dec (by omega) (by omega))
              ·
                refine sx_iload dX12_feed_64 rfl ?_
                refine sx_goto (tgt := 71) dX12_feed_66 (by decide) ?_
                refine sx_istore dX12_feed_71 (by decide) ?_
                refine sx_aload_n dX12_feed_73 rfl ?_
                refine sx_getS (k := 0) (t := 225) cl_12 fl_X12_7 dX12_feed_74 s_224 (by decide) rfl (by decide) ?_
                refine sx_aload_n dX12_feed_77 rfl ?_
                refine sx_getI (k := 2) cl_12 fl_X12_346 dX12_feed_78 s_224 (by decide) rfl (by decide) ?_
                have r17 : (0 : Int) ≤ h3 224 2 ∧ h3 224 2 ≤ 1600 := Ih3.1 224 2
                refine sx_iload dX12_feed_81 rfl ?_
                refine sx_iadd dX12_feed_83 ?_
                refine sy_topw (by omega) ?_
                refine sx_iload dX12_feed_84 rfl ?_
                refine sx_bipush dX12_feed_86 ⟨by decide, by decide, by decide⟩ ?_
                refine sx_bipush dX12_feed_88 ⟨by decide, by decide, by decide⟩ ?_
                refine sx_iload dX12_feed_90 rfl ?_
                refine sx_iconst dX12_feed_92 ⟨by decide, by decide⟩ ?_
                refine sx_iand dX12_feed_93 ?_
                refine sx_imul dX12_feed_94 ?_
                refine sx_isub dX12_feed_95 ?_
                refine sx_ishr dX12_feed_96 ?_
                refine sx_i2b dX12_feed_97 ?_
                refine sy_bastore dX12_feed_98 s_225 (by decide) (by decide) ⟨by omega, by omega⟩ (by exact b8_rng _) (fun h18 eh18 => ?_)
                have Ih18 := Ih3.up eh18 trivial rfl
                have th18_224_2 := eh18.2 (224) 2 (fun q => absurd q.1 (by decide))
                refine sx_iinc dX12_feed_99 (by decide) rfl ?_
                rw [sw_w_id (by omega) (by omega)]
                refine sx_goto (tgt := 18) dX12_feed_102 (by decide) ?_
                refine sx_kill 7 ?_
                exact ihh3 _ _ ⟨Ih18, by omega, by omega⟩ (by exact sy_dec (by omega) (by omega))
            ·
              refine sx_iload_n dX12_feed_53 rfl ?_
              refine sx_goto (tgt := 71) dX12_feed_54 (by decide) ?_
              refine sx_istore dX12_feed_71 (by decide) ?_
              refine sx_aload_n dX12_feed_73 rfl ?_
              refine sx_getS (k := 0) (t := 225) cl_12 fl_X12_7 dX12_feed_74 s_224 (by decide) rfl (by decide) ?_
              refine sx_aload_n dX12_feed_77 rfl ?_
              refine sx_getI (k := 2) cl_12 fl_X12_346 dX12_feed_78 s_224 (by decide) rfl (by decide) ?_
              have r19 : (0 : Int) ≤ h3 224 2 ∧ h3 224 2 ≤ 1600 := Ih3.1 224 2
              refine sx_iload dX12_feed_81 rfl ?_
              refine sx_iadd dX12_feed_83 ?_
              refine sy_topw (by omega) ?_
              refine sx_iload dX12_feed_84 rfl ?_
              refine sx_bipush dX12_feed_86 ⟨by decide, by decide, by decide⟩ ?_
              refine sx_bipush dX12_feed_88 ⟨by decide, by decide, by decide⟩ ?_
              refine sx_iload dX12_feed_90 rfl ?_
              refine sx_iconst dX12_feed_92 ⟨by decide, by decide⟩ ?_
              refine sx_iand dX12_feed_93 ?_
              refine sx_imul dX12_feed_94 ?_
              refine sx_isub dX12_feed_95 ?_
              refine sx_ishr dX12_feed_96 ?_
              refine sx_i2b dX12_feed_97 ?_
              refine sy_bastore dX12_feed_98 s_225 (by decide) (by decide) ⟨by omega, by omega⟩ (by exact b8_rng _) (fun h20 eh20 => ?_)
              have Ih20 := Ih3.up eh20 trivial rfl
              have th20_224_2 := eh20.2 (224) 2 (fun q => absurd q.1 (by decide))
              refine sx_iinc dX12_feed_99 (by decide) rfl ?_
              rw [sw_w_id (by omega) (by omega)]
              refine sx_goto (tgt := 18) dX12_feed_102 (by decide) ?_
              refine sx_kill 7 ?_
              exact ihh3 _ _ ⟨Ih20, by omega, by omega⟩ (by exact sy_dec (by omega) (by omega))
          ·
            refine sx_iload_n dX12_feed_42 rfl ?_
            refine sx_goto (tgt := 71) dX12_feed_43 (by decide) ?_
            refine sx_istore dX12_feed_71 (by decide) ?_
            refine sx_aload_n dX12_feed_73 rfl ?_
            refine sx_getS (k := 0) (t := 225) cl_12 fl_X12_7 dX12_feed_74 s_224 (by decide) rfl (by decide) ?_
            refine sx_aload_n dX12_feed_77 rfl ?_
            refine sx_getI (k := 2) cl_12 fl_X12_346 dX12_feed_78 s_224 (by decide) rfl (by decide) ?_
            have r21 : (0 : Int) ≤ h3 224 2 ∧ h3 224 2 ≤ 1600 := Ih3.1 224 2
            refine sx_iload dX12_feed_81 rfl ?_
            refine sx_iadd dX12_feed_83 ?_
            refine sy_topw (by omega) ?_
            refine sx_iload dX12_feed_84 rfl ?_
            refine sx_bipush dX12_feed_86 ⟨by decide, by decide, by decide⟩ ?_
            refine sx_bipush dX12_feed_88 ⟨by decide, by decide, by decide⟩ ?_
            refine sx_iload dX12_feed_90 rfl ?_
            refine sx_iconst dX12_feed_92 ⟨by decide, by decide⟩ ?_
            refine sx_iand dX12_feed_93 ?_
            refine sx_imul dX12_feed_94 ?_
            refine sx_isub dX12_feed_95 ?_
            refine sx_ishr dX12_feed_96 ?_
            refine sx_i2b dX12_feed_97 ?_
            refine sy_bastore dX12_feed_98 s_225 (by decide) (by decide) ⟨by omega, by omega⟩ (by exact b8_rng _) (fun h22 eh22 => ?_)
            have Ih22 := Ih3.up eh22 trivial rfl
            have th22_224_2 := eh22.2 (224) 2 (fun q => absurd q.1 (by decide))
            refine sx_iinc dX12_feed_99 (by decide) rfl ?_
            rw [sw_w_id (by omega) (by omega)]
            refine sx_goto (tgt := 18) dX12_feed_102 (by decide) ?_
            refine sx_kill 7 ?_
            exact ihh3 _ _ ⟨Ih22, by omega, by omega⟩ (by exact sy_dec (by omega) (by omega))
        ·
          refine sx_iload_n dX12_feed_31 rfl ?_
          refine sx_goto (tgt := 71) dX12_feed_32 (by decide) ?_
          refine sx_istore dX12_feed_71 (by decide) ?_
          refine sx_aload_n dX12_feed_73 rfl ?_
          refine sx_getS (k := 0) (t := 225) cl_12 fl_X12_7 dX12_feed_74 s_224 (by decide) rfl (by decide) ?_
          refine sx_aload_n dX12_feed_77 rfl ?_
          refine sx_getI (k := 2) cl_12 fl_X12_346 dX12_feed_78 s_224 (by decide) rfl (by decide) ?_
          have r23 : (0 : Int) ≤ h3 224 2 ∧ h3 224 2 ≤ 1600 := Ih3.1 224 2
          refine sx_iload dX12_feed_81 rfl ?_
          refine sx_iadd dX12_feed_83 ?_
          refine sy_topw (by omega) ?_
          refine sx_iload dX12_feed_84 rfl ?_
          refine sx_bipush dX12_feed_86 ⟨by decide, by decide, by decide⟩ ?_
          refine sx_bipush dX12_feed_88 ⟨by decide, by decide, by decide⟩ ?_
          refine sx_iload dX12_feed_90 rfl ?_
          refine sx_iconst dX12_feed_92 ⟨by decide, by decide⟩ ?_
          refine sx_iand dX12_feed_93 ?_
          refine sx_imul dX12_feed_94 ?_
          refine sx_isub dX12_feed_95 ?_
          refine sx_ishr dX12_feed_96 ?_
          refine sx_i2b dX12_feed_97 ?_
          refine sy_bastore dX12_feed_98 s_225 (by decide) (by decide) ⟨by omega, by omega⟩ (by exact b8_rng _) (fun h24 eh24 => ?_)
          have Ih24 := Ih3.up eh24 trivial rfl
          have th24_224_2 := eh24.2 (224) 2 (fun q => absurd q.1 (by decide))
          refine sx_iinc dX12_feed_99 (by decide) rfl ?_
          rw [sw_w_id (by omega) (by omega)]
          refine sx_goto (tgt := 18) dX12_feed_102 (by decide) ?_
          refine sx_kill 7 ?_
          exact ihh3 _ _ ⟨Ih24, by omega, by omega⟩ (by exact sy_dec (by omega) (by omega))
    · exact ⟨hI, by omega, by omega⟩
  ·
    refine sx_iconst dX12_feed_13 ⟨by decide, by decide⟩ ?_
    refine sx_ireturn dX12_feed_14 ?_
    exact ⟨_, rfl, ⟨hI, mB_mK hI rfl rfl hJ hB, hI.2 224 100 rfl, by first | omega | (exfalso; omega)⟩⟩
set_option maxRecDepth 20000 in
set_option maxHeartbeats 4000000 in
theorem f_X11_append {G : sw_G} (d : Nat) {h0 : sw_H} (hJ : cJ h0) (n : Int) (hq : h0 0 0 ≤ 1596) : sw_E G NH SH (d) mX11_append 0 [some (sw_r 0), some (sw_i n), none] [] h0 (sw_Qv (fun h' => cK pr0 h0 h' ∧ h' 0 0 = h0 0 0 + 4)) := by
  have hI : cK pr0 h0 h0 := cK.refl hJ
  refine sx_bipush dX11_append_0 ⟨by decide, by decide, by decide⟩ ?_
  refine sx_istore_n dX11_append_2 (by decide) ?_
  refine sx_loop1 (fun (h : sw_H) (s : Int) => (cK pr0 h0 h) ∧ ((s = 24 ∧ h 0 0 = h0 0 0) ∨ (s = 16 ∧ h 0 0 = h0 0 0 + 1) ∨ (s = 8 ∧ h 0 0 = h0 0 0 + 2) ∨ (s = 0 ∧ h 0 0 = h0 0 0 + 3) ∨ (s = -8 ∧ h 0 0 = h0 0 0 + 4))) (fun (h : sw_H) (s : Int) => (s + 8).toNat) (fun (h : sw_H) (s : Int) => sw_E G NH SH (d) mX11_append 3 [some (sw_r 0), some (sw_i n), some (sw_i s)] [] h (sw_Qv (fun h' => cK pr0 h0 h' ∧ h' 0 0 = h0 0 0 + 4))) ?_ _ _ ?_
  · rintro h1 s_2 ⟨Ih1, j3⟩ ihh1
    try dsimp only at ihh1
    refine sx_iload_n dX11_append_3 rfl ?_
    refine sx_if_lt (tgt := 52) dX11_append_4 (by decide) (fun c4 => ?_) (fun c4 => ?_)
    ·
      refine sx_ret dX11_append_52 ?_
      exact ⟨rfl, ⟨Ih1, by omega⟩⟩
    ·
      refine sx_aload_n dX11_append_7 rfl ?_
      refine sx_getI (k := 0) cl_11 fl_X11_76 dX11_append_8 s_0 (by decide) rfl (by decide) ?_
      have r5 : (0 : Int) ≤ h1 0 0 ∧ h1 0 0 ≤ 1600 := Ih1.1.1 0 0
      refine sx_sipush dX11_append_11 ⟨by decide, by decide, by decide⟩ ?_
      refine sx_icmp_ge (tgt := 52) dX11_append_14 (by decide) (fun c6 => ?_) (fun c6 => ?_)
      ·
        exfalso; omega
      ·
        refine sx_aload_n dX11_append_17 rfl ?_
        refine sx_getS (k := 4) (t := 33) cl_11 fl_X11_29 dX11_append_18 s_0 (by decide) rfl (by decide) ?_
        refine sx_getS (k := 0) (t := 34) cl_3 fl_X11_87 dX11_append_21 s_33 (by decide) rfl (by decide) ?_
        refine sx_getS (k := 0) (t := 35) cl_5 fl_X11_336 dX11_append_24 s_34 (by decide) rfl (by decide) ?_
        refine sx_aload_n dX11_append_27 rfl ?_
        refine sx_getI (k := 0) cl_11 fl_X11_76 dX11_append_28 s_0 (by decide) rfl (by decide) ?_
        have r7 : (0 : Int) ≤ h1 0 0 ∧ h1 0 0 ≤ 1600 := Ih1.1.1 0 0
        refine sx_iload_n dX11_append_31 rfl ?_
        refine sx_iload_n dX11_append_32 rfl ?_
        refine sx_ishr dX11_append_33 ?_
        refine sx_i2b dX11_append_34 ?_
        refine sy_bastore dX11_append_35 s_35 (by decide) (by decide) ⟨by omega, by omega⟩ (by (unfold sw_b8; omega)) (fun h8 eh8 => ?_)
        have Ih8 := Ih1.up eh8 trivial rfl rfl
        have th8_0_0 := eh8.2 (0) 0 (by omega)
        refine sx_aload_n dX11_append_36 rfl ?_
        refine sx_dupr dX11_append_37 ?_
        refine sx_getI (k := 0) cl_11 fl_X11_76 dX11_append_38 s_0 (by decide) rfl (by decide) ?_
        have r9 : (0 : Int) ≤ h8 0 0 ∧ h8 0 0 ≤ 1600 := Ih8.1.1 0 0
        refine sx_iconst dX11_append_41 ⟨by decide, by decide⟩ ?_
        refine sx_iadd dX11_append_42 ?_
        refine sy_topw (by omega) ?_
        refine sy_putI (k := 0) cl_11 fl_X11_76 dX11_append_43 s_0 (by decide) rfl (by decide) rfl rfl (fun h10 eh10 => ?_)
        have Ih10 := Ih8.up eh10 (show (0 : Int) ≤ _ ∧ _ ≤ (1600 : Int) from ⟨by omega, by omega⟩) rfl rfl
        have th10_0_0 := eh10.1
        refine sx_iinc dX11_append_46 (by decide) rfl ?_
        rw [sw_w_id (by omega) (by omega)]
        refine sx_goto (tgt := 3) dX11_append_49 (by decide) ?_
        exact ihh1 _ _ ⟨Ih10, by omega⟩ (by exact sy_dec (by omega) (by omega))
  · exact ⟨hI, by omega⟩
set_option maxRecDepth 20000 in
set_option maxHeartbeats 4000000 in
theorem f_X11_feed {G : sw_G} (d : Nat) {h0 : sw_H} (hJ : cJ h0) (y1 y2 y3 y4 y5 : Int) (hF : FC h0) : sw_E G NH SH (d + 1) mX11_feed 0 [some (sw_r 0), some (sw_i y1), some (sw_i y2), some (sw_i y3), some (sw_i y4), some (sw_i y5)] [] h0 (sw_Qi (fun z h' => cK pr1 h0 h' ∧ z = 20)) := by
  have hI : cK pr1 h0 h0 := cK.refl hJ
  obtain ⟨hc, f0, f7, f12, f13, f14, w0, i0, u0, l0, d1, d2, d3, b7, s8, zs, tk⟩ := hF
  refine sx_aload_n dX11_feed_0 rfl ?_
  refine sx_getI (k := 0) cl_11 fl_X11_76 dX11_feed_1 s_0 (by decide) rfl (by decide) ?_
  have r1 : (0 : Int) ≤ h0 0 0 ∧ h0 0 0 ≤ 1600 := hI.1.1 0 0
  refine sx_bipush dX11_feed_4 ⟨by decide, by decide, by decide⟩ ?_
  refine sx_iadd dX11_feed_6 ?_
  refine sy_topw (by omega) ?_
  refine sx_sipush dX11_feed_7 ⟨by decide, by decide, by decide⟩ ?_
  refine sx_icmp_le (tgt := 15) dX11_feed_10 (by decide) (fun c2 => ?_) (fun c2 => ?_)
  ·
    refine sx_aload_n dX11_feed_15 rfl ?_
    refine sx_iload_n dX11_feed_16 rfl ?_
    refine sx_callVv lk_X11_79 cl_11 s_0 (by decide) dX11_feed_17 (vs := [_]) rfl rfl (Nat.le_of_ble_eq_true rfl) (Nat.le_of_ble_eq_true rfl) rfl (f_X11_append _ hI.1 _ (by omega)) (fun h3 ph3 => ?_)
    obtain ⟨Kh3, a_h3⟩ := ph3
    have Ih3 := hI.tr Kh3 sb_pr1_pr0
    refine sx_aload_n dX11_feed_20 rfl ?_
    refine sx_iload_n dX11_feed_21 rfl ?_
    refine sx_callVv lk_X11_79 cl_11 s_0 (by decide) dX11_feed_22 (vs := [_]) rfl rfl (Nat.le_of_ble_eq_true rfl) (Nat.le_of_ble_eq_true rfl) rfl (f_X11_append _ Ih3.1 _ (by omega)) (fun h5 ph5 => ?_)
    obtain ⟨Kh5, a_h5⟩ := ph5
    have Ih5 := Ih3.tr Kh5 sb_pr1_pr0
    refine sx_aload_n dX11_feed_25 rfl ?_
    refine sx_iload_n dX11_feed_26 rfl ?_
    refine sx_callVv lk_X11_79 cl_11 s_0 (by decide) dX11_feed_27 (vs := [_]) rfl rfl (Nat.le_of_ble_eq_true rfl) (Nat.le_of_ble_eq_true rfl) rfl (f_X11_append _ Ih5.1 _ (by omega)) (fun h7 ph7 => ?_)
    obtain ⟨Kh7, a_h7⟩ := ph7
    have Ih7 := Ih5.tr Kh7 sb_pr1_pr0
    refine sx_aload_n dX11_feed_30 rfl ?_
    refine sx_iload dX11_feed_31 rfl ?_
    refine sx_callVv lk_X11_79 cl_11 s_0 (by decide) dX11_feed_33 (vs := [_]) rfl rfl (Nat.le_of_ble_eq_true rfl) (Nat.le_of_ble_eq_true rfl) rfl (f_X11_append _ Ih7.1 _ (by omega)) (fun h9 ph9 => ?_)
    obtain ⟨Kh9, a_h9⟩ := ph9
    have Ih9 := Ih7.tr Kh9 sb_pr1_pr0
    refine sx_aload_n dX11_feed_36 rfl ?_
    refine sx_iload dX11_feed_37 rfl ?_
    refine sx_callVv lk_X11_79 cl_11 s_0 (by decide) dX11_feed_39 (vs := [_]) rfl rfl (Nat.le_of_ble_eq_true rfl) (Nat.le_of_ble_eq_true rfl) rfl (f_X11_append _ Ih9.1 _ (by omega)) (fun h11 ph11 => ?_)
    obtain ⟨Kh11, a_h11⟩ := ph11
    have Ih11 := Ih9.tr Kh11 sb_pr1_pr0
    refine sx_aload_n dX11_feed_42 rfl ?_
    refine sx_getI (k := 0) cl_11 fl_X11_76 dX11_feed_43 s_0 (by decide) rfl (by decide) ?_
    have r13 : (0 : Int) ≤ h11 0 0 ∧ h11 0 0 ≤ 1600 := Ih11.1.1 0 0
    refine sx_ireturn dX11_feed_46 ?_
    exact ⟨_, rfl, ⟨Ih11, by first | omega | (exfalso; omega)⟩⟩
  ·
    refine sx_iconst dX11_feed_13 ⟨by decide, by decide⟩ ?_
    refine sx_ireturn dX11_feed_14 ?_
    exact ⟨_, rfl, ⟨hI, by first | omega | (exfalso; omega)⟩⟩

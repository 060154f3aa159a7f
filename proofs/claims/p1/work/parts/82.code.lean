set_option maxRecDepth 20000 in
set_option maxHeartbeats 4000000 in
theorem c_X0_takePlainly_1 {G : sw_G} (d : Nat) {h0 : sw_H} (hJ : cJ h0)  : sw_E G NH SH (d) mX0_takePlainly 0 [some (sw_r 1), none] [] h0 (sw_Qv (fun h' => cK pr0 h0 h')) := by
  have hI : cK pr0 h0 h0 := cK.refl hJ
  refine sx_iconst dX0_takePlainly_0 ⟨by decide, by decide⟩ ?_
  refine sx_istore_n dX0_takePlainly_1 (by decide) ?_
  refine sx_loop1 (fun (h : sw_H) (i : Int) => (cK pr0 h0 h) ∧ (0 ≤ i)) (fun (h : sw_H) (i : Int) => (57 - i).toNat) (fun (h : sw_H) (i : Int) => sw_E G NH SH (d) mX0_takePlainly 2 [some (sw_r 1), some (sw_i i)] [] h (sw_Qv (fun h' => cK pr0 h0 h'))) ?_ _ _ ?_
  · rintro h1 i_2 ⟨Ih1, j3⟩ ihh1
    try dsimp only at ihh1
    refine sx_iload_n dX0_takePlainly_2 rfl ?_
    refine sx_aload_n dX0_takePlainly_3 rfl ?_
    refine sx_getS (k := 15) (t := 12) cl_0 fl_X0_42 dX0_takePlainly_4 s_1 (by decide) rfl (by decide) ?_
    refine sx_alen (t := 0) dX0_takePlainly_7 s_12 (by decide) (by decide) (by decide) ?_
    refine sx_icmp_ge (tgt := 29) dX0_takePlainly_8 (by decide) (fun c4 => ?_) (fun c4 => ?_)
    ·
      refine sx_ret dX0_takePlainly_29 ?_
      exact ⟨rfl, Ih1⟩
    ·
      refine sx_aload_n dX0_takePlainly_11 rfl ?_
      refine sx_getS (k := 15) (t := 12) cl_0 fl_X0_42 dX0_takePlainly_12 s_1 (by decide) rfl (by decide) ?_
      refine sx_iload_n dX0_takePlainly_15 rfl ?_
      refine sx_iconst dX0_takePlainly_16 ⟨by decide, by decide⟩ ?_
      refine sx_iload_n dX0_takePlainly_17 rfl ?_
      refine sx_bipush dX0_takePlainly_18 ⟨by decide, by decide, by decide⟩ ?_
      refine sx_idiv dX0_takePlainly_20 (by first | omega | (rw [Int.tmod_eq_emod_of_nonneg (by omega)]; omega) | (rw [Int.tdiv_eq_ediv_of_nonneg (by omega)]; omega)) ?_
      refine sy_topw (by first | omega | (rw [Int.tmod_eq_emod_of_nonneg (by omega)]; omega) | (rw [Int.tdiv_eq_ediv_of_nonneg (by omega)]; omega)) ?_
      refine sx_iadd dX0_takePlainly_21 ?_
      refine sy_topw (by first | omega | (rw [Int.tmod_eq_emod_of_nonneg (by omega)]; omega) | (rw [Int.tdiv_eq_ediv_of_nonneg (by omega)]; omega)) ?_
      refine sy_iastore dX0_takePlainly_22 s_12 (by decide) (by decide) ⟨by first | omega | (rw [Int.tmod_eq_emod_of_nonneg (by omega)]; omega) | (rw [Int.tdiv_eq_ediv_of_nonneg (by omega)]; omega), by first | omega | (rw [Int.tmod_eq_emod_of_nonneg (by omega)]; omega) | (rw [Int.tdiv_eq_ediv_of_nonneg (by omega)]; omega)⟩ (fun h5 eh5 => ?_)
      have Ih5 := Ih1.up eh5 trivial rfl rfl
      refine sx_iinc dX0_takePlainly_23 (by decide) rfl ?_
      rw [sw_w_id (by first | omega | (rw [Int.tmod_eq_emod_of_nonneg (by omega)]; omega) | (rw [Int.tdiv_eq_ediv_of_nonneg (by omega)]; omega)) (by first | omega | (rw [Int.tmod_eq_emod_of_nonneg (by omega)]; omega) | (rw [Int.tdiv_eq_ediv_of_nonneg (by omega)]; omega))]
      refine sx_goto (tgt := 2) dX0_takePlainly_26 (by decide) ?_
      exact ihh1 _ _ ⟨Ih5, by first | omega | (rw [Int.tmod_eq_emod_of_nonneg (by omega)]; omega) | (rw [Int.tdiv_eq_ediv_of_nonneg (by omega)]; omega)⟩ (by exact sy_dec (by first | omega | (rw [Int.tmod_eq_emod_of_nonneg (by omega)]; omega) | (rw [Int.tdiv_eq_ediv_of_nonneg (by omega)]; omega)) (by first | omega | (rw [Int.tmod_eq_emod_of_nonneg (by omega)]; omega) | (rw [Int.tdiv_eq_ediv_of_nonneg (by omega)]; omega)))
  · exact ⟨hI, by first | omega | (rw [Int.tmod_eq_emod_of_nonneg (by omega)]; omega) | (rw [Int.tdiv_eq_ediv_of_nonneg (by omega)]; omega)⟩
set_option maxRecDepth 20000 in
set_option maxHeartbeats 4000000 in
theorem c_X0_empty_1 {G : sw_G} (d : Nat) {h0 : sw_H} (hJ : cJ h0)  : sw_E G NH SH (d + 1) mX0_empty 0 [some (sw_r 1)] [] h0 (sw_Qv (fun h' => cK pr0 h0 h')) := by
  have hI : cK pr0 h0 h0 := cK.refl hJ
  refine sx_aload_n dX0_empty_0 rfl ?_
  refine sx_iconst dX0_empty_1 ⟨by decide, by decide⟩ ?_
  refine sy_putI (k := 0) cl_0 fl_X0_48 dX0_empty_2 s_1 (by decide) rfl (by decide) rfl rfl (fun h1 eh1 => ?_)
  have Ih1 := hI.up eh1 (show (0 : Int) ≤ _ ∧ _ ≤ (6 : Int) from ⟨by first | omega | (rw [Int.tmod_eq_emod_of_nonneg (by omega)]; omega) | (rw [Int.tdiv_eq_ediv_of_nonneg (by omega)]; omega), by first | omega | (rw [Int.tmod_eq_emod_of_nonneg (by omega)]; omega) | (rw [Int.tdiv_eq_ediv_of_nonneg (by omega)]; omega)⟩) rfl rfl
  refine sx_aload_n dX0_empty_5 rfl ?_
  refine sx_iconst dX0_empty_6 ⟨by decide, by decide⟩ ?_
  refine sy_putI (k := 1) cl_0 fl_X0_52 dX0_empty_7 s_1 (by decide) rfl (by decide) rfl rfl (fun h2 eh2 => ?_)
  have Ih2 := Ih1.up eh2 (show (0 : Int) ≤ _ ∧ _ ≤ (60 : Int) from ⟨by first | omega | (rw [Int.tmod_eq_emod_of_nonneg (by omega)]; omega) | (rw [Int.tdiv_eq_ediv_of_nonneg (by omega)]; omega), by first | omega | (rw [Int.tmod_eq_emod_of_nonneg (by omega)]; omega) | (rw [Int.tdiv_eq_ediv_of_nonneg (by omega)]; omega)⟩) rfl rfl
  refine sx_aload_n dX0_empty_10 rfl ?_
  refine sx_iconst dX0_empty_11 ⟨by decide, by decide⟩ ?_
  refine sy_putI (k := 2) cl_0 fl_X0_55 dX0_empty_12 s_1 (by decide) rfl (by decide) rfl rfl (fun h3 eh3 => ?_)
  have Ih3 := Ih2.up eh3 trivial rfl rfl
  refine sx_aload_n dX0_empty_15 rfl ?_
  refine sx_iconst dX0_empty_16 ⟨by decide, by decide⟩ ?_
  refine sy_putI (k := 3) cl_0 fl_X0_58 dX0_empty_17 s_1 (by decide) rfl (by decide) rfl rfl (fun h4 eh4 => ?_)
  have Ih4 := Ih3.up eh4 trivial rfl rfl
  refine sx_aload_n dX0_empty_20 rfl ?_
  refine sx_iconst dX0_empty_21 ⟨by decide, by decide⟩ ?_
  refine sy_putI (k := 4) cl_0 fl_X0_61 dX0_empty_22 s_1 (by decide) rfl (by decide) rfl rfl (fun h5 eh5 => ?_)
  have Ih5 := Ih4.up eh5 trivial rfl rfl
  refine sx_aload_n dX0_empty_25 rfl ?_
  refine sx_getS (k := 9) (t := 6) cl_0 fl_X0_24 dX0_empty_26 s_1 (by decide) rfl (by decide) ?_
  refine sx_iconst dX0_empty_29 ⟨by decide, by decide⟩ ?_
  refine sx_iconst dX0_empty_30 ⟨by decide, by decide⟩ ?_
  refine sy_iastore dX0_empty_31 s_6 (by decide) (by decide) ⟨by first | omega | (rw [Int.tmod_eq_emod_of_nonneg (by omega)]; omega) | (rw [Int.tdiv_eq_ediv_of_nonneg (by omega)]; omega), by first | omega | (rw [Int.tmod_eq_emod_of_nonneg (by omega)]; omega) | (rw [Int.tdiv_eq_ediv_of_nonneg (by omega)]; omega)⟩ (fun h6 eh6 => ?_)
  have Ih6 := Ih5.up eh6 (show (0 : Int) ≤ _ ∧ _ ≤ (60 : Int) from ⟨by first | omega | (rw [Int.tmod_eq_emod_of_nonneg (by omega)]; omega) | (rw [Int.tdiv_eq_ediv_of_nonneg (by omega)]; omega), by first | omega | (rw [Int.tmod_eq_emod_of_nonneg (by omega)]; omega) | (rw [Int.tdiv_eq_ediv_of_nonneg (by omega)]; omega)⟩) rfl rfl
  refine sx_aload_n dX0_empty_32 rfl ?_
  refine sx_callVv lk_X0_45 cl_0 s_1 (by decide) dX0_empty_33 (vs := []) rfl rfl (Nat.le_of_ble_eq_true rfl) (Nat.le_of_ble_eq_true rfl) rfl (c_X0_takePlainly_1 _ Ih6.1) (fun h7 ph7 => ?_)
  have Kh7 := ph7
  have Ih7 := Ih6.tr Kh7 sb_pr0_pr0
  refine sx_ret dX0_empty_36 ?_
  exact ⟨rfl, Ih7⟩
set_option maxRecDepth 20000 in
set_option maxHeartbeats 4000000 in
theorem c_X0_hasWord_1 {G : sw_G} (d : Nat) {h0 : sw_H} (hJ : cJ h0) (w : Int) : sw_E G NH SH (d) mX0_hasWord 0 [some (sw_r 1), some (sw_i w)] [] h0 (sw_Qz (fun z h' => h0 = h' ∧ (z = 1 → 0 ≤ w ∧ w < h0 1 0))) := by
  have hI : cK pr0 h0 h0 := cK.refl hJ
  refine sx_iload_n dX0_hasWord_0 rfl ?_
  refine sx_if_lt (tgt := 16) dX0_hasWord_1 (by decide) (fun c1 => ?_) (fun c1 => ?_)
  ·
    refine sx_iconst dX0_hasWord_16 ⟨by decide, by decide⟩ ?_
    refine sx_ireturn dX0_hasWord_17 ?_
    exact ⟨_, rfl, by omega, ⟨rfl, by omega⟩⟩
  ·
    refine sx_iload_n dX0_hasWord_4 rfl ?_
    refine sx_aload_n dX0_hasWord_5 rfl ?_
    refine sx_getI (k := 0) cl_0 fl_X0_48 dX0_hasWord_6 s_1 (by decide) rfl (by decide) ?_
    have r2 : (0 : Int) ≤ h0 1 0 ∧ h0 1 0 ≤ 6 := hI.1.1 1 0
    refine sx_icmp_ge (tgt := 16) dX0_hasWord_9 (by decide) (fun c3 => ?_) (fun c3 => ?_)
    ·
      refine sx_iconst dX0_hasWord_16 ⟨by decide, by decide⟩ ?_
      refine sx_ireturn dX0_hasWord_17 ?_
      exact ⟨_, rfl, by omega, ⟨rfl, by omega⟩⟩
    ·
      refine sx_iconst dX0_hasWord_12 ⟨by decide, by decide⟩ ?_
      refine sx_goto (tgt := 17) dX0_hasWord_13 (by decide) ?_
      refine sx_ireturn dX0_hasWord_17 ?_
      exact ⟨_, rfl, by omega, ⟨rfl, by omega⟩⟩
set_option maxRecDepth 20000 in
set_option maxHeartbeats 4000000 in
theorem c_X0_hasItem_1 {G : sw_G} (d : Nat) {h0 : sw_H} (hJ : cJ h0) (w i : Int) : sw_E G NH SH (d + 1) mX0_hasItem 0 [some (sw_r 1), some (sw_i w), some (sw_i i)] [] h0 (sw_Qz (fun z h' => h0 = h' ∧ (z = 1 → 0 ≤ w ∧ w < h0 1 0 ∧ 0 ≤ i ∧ i < h0 6 (w + 1).toNat - h0 6 w.toNat))) := by
  have hI : cK pr0 h0 h0 := cK.refl hJ
  have rw : (0 : Int) ≤ h0 1 0 ∧ h0 1 0 ≤ 6 := hI.1.1 1 0
  refine sx_aload_n dX0_hasItem_0 rfl ?_
  refine sx_iload_n dX0_hasItem_1 rfl ?_
  refine sx_callVz lk_X0_64 cl_0 s_1 (by decide) dX0_hasItem_2 (vs := [_]) rfl rfl (Nat.le_of_ble_eq_true rfl) (Nat.le_of_ble_eq_true rfl) rfl (c_X0_hasWord_1 _ hI.1 _) (fun x2 h1 zx2 ph1 => ?_)
  obtain ⟨rfl, w_x2⟩ := ph1
  refine sx_if_eq (tgt := 35) dX0_hasItem_5 (by decide) (fun c3 => ?_) (fun c3 => ?_)
  ·
    refine sx_iconst dX0_hasItem_35 ⟨by decide, by decide⟩ ?_
    refine sx_ireturn dX0_hasItem_36 ?_
    exact ⟨_, rfl, by omega, ⟨rfl, by omega⟩⟩
  ·
    refine sx_iload_n dX0_hasItem_8 rfl ?_
    refine sx_if_lt (tgt := 35) dX0_hasItem_9 (by decide) (fun c4 => ?_) (fun c4 => ?_)
    ·
      refine sx_iconst dX0_hasItem_35 ⟨by decide, by decide⟩ ?_
      refine sx_ireturn dX0_hasItem_36 ?_
      exact ⟨_, rfl, by omega, ⟨rfl, by omega⟩⟩
    ·
      refine sx_iload_n dX0_hasItem_12 rfl ?_
      refine sx_aload_n dX0_hasItem_13 rfl ?_
      refine sx_getS (k := 9) (t := 6) cl_0 fl_X0_24 dX0_hasItem_14 s_1 (by decide) rfl (by decide) ?_
      refine sx_iload_n dX0_hasItem_17 rfl ?_
      refine sx_iconst dX0_hasItem_18 ⟨by decide, by decide⟩ ?_
      refine sx_iadd dX0_hasItem_19 ?_
      refine sy_topw (by first | omega | (rw [Int.tmod_eq_emod_of_nonneg (by omega)]; omega) | (rw [Int.tdiv_eq_ediv_of_nonneg (by omega)]; omega)) ?_
      refine sy_iaF (F := fun z => (0 : Int) ≤ z ∧ z ≤ 60) dX0_hasItem_20 s_6 (by decide) (by decide) ⟨by first | omega | (rw [Int.tmod_eq_emod_of_nonneg (by omega)]; omega) | (rw [Int.tdiv_eq_ediv_of_nonneg (by omega)]; omega), by first | omega | (rw [Int.tmod_eq_emod_of_nonneg (by omega)]; omega) | (rw [Int.tdiv_eq_ediv_of_nonneg (by omega)]; omega)⟩ (hI.1.1 6 _) (fun r5 => ?_)
      refine sx_aload_n dX0_hasItem_21 rfl ?_
      refine sx_getS (k := 9) (t := 6) cl_0 fl_X0_24 dX0_hasItem_22 s_1 (by decide) rfl (by decide) ?_
      refine sx_iload_n dX0_hasItem_25 rfl ?_
      refine sy_iaF (F := fun z => (0 : Int) ≤ z ∧ z ≤ 60) dX0_hasItem_26 s_6 (by decide) (by decide) ⟨by first | omega | (rw [Int.tmod_eq_emod_of_nonneg (by omega)]; omega) | (rw [Int.tdiv_eq_ediv_of_nonneg (by omega)]; omega), by first | omega | (rw [Int.tmod_eq_emod_of_nonneg (by omega)]; omega) | (rw [Int.tdiv_eq_ediv_of_nonneg (by omega)]; omega)⟩ (hI.1.1 6 _) (fun r6 => ?_)
      refine sx_isub dX0_hasItem_27 ?_
      refine sy_topw (by first | omega | (rw [Int.tmod_eq_emod_of_nonneg (by omega)]; omega) | (rw [Int.tdiv_eq_ediv_of_nonneg (by omega)]; omega)) ?_
      refine sx_icmp_ge (tgt := 35) dX0_hasItem_28 (by decide) (fun c7 => ?_) (fun c7 => ?_)
      ·
        refine sx_iconst dX0_hasItem_35 ⟨by decide, by decide⟩ ?_
        refine sx_ireturn dX0_hasItem_36 ?_
        exact ⟨_, rfl, by omega, ⟨rfl, by omega⟩⟩
      ·
        refine sx_iconst dX0_hasItem_31 ⟨by decide, by decide⟩ ?_
        refine sx_goto (tgt := 36) dX0_hasItem_32 (by decide) ?_
        refine sx_ireturn dX0_hasItem_36 ?_
        exact ⟨_, rfl, by omega, ⟨rfl, by omega⟩⟩
set_option maxRecDepth 20000 in
set_option maxHeartbeats 4000000 in
theorem c_X0_calledIn_1 {G : sw_G} (d : Nat) {h0 : sw_H} (hJ : cJ h0) (w : Int) (hw : 0 ≤ w ∧ w < h0 1 0) : sw_E G NH SH (d) mX0_calledIn 0 [some (sw_r 1), some (sw_i w), none, none] [] h0 (sw_Qi (fun z h' => h0 = h')) := by
  have hI : cK pr0 h0 h0 := cK.refl hJ
  have rw : (0 : Int) ≤ h0 1 0 ∧ h0 1 0 ≤ 6 := hI.1.1 1 0
  refine sx_iconst dX0_calledIn_0 ⟨by decide, by decide⟩ ?_
  refine sx_istore_n dX0_calledIn_1 (by decide) ?_
  refine sx_aload_n dX0_calledIn_2 rfl ?_
  refine sx_getS (k := 9) (t := 6) cl_0 fl_X0_24 dX0_calledIn_3 s_1 (by decide) rfl (by decide) ?_
  refine sx_iload_n dX0_calledIn_6 rfl ?_
  refine sy_iaF (F := fun z => (0 : Int) ≤ z ∧ z ≤ 60) dX0_calledIn_7 s_6 (by decide) (by decide) ⟨by first | omega | (rw [Int.tmod_eq_emod_of_nonneg (by omega)]; omega) | (rw [Int.tdiv_eq_ediv_of_nonneg (by omega)]; omega), by first | omega | (rw [Int.tmod_eq_emod_of_nonneg (by omega)]; omega) | (rw [Int.tdiv_eq_ediv_of_nonneg (by omega)]; omega)⟩ (hI.1.1 6 _) (fun r1 => ?_)
  refine sy_top (fun v2 ev2 => ?_)
  refine sx_istore_n dX0_calledIn_8 (by decide) ?_
  refine sx_loop2 (fun (h : sw_H) (b : Int) (i : Int) => (h0 = h) ∧ (0 ≤ i)) (fun (h : sw_H) (b : Int) (i : Int) => (60 - i).toNat) (fun (h : sw_H) (b : Int) (i : Int) => sw_E G NH SH (d) mX0_calledIn 9 [some (sw_r 1), some (sw_i w), some (sw_i b), some (sw_i i)] [] h (sw_Qi (fun z h' => h0 = h'))) ?_ _ _ _ ?_
  · rintro h3 b_4 i_5 ⟨rfl, j6⟩ ihh3
    try dsimp only at ihh3
    refine sx_iload_n dX0_calledIn_9 rfl ?_
    refine sx_aload_n dX0_calledIn_10 rfl ?_
    refine sx_getS (k := 9) (t := 6) cl_0 fl_X0_24 dX0_calledIn_11 s_1 (by decide) rfl (by decide) ?_
    refine sx_iload_n dX0_calledIn_14 rfl ?_
    refine sx_iconst dX0_calledIn_15 ⟨by decide, by decide⟩ ?_
    refine sx_iadd dX0_calledIn_16 ?_
    refine sy_topw (by first | omega | (rw [Int.tmod_eq_emod_of_nonneg (by omega)]; omega) | (rw [Int.tdiv_eq_ediv_of_nonneg (by omega)]; omega)) ?_
    refine sy_iaF (F := fun z => (0 : Int) ≤ z ∧ z ≤ 60) dX0_calledIn_17 s_6 (by decide) (by decide) ⟨by first | omega | (rw [Int.tmod_eq_emod_of_nonneg (by omega)]; omega) | (rw [Int.tdiv_eq_ediv_of_nonneg (by omega)]; omega), by first | omega | (rw [Int.tmod_eq_emod_of_nonneg (by omega)]; omega) | (rw [Int.tdiv_eq_ediv_of_nonneg (by omega)]; omega)⟩ (hI.1.1 6 _) (fun r7 => ?_)
    refine sx_icmp_ge (tgt := 48) dX0_calledIn_18 (by decide) (fun c8 => ?_) (fun c8 => ?_)
    ·
      refine sx_iload_n dX0_calledIn_48 rfl ?_
      refine sx_ireturn dX0_calledIn_49 ?_
      exact ⟨_, rfl, rfl⟩
    ·
      refine sx_aload_n dX0_calledIn_21 rfl ?_
      refine sx_getS (k := 5) (t := 2) cl_0 fl_X0_9 dX0_calledIn_22 s_1 (by decide) rfl (by decide) ?_
      refine sx_iload_n dX0_calledIn_25 rfl ?_
      refine sx_iaload dX0_calledIn_26 s_2 (by decide) (by decide) ⟨by first | omega | (rw [Int.tmod_eq_emod_of_nonneg (by omega)]; omega) | (rw [Int.tdiv_eq_ediv_of_nonneg (by omega)]; omega), by first | omega | (rw [Int.tmod_eq_emod_of_nonneg (by omega)]; omega) | (rw [Int.tdiv_eq_ediv_of_nonneg (by omega)]; omega)⟩ ?_
      refine sx_iconst dX0_calledIn_27 ⟨by decide, by decide⟩ ?_
      refine sx_icmp_ne (tgt := 42) dX0_calledIn_28 (by decide) (fun c9 => ?_) (fun c9 => ?_)
      ·
        refine sx_iinc dX0_calledIn_42 (by decide) rfl ?_
        rw [sw_w_id (by first | omega | (rw [Int.tmod_eq_emod_of_nonneg (by omega)]; omega) | (rw [Int.tdiv_eq_ediv_of_nonneg (by omega)]; omega)) (by first | omega | (rw [Int.tmod_eq_emod_of_nonneg (by omega)]; omega) | (rw [Int.tdiv_eq_ediv_of_nonneg (by omega)]; omega))]
        refine sx_goto (tgt := 9) dX0_calledIn_45 (by decide) ?_
        exact ihh3 _ _ _ ⟨rfl, by first | omega | (rw [Int.tmod_eq_emod_of_nonneg (by omega)]; omega) | (rw [Int.tdiv_eq_ediv_of_nonneg (by omega)]; omega)⟩ (by exact sy_dec (by first | omega | (rw [Int.tmod_eq_emod_of_nonneg (by omega)]; omega) | (rw [Int.tdiv_eq_ediv_of_nonneg (by omega)]; omega)) (by first | omega | (rw [Int.tmod_eq_emod_of_nonneg (by omega)]; omega) | (rw [Int.tdiv_eq_ediv_of_nonneg (by omega)]; omega)))
      ·
        refine sx_iload_n dX0_calledIn_31 rfl ?_
        refine sx_iconst dX0_calledIn_32 ⟨by decide, by decide⟩ ?_
        refine sx_aload_n dX0_calledIn_33 rfl ?_
        refine sx_getS (k := 6) (t := 3) cl_0 fl_X0_15 dX0_calledIn_34 s_1 (by decide) rfl (by decide) ?_
        refine sx_iload_n dX0_calledIn_37 rfl ?_
        refine sx_iaload dX0_calledIn_38 s_3 (by decide) (by decide) ⟨by first | omega | (rw [Int.tmod_eq_emod_of_nonneg (by omega)]; omega) | (rw [Int.tdiv_eq_ediv_of_nonneg (by omega)]; omega), by first | omega | (rw [Int.tmod_eq_emod_of_nonneg (by omega)]; omega) | (rw [Int.tdiv_eq_ediv_of_nonneg (by omega)]; omega)⟩ ?_
        refine sx_ishl dX0_calledIn_39 ?_
        refine sx_ior dX0_calledIn_40 ?_
        refine sy_top (fun v10 ev10 => ?_)
        refine sx_istore_n dX0_calledIn_41 (by decide) ?_
        refine sx_iinc dX0_calledIn_42 (by decide) rfl ?_
        rw [sw_w_id (by first | omega | (rw [Int.tmod_eq_emod_of_nonneg (by omega)]; omega) | (rw [Int.tdiv_eq_ediv_of_nonneg (by omega)]; omega)) (by first | omega | (rw [Int.tmod_eq_emod_of_nonneg (by omega)]; omega) | (rw [Int.tdiv_eq_ediv_of_nonneg (by omega)]; omega))]
        refine sx_goto (tgt := 9) dX0_calledIn_45 (by decide) ?_
        exact ihh3 _ _ _ ⟨rfl, by first | omega | (rw [Int.tmod_eq_emod_of_nonneg (by omega)]; omega) | (rw [Int.tdiv_eq_ediv_of_nonneg (by omega)]; omega)⟩ (by exact sy_dec (by first | omega | (rw [Int.tmod_eq_emod_of_nonneg (by omega)]; omega) | (rw [Int.tdiv_eq_ediv_of_nonneg (by omega)]; omega)) (by first | omega | (rw [Int.tmod_eq_emod_of_nonneg (by omega)]; omega) | (rw [Int.tdiv_eq_ediv_of_nonneg (by omega)]; omega)))
  · exact ⟨rfl, by first | omega | (rw [Int.tmod_eq_emod_of_nonneg (by omega)]; omega) | (rw [Int.tdiv_eq_ediv_of_nonneg (by omega)]; omega)⟩
set_option maxRecDepth 20000 in
set_option maxHeartbeats 4000000 in
theorem c_X0_reaching_1 {G : sw_G} (d : Nat) {h0 : sw_H} (hJ : cJ h0) (w : Int) (hw : 0 ≤ w ∧ w < h0 1 0) : sw_E G NH SH (d + 1) mX0_reaching 0 [some (sw_r 1), some (sw_i w), none, none] [] h0 (sw_Qi (fun z h' => h0 = h')) := by
  have hI : cK pr0 h0 h0 := cK.refl hJ
  have rw : (0 : Int) ≤ h0 1 0 ∧ h0 1 0 ≤ 6 := hI.1.1 1 0
  refine sx_iconst dX0_reaching_0 ⟨by decide, by decide⟩ ?_
  refine sx_istore_n dX0_reaching_1 (by decide) ?_
  refine sx_iload_n dX0_reaching_2 rfl ?_
  refine sx_iconst dX0_reaching_3 ⟨by decide, by decide⟩ ?_
  refine sx_iadd dX0_reaching_4 ?_
  refine sy_topw (by first | omega | (rw [Int.tmod_eq_emod_of_nonneg (by omega)]; omega) | (rw [Int.tdiv_eq_ediv_of_nonneg (by omega)]; omega)) ?_
  refine sy_top (fun v1 ev1 => ?_)
  refine sx_istore_n dX0_reaching_5 (by decide) ?_
  refine sx_loop2 (fun (h : sw_H) (b : Int) (i : Int) => (h0 = h) ∧ (0 ≤ i)) (fun (h : sw_H) (b : Int) (i : Int) => (6 - i).toNat) (fun (h : sw_H) (b : Int) (i : Int) => sw_E G NH SH (d + 1) mX0_reaching 6 [some (sw_r 1), some (sw_i w), some (sw_i b), some (sw_i i)] [] h (sw_Qi (fun z h' => h0 = h'))) ?_ _ _ _ ?_
  · rintro h2 b_3 i_4 ⟨rfl, j5⟩ ihh2
    try dsimp only at ihh2
    refine sx_iload_n dX0_reaching_6 rfl ?_
    refine sx_aload_n dX0_reaching_7 rfl ?_
    refine sx_getI (k := 0) cl_0 fl_X0_48 dX0_reaching_8 s_1 (by decide) rfl (by decide) ?_
    have r6 : (0 : Int) ≤ h0 1 0 ∧ h0 1 0 ≤ 6 := hI.1.1 1 0
    refine sx_icmp_ge (tgt := 40) dX0_reaching_11 (by decide) (fun c7 => ?_) (fun c7 => ?_)
    ·
      refine sx_iload_n dX0_reaching_40 rfl ?_
      refine sx_ireturn dX0_reaching_41 ?_
      exact ⟨_, rfl, rfl⟩
    ·
      refine sx_aload_n dX0_reaching_14 rfl ?_
      refine sx_iload_n dX0_reaching_15 rfl ?_
      refine sx_callVi lk_X0_68 cl_0 s_1 (by decide) dX0_reaching_16 (vs := [_]) rfl rfl (Nat.le_of_ble_eq_true rfl) (Nat.le_of_ble_eq_true rfl) rfl (c_X0_calledIn_1 _ hI.1 _ (by first | omega | (rw [Int.tmod_eq_emod_of_nonneg (by omega)]; omega) | (rw [Int.tdiv_eq_ediv_of_nonneg (by omega)]; omega))) (fun x9 h8 ph8 => ?_)
      subst ph8
      refine sx_iload_n dX0_reaching_19 rfl ?_
      refine sx_iconst dX0_reaching_20 ⟨by decide, by decide⟩ ?_
      refine sx_iload_n dX0_reaching_21 rfl ?_
      refine sx_ishl dX0_reaching_22 ?_
      refine sx_ior dX0_reaching_23 ?_
      refine sx_iand dX0_reaching_24 ?_
      refine sx_if_eq (tgt := 34) dX0_reaching_25 (by decide) (fun c10 => ?_) (fun c10 => ?_)
      ·
        refine sx_iinc dX0_reaching_34 (by decide) rfl ?_
        rw [sw_w_id (by first | omega | (rw [Int.tmod_eq_emod_of_nonneg (by omega)]; omega) | (rw [Int.tdiv_eq_ediv_of_nonneg (by omega)]; omega)) (by first | omega | (rw [Int.tmod_eq_emod_of_nonneg (by omega)]; omega) | (rw [Int.tdiv_eq_ediv_of_nonneg (by omega)]; omega))]
        refine sx_goto (tgt := 6) dX0_reaching_37 (by decide) ?_
        exact ihh2 _ _ _ ⟨rfl, by first | omega | (rw [Int.tmod_eq_emod_of_nonneg (by omega)]; omega) | (rw [Int.tdiv_eq_ediv_of_nonneg (by omega)]; omega)⟩ (by exact sy_dec (by first | omega | (rw [Int.tmod_eq_emod_of_nonneg (by omega)]; omega) | (rw [Int.tdiv_eq_ediv_of_nonneg (by omega)]; omega)) (by first | omega | (rw [Int.tmod_eq_emod_of_nonneg (by omega)]; omega) | (rw [Int.tdiv_eq_ediv_of_nonneg (by omega)]; omega)))
      ·
        refine sx_iload_n dX0_reaching_28 rfl ?_
        refine sx_iconst dX0_reaching_29 ⟨by decide, by decide⟩ ?_
        refine sx_iload_n dX0_reaching_30 rfl ?_
        refine sx_ishl dX0_reaching_31 ?_
        refine sx_ior dX0_reaching_32 ?_
        refine sy_top (fun v11 ev11 => ?_)
        refine sx_istore_n dX0_reaching_33 (by decide) ?_
        refine sx_iinc dX0_reaching_34 (by decide) rfl ?_
        rw [sw_w_id (by first | omega | (rw [Int.tmod_eq_emod_of_nonneg (by omega)]; omega) | (rw [Int.tdiv_eq_ediv_of_nonneg (by omega)]; omega)) (by first | omega | (rw [Int.tmod_eq_emod_of_nonneg (by omega)]; omega) | (rw [Int.tdiv_eq_ediv_of_nonneg (by omega)]; omega))]
        refine sx_goto (tgt := 6) dX0_reaching_37 (by decide) ?_
        exact ihh2 _ _ _ ⟨rfl, by first | omega | (rw [Int.tmod_eq_emod_of_nonneg (by omega)]; omega) | (rw [Int.tdiv_eq_ediv_of_nonneg (by omega)]; omega)⟩ (by exact sy_dec (by first | omega | (rw [Int.tmod_eq_emod_of_nonneg (by omega)]; omega) | (rw [Int.tdiv_eq_ediv_of_nonneg (by omega)]; omega)) (by first | omega | (rw [Int.tmod_eq_emod_of_nonneg (by omega)]; omega) | (rw [Int.tdiv_eq_ediv_of_nonneg (by omega)]; omega)))
  · exact ⟨rfl, by first | omega | (rw [Int.tmod_eq_emod_of_nonneg (by omega)]; omega) | (rw [Int.tdiv_eq_ediv_of_nonneg (by omega)]; omega)⟩
set_option maxRecDepth 20000 in
set_option maxHeartbeats 4000000 in
theorem c_X0_countOf_1 {G : sw_G} (d : Nat) {h0 : sw_H} (hJ : cJ h0) (t : Int) : sw_E G NH SH (d) mX0_countOf 0 [some (sw_r 1), some (sw_i t), none, none] [] h0 (sw_Qi (fun z h' => h0 = h')) := by
  have hI : cK pr0 h0 h0 := cK.refl hJ
  refine sx_iconst dX0_countOf_0 ⟨by decide, by decide⟩ ?_
  refine sx_istore_n dX0_countOf_1 (by decide) ?_
  refine sx_iconst dX0_countOf_2 ⟨by decide, by decide⟩ ?_
  refine sx_istore_n dX0_countOf_3 (by decide) ?_
  refine sx_loop2 (fun (h : sw_H) (b : Int) (i : Int) => (h0 = h) ∧ (0 ≤ i) ∧ (0 ≤ b) ∧ (b ≤ i)) (fun (h : sw_H) (b : Int) (i : Int) => (60 - i).toNat) (fun (h : sw_H) (b : Int) (i : Int) => sw_E G NH SH (d) mX0_countOf 4 [some (sw_r 1), some (sw_i t), some (sw_i b), some (sw_i i)] [] h (sw_Qi (fun z h' => h0 = h'))) ?_ _ _ _ ?_
  · rintro h1 b_2 i_3 ⟨rfl, j4, j5, j6⟩ ihh1
    try dsimp only at ihh1
    refine sx_iload_n dX0_countOf_4 rfl ?_
    refine sx_aload_n dX0_countOf_5 rfl ?_
    refine sx_getI (k := 1) cl_0 fl_X0_52 dX0_countOf_6 s_1 (by decide) rfl (by decide) ?_
    have r7 : (0 : Int) ≤ h0 1 1 ∧ h0 1 1 ≤ 60 := hI.1.1 1 1
    refine sx_icmp_ge (tgt := 40) dX0_countOf_9 (by decide) (fun c8 => ?_) (fun c8 => ?_)
    ·
      refine sx_iload_n dX0_countOf_40 rfl ?_
      refine sx_ireturn dX0_countOf_41 ?_
      exact ⟨_, rfl, rfl⟩
    ·
      refine sx_aload_n dX0_countOf_12 rfl ?_
      refine sx_getS (k := 5) (t := 2) cl_0 fl_X0_9 dX0_countOf_13 s_1 (by decide) rfl (by decide) ?_
      refine sx_iload_n dX0_countOf_16 rfl ?_
      refine sx_iaload dX0_countOf_17 s_2 (by decide) (by decide) ⟨by first | omega | (rw [Int.tmod_eq_emod_of_nonneg (by omega)]; omega) | (rw [Int.tdiv_eq_ediv_of_nonneg (by omega)]; omega), by first | omega | (rw [Int.tmod_eq_emod_of_nonneg (by omega)]; omega) | (rw [Int.tdiv_eq_ediv_of_nonneg (by omega)]; omega)⟩ ?_
      refine sx_if_ne (tgt := 34) dX0_countOf_18 (by decide) (fun c9 => ?_) (fun c9 => ?_)
      ·
        refine sx_iinc dX0_countOf_34 (by decide) rfl ?_
        rw [sw_w_id (by first | omega | (rw [Int.tmod_eq_emod_of_nonneg (by omega)]; omega) | (rw [Int.tdiv_eq_ediv_of_nonneg (by omega)]; omega)) (by first | omega | (rw [Int.tmod_eq_emod_of_nonneg (by omega)]; omega) | (rw [Int.tdiv_eq_ediv_of_nonneg (by omega)]; omega))]
        refine sx_goto (tgt := 4) dX0_countOf_37 (by decide) ?_
        exact ihh1 _ _ _ ⟨rfl, by first | omega | (rw [Int.tmod_eq_emod_of_nonneg (by omega)]; omega) | (rw [Int.tdiv_eq_ediv_of_nonneg (by omega)]; omega), by first | omega | (rw [Int.tmod_eq_emod_of_nonneg (by omega)]; omega) | (rw [Int.tdiv_eq_ediv_of_nonneg (by omega)]; omega), by first | omega | (rw [Int.tmod_eq_emod_of_nonneg (by omega)]; omega) | (rw [Int.tdiv_eq_ediv_of_nonneg (by omega)]; omega)⟩ (by exact sy_dec (by first | omega | (rw [Int.tmod_eq_emod_of_nonneg (by omega)]; omega) | (rw [Int.tdiv_eq_ediv_of_nonneg (by omega)]; omega)) (by first | omega | (rw [Int.tmod_eq_emod_of_nonneg (by omega)]; omega) | (rw [Int.tdiv_eq_ediv_of_nonneg (by omega)]; omega)))
      ·
        refine sx_aload_n dX0_countOf_21 rfl ?_
        refine sx_getS (k := 6) (t := 3) cl_0 fl_X0_15 dX0_countOf_22 s_1 (by decide) rfl (by decide) ?_
        refine sx_iload_n dX0_countOf_25 rfl ?_
        refine sx_iaload dX0_countOf_26 s_3 (by decide) (by decide) ⟨by first | omega | (rw [Int.tmod_eq_emod_of_nonneg (by omega)]; omega) | (rw [Int.tdiv_eq_ediv_of_nonneg (by omega)]; omega), by first | omega | (rw [Int.tmod_eq_emod_of_nonneg (by omega)]; omega) | (rw [Int.tdiv_eq_ediv_of_nonneg (by omega)]; omega)⟩ ?_
        refine sx_iload_n dX0_countOf_27 rfl ?_
        refine sx_icmp_ne (tgt := 34) dX0_countOf_28 (by decide) (fun c10 => ?_) (fun c10 => ?_)
        ·
          refine sx_iinc dX0_countOf_34 (by decide) rfl ?_
          rw [sw_w_id (by first | omega | (rw [Int.tmod_eq_emod_of_nonneg (by omega)]; omega) | (rw [Int.tdiv_eq_ediv_of_nonneg (by omega)]; omega)) (by first | omega | (rw [Int.tmod_eq_emod_of_nonneg (by omega)]; omega) | (rw [Int.tdiv_eq_ediv_of_nonneg (by omega)]; omega))]
          refine sx_goto (tgt := 4) dX0_countOf_37 (by decide) ?_
          exact ihh1 _ _ _ ⟨rfl, by first | omega | (rw [Int.tmod_eq_emod_of_nonneg (by omega)]; omega) | (rw [Int.tdiv_eq_ediv_of_nonneg (by omega)]; omega), by first | omega | (rw [Int.tmod_eq_emod_of_nonneg (by omega)]; omega) | (rw [Int.tdiv_eq_ediv_of_nonneg (by omega)]; omega), by first | omega | (rw [Int.tmod_eq_emod_of_nonneg (by omega)]; omega) | (rw [Int.tdiv_eq_ediv_of_nonneg (by omega)]; omega)⟩ (by exact sy_dec (by first | omega | (rw [Int.tmod_eq_emod_of_nonneg (by omega)]; omega) | (rw [Int.tdiv_eq_ediv_of_nonneg (by omega)]; omega)) (by first | omega | (rw [Int.tmod_eq_emod_of_nonneg (by omega)]; omega) | (rw [Int.tdiv_eq_ediv_of_nonneg (by omega)]; omega)))
        ·
          refine sx_iinc dX0_countOf_31 (by decide) rfl ?_
          rw [sw_w_id (by first | omega | (rw [Int.tmod_eq_emod_of_nonneg (by omega)]; omega) | (rw [Int.tdiv_eq_ediv_of_nonneg (by omega)]; omega)) (by first | omega | (rw [Int.tmod_eq_emod_of_nonneg (by omega)]; omega) | (rw [Int.tdiv_eq_ediv_of_nonneg (by omega)]; omega))]
          refine sx_iinc dX0_countOf_34 (by decide) rfl ?_
          rw [sw_w_id (by first | omega | (rw [Int.tmod_eq_emod_of_nonneg (by omega)]; omega) | (rw [Int.tdiv_eq_ediv_of_nonneg (by omega)]; omega)) (by first | omega | (rw [Int.tmod_eq_emod_of_nonneg (by omega)]; omega) | (rw [Int.tdiv_eq_ediv_of_nonneg (by omega)]; omega))]
          refine sx_goto (tgt := 4) dX0_countOf_37 (by decide) ?_
          exact ihh1 _ _ _ ⟨rfl, by first | omega | (rw [Int.tmod_eq_emod_of_nonneg (by omega)]; omega) | (rw [Int.tdiv_eq_ediv_of_nonneg (by omega)]; omega), by first | omega | (rw [Int.tmod_eq_emod_of_nonneg (by omega)]; omega) | (rw [Int.tdiv_eq_ediv_of_nonneg (by omega)]; omega), by first | omega | (rw [Int.tmod_eq_emod_of_nonneg (by omega)]; omega) | (rw [Int.tdiv_eq_ediv_of_nonneg (by omega)]; omega)⟩ (by exact sy_dec (by first | omega | (rw [Int.tmod_eq_emod_of_nonneg (by omega)]; omega) | (rw [Int.tdiv_eq_ediv_of_nonneg (by omega)]; omega)) (by first | omega | (rw [Int.tmod_eq_emod_of_nonneg (by omega)]; omega) | (rw [Int.tdiv_eq_ediv_of_nonneg (by omega)]; omega)))
  · exact ⟨rfl, by first | omega | (rw [Int.tmod_eq_emod_of_nonneg (by omega)]; omega) | (rw [Int.tdiv_eq_ediv_of_nonneg (by omega)]; omega), by first | omega | (rw [Int.tmod_eq_emod_of_nonneg (by omega)]; omega) | (rw [Int.tdiv_eq_ediv_of_nonneg (by omega)]; omega), by first | omega | (rw [Int.tmod_eq_emod_of_nonneg (by omega)]; omega) | (rw [Int.tdiv_eq_ediv_of_nonneg (by omega)]; omega)⟩
set_option maxRecDepth 20000 in
set_option maxHeartbeats 4000000 in
theorem c_X0_isShuffle_1 {G : sw_G} (d : Nat) {h0 : sw_H} (hJ : cJ h0) (i : Int) (hi : 0 ≤ i ∧ i < 60) : sw_E G NH SH (d) mX0_isShuffle 0 [some (sw_r 1), some (sw_i i)] [] h0 (sw_Qz (fun z h' => h0 = h' ∧ (z = 1 → 0 ≤ h0 3 i.toNat ∧ h0 3 i.toNat ≤ 6))) := by
  have hI : cK pr0 h0 h0 := cK.refl hJ
  have r1 := R1at1 hI.1 i.toNat
  refine sx_aload_n dX0_isShuffle_0 rfl ?_
  refine sx_getS (k := 5) (t := 2) cl_0 fl_X0_9 dX0_isShuffle_1 s_1 (by decide) rfl (by decide) ?_
  refine sx_iload_n dX0_isShuffle_4 rfl ?_
  refine sx_iaload dX0_isShuffle_5 s_2 (by decide) (by decide) ⟨by first | omega | (rw [Int.tmod_eq_emod_of_nonneg (by omega)]; omega) | (rw [Int.tdiv_eq_ediv_of_nonneg (by omega)]; omega), by first | omega | (rw [Int.tmod_eq_emod_of_nonneg (by omega)]; omega) | (rw [Int.tdiv_eq_ediv_of_nonneg (by omega)]; omega)⟩ ?_
  refine sx_if_ne (tgt := 24) dX0_isShuffle_6 (by decide) (fun c1 => ?_) (fun c1 => ?_)
  ·
    refine sx_iconst dX0_isShuffle_24 ⟨by decide, by decide⟩ ?_
    refine sx_ireturn dX0_isShuffle_25 ?_
    exact ⟨_, rfl, by omega, ⟨rfl, by omega⟩⟩
  ·
    refine sx_aload_n dX0_isShuffle_9 rfl ?_
    refine sx_getS (k := 6) (t := 3) cl_0 fl_X0_15 dX0_isShuffle_10 s_1 (by decide) rfl (by decide) ?_
    refine sx_iload_n dX0_isShuffle_13 rfl ?_
    refine sx_iaload dX0_isShuffle_14 s_3 (by decide) (by decide) ⟨by first | omega | (rw [Int.tmod_eq_emod_of_nonneg (by omega)]; omega) | (rw [Int.tdiv_eq_ediv_of_nonneg (by omega)]; omega), by first | omega | (rw [Int.tmod_eq_emod_of_nonneg (by omega)]; omega) | (rw [Int.tdiv_eq_ediv_of_nonneg (by omega)]; omega)⟩ ?_
    refine sx_bipush dX0_isShuffle_15 ⟨by decide, by decide, by decide⟩ ?_
    refine sx_icmp_ge (tgt := 24) dX0_isShuffle_17 (by decide) (fun c2 => ?_) (fun c2 => ?_)
    ·
      refine sx_iconst dX0_isShuffle_24 ⟨by decide, by decide⟩ ?_
      refine sx_ireturn dX0_isShuffle_25 ?_
      exact ⟨_, rfl, by omega, ⟨rfl, by omega⟩⟩
    ·
      refine sx_iconst dX0_isShuffle_20 ⟨by decide, by decide⟩ ?_
      refine sx_goto (tgt := 25) dX0_isShuffle_21 (by decide) ?_
      refine sx_ireturn dX0_isShuffle_25 ?_
      exact ⟨_, rfl, by omega, ⟨rfl, by omega⟩⟩
set_option maxRecDepth 20000 in
set_option maxHeartbeats 4000000 in
theorem c_X0_isPure_1 {G : sw_G} (d : Nat) {h0 : sw_H} (hJ : cJ h0) (w : Int) (hw : 0 ≤ w ∧ w < h0 1 0) : sw_E G NH SH (d + 1) mX0_isPure 0 [some (sw_r 1), some (sw_i w), none] [] h0 (sw_Qz (fun z h' => h0 = h')) := by
  have hI : cK pr0 h0 h0 := cK.refl hJ
  have rw : (0 : Int) ≤ h0 1 0 ∧ h0 1 0 ≤ 6 := hI.1.1 1 0
  refine sx_aload_n dX0_isPure_0 rfl ?_
  refine sx_getS (k := 9) (t := 6) cl_0 fl_X0_24 dX0_isPure_1 s_1 (by decide) rfl (by decide) ?_
  refine sx_iload_n dX0_isPure_4 rfl ?_
  refine sy_iaF (F := fun z => (0 : Int) ≤ z ∧ z ≤ 60) dX0_isPure_5 s_6 (by decide) (by decide) ⟨by first | omega | (rw [Int.tmod_eq_emod_of_nonneg (by omega)]; omega) | (rw [Int.tdiv_eq_ediv_of_nonneg (by omega)]; omega), by first | omega | (rw [Int.tmod_eq_emod_of_nonneg (by omega)]; omega) | (rw [Int.tdiv_eq_ediv_of_nonneg (by omega)]; omega)⟩ (hI.1.1 6 _) (fun r1 => ?_)
  refine sy_top (fun v2 ev2 => ?_)
  refine sx_istore_n dX0_isPure_6 (by decide) ?_
  refine sx_loop1 (fun (h : sw_H) (i : Int) => (h0 = h) ∧ (0 ≤ i)) (fun (h : sw_H) (i : Int) => (60 - i).toNat) (fun (h : sw_H) (i : Int) => sw_E G NH SH (d + 1) mX0_isPure 7 [some (sw_r 1), some (sw_i w), some (sw_i i)] [] h (sw_Qz (fun z h' => h0 = h'))) ?_ _ _ ?_
  · rintro h3 i_4 ⟨rfl, j5⟩ ihh3
    try dsimp only at ihh3
    refine sx_iload_n dX0_isPure_7 rfl ?_
    refine sx_aload_n dX0_isPure_8 rfl ?_
    refine sx_getS (k := 9) (t := 6) cl_0 fl_X0_24 dX0_isPure_9 s_1 (by decide) rfl (by decide) ?_
    refine sx_iload_n dX0_isPure_12 rfl ?_
    refine sx_iconst dX0_isPure_13 ⟨by decide, by decide⟩ ?_
    refine sx_iadd dX0_isPure_14 ?_
    refine sy_topw (by first | omega | (rw [Int.tmod_eq_emod_of_nonneg (by omega)]; omega) | (rw [Int.tdiv_eq_ediv_of_nonneg (by omega)]; omega)) ?_
    refine sy_iaF (F := fun z => (0 : Int) ≤ z ∧ z ≤ 60) dX0_isPure_15 s_6 (by decide) (by decide) ⟨by first | omega | (rw [Int.tmod_eq_emod_of_nonneg (by omega)]; omega) | (rw [Int.tdiv_eq_ediv_of_nonneg (by omega)]; omega), by first | omega | (rw [Int.tmod_eq_emod_of_nonneg (by omega)]; omega) | (rw [Int.tdiv_eq_ediv_of_nonneg (by omega)]; omega)⟩ (hI.1.1 6 _) (fun r6 => ?_)
    refine sx_icmp_ge (tgt := 35) dX0_isPure_16 (by decide) (fun c7 => ?_) (fun c7 => ?_)
    ·
      refine sx_iconst dX0_isPure_35 ⟨by decide, by decide⟩ ?_
      refine sx_ireturn dX0_isPure_36 ?_
      exact ⟨_, rfl, by omega, rfl⟩
    ·
      refine sx_aload_n dX0_isPure_19 rfl ?_
      refine sx_iload_n dX0_isPure_20 rfl ?_
      refine sx_callVz lk_X0_72 cl_0 s_1 (by decide) dX0_isPure_21 (vs := [_]) rfl rfl (Nat.le_of_ble_eq_true rfl) (Nat.le_of_ble_eq_true rfl) rfl (c_X0_isShuffle_1 _ hI.1 _ (by first | omega | (rw [Int.tmod_eq_emod_of_nonneg (by omega)]; omega) | (rw [Int.tdiv_eq_ediv_of_nonneg (by omega)]; omega))) (fun x9 h8 zx9 ph8 => ?_)
      obtain ⟨rfl, w_x9⟩ := ph8
      refine sx_if_ne (tgt := 29) dX0_isPure_24 (by decide) (fun c10 => ?_) (fun c10 => ?_)
      ·
        refine sx_iinc dX0_isPure_29 (by decide) rfl ?_
        rw [sw_w_id (by first | omega | (rw [Int.tmod_eq_emod_of_nonneg (by omega)]; omega) | (rw [Int.tdiv_eq_ediv_of_nonneg (by omega)]; omega)) (by first | omega | (rw [Int.tmod_eq_emod_of_nonneg (by omega)]; omega) | (rw [Int.tdiv_eq_ediv_of_nonneg (by omega)]; omega))]
        refine sx_goto (tgt := 7) dX0_isPure_32 (by decide) ?_
        exact ihh3 _ _ ⟨rfl, by first | omega | (rw [Int.tmod_eq_emod_of_nonneg (by omega)]; omega) | (rw [Int.tdiv_eq_ediv_of_nonneg (by omega)]; omega)⟩ (by exact sy_dec (by first | omega | (rw [Int.tmod_eq_emod_of_nonneg (by omega)]; omega) | (rw [Int.tdiv_eq_ediv_of_nonneg (by omega)]; omega)) (by first | omega | (rw [Int.tmod_eq_emod_of_nonneg (by omega)]; omega) | (rw [Int.tdiv_eq_ediv_of_nonneg (by omega)]; omega)))
      ·
        refine sx_iconst dX0_isPure_27 ⟨by decide, by decide⟩ ?_
        refine sx_ireturn dX0_isPure_28 ?_
        exact ⟨_, rfl, by omega, rfl⟩
  · exact ⟨rfl, by first | omega | (rw [Int.tmod_eq_emod_of_nonneg (by omega)]; omega) | (rw [Int.tdiv_eq_ediv_of_nonneg (by omega)]; omega)⟩
set_option maxRecDepth 20000 in
set_option maxHeartbeats 4000000 in
theorem c_X0_takePlainly_13 {G : sw_G} (d : Nat) {h0 : sw_H} (hJ : cJ h0)  : sw_E G NH SH (d) mX0_takePlainly 0 [some (sw_r 13), none] [] h0 (sw_Qv (fun h' => cK pr0 h0 h')) := by
  have hI : cK pr0 h0 h0 := cK.refl hJ
  refine sx_iconst dX0_takePlainly_0 ⟨by decide, by decide⟩ ?_
  refine sx_istore_n dX0_takePlainly_1 (by decide) ?_
  refine sx_loop1 (fun (h : sw_H) (i : Int) => (cK pr0 h0 h) ∧ (0 ≤ i)) (fun (h : sw_H) (i : Int) => (57 - i).toNat) (fun (h : sw_H) (i : Int) => sw_E G NH SH (d) mX0_takePlainly 2 [some (sw_r 13), some (sw_i i)] [] h (sw_Qv (fun h' => cK pr0 h0 h'))) ?_ _ _ ?_
  · rintro h1 i_2 ⟨Ih1, j3⟩ ihh1
    try dsimp only at ihh1
    refine sx_iload_n dX0_takePlainly_2 rfl ?_
    refine sx_aload_n dX0_takePlainly_3 rfl ?_
    refine sx_getS (k := 15) (t := 24) cl_0 fl_X0_42 dX0_takePlainly_4 s_13 (by decide) rfl (by decide) ?_
    refine sx_alen (t := 0) dX0_takePlainly_7 s_24 (by decide) (by decide) (by decide) ?_
    refine sx_icmp_ge (tgt := 29) dX0_takePlainly_8 (by decide) (fun c4 => ?_) (fun c4 => ?_)
    ·
      refine sx_ret dX0_takePlainly_29 ?_
      exact ⟨rfl, Ih1⟩
    ·
      refine sx_aload_n dX0_takePlainly_11 rfl ?_
      refine sx_getS (k := 15) (t := 24) cl_0 fl_X0_42 dX0_takePlainly_12 s_13 (by decide) rfl (by decide) ?_
      refine sx_iload_n dX0_takePlainly_15 rfl ?_
      refine sx_iconst dX0_takePlainly_16 ⟨by decide, by decide⟩ ?_
      refine sx_iload_n dX0_takePlainly_17 rfl ?_
      refine sx_bipush dX0_takePlainly_18 ⟨by decide, by decide, by decide⟩ ?_
      refine sx_idiv dX0_takePlainly_20 (by first | omega | (rw [Int.tmod_eq_emod_of_nonneg (by omega)]; omega) | (rw [Int.tdiv_eq_ediv_of_nonneg (by omega)]; omega)) ?_
      refine sy_topw (by first | omega | (rw [Int.tmod_eq_emod_of_nonneg (by omega)]; omega) | (rw [Int.tdiv_eq_ediv_of_nonneg (by omega)]; omega)) ?_
      refine sx_iadd dX0_takePlainly_21 ?_
      refine sy_topw (by first | omega | (rw [Int.tmod_eq_emod_of_nonneg (by omega)]; omega) | (rw [Int.tdiv_eq_ediv_of_nonneg (by omega)]; omega)) ?_
      refine sy_iastore dX0_takePlainly_22 s_24 (by decide) (by decide) ⟨by first | omega | (rw [Int.tmod_eq_emod_of_nonneg (by omega)]; omega) | (rw [Int.tdiv_eq_ediv_of_nonneg (by omega)]; omega), by first | omega | (rw [Int.tmod_eq_emod_of_nonneg (by omega)]; omega) | (rw [Int.tdiv_eq_ediv_of_nonneg (by omega)]; omega)⟩ (fun h5 eh5 => ?_)
      have Ih5 := Ih1.up eh5 trivial rfl rfl
      refine sx_iinc dX0_takePlainly_23 (by decide) rfl ?_
      rw [sw_w_id (by first | omega | (rw [Int.tmod_eq_emod_of_nonneg (by omega)]; omega) | (rw [Int.tdiv_eq_ediv_of_nonneg (by omega)]; omega)) (by first | omega | (rw [Int.tmod_eq_emod_of_nonneg (by omega)]; omega) | (rw [Int.tdiv_eq_ediv_of_nonneg (by omega)]; omega))]
      refine sx_goto (tgt := 2) dX0_takePlainly_26 (by decide) ?_
      exact ihh1 _ _ ⟨Ih5, by first | omega | (rw [Int.tmod_eq_emod_of_nonneg (by omega)]; omega) | (rw [Int.tdiv_eq_ediv_of_nonneg (by omega)]; omega)⟩ (by exact sy_dec (by first | omega | (rw [Int.tmod_eq_emod_of_nonneg (by omega)]; omega) | (rw [Int.tdiv_eq_ediv_of_nonneg (by omega)]; omega)) (by first | omega | (rw [Int.tmod_eq_emod_of_nonneg (by omega)]; omega) | (rw [Int.tdiv_eq_ediv_of_nonneg (by omega)]; omega)))
  · exact ⟨hI, by first | omega | (rw [Int.tmod_eq_emod_of_nonneg (by omega)]; omega) | (rw [Int.tdiv_eq_ediv_of_nonneg (by omega)]; omega)⟩
set_option maxRecDepth 20000 in
set_option maxHeartbeats 4000000 in
theorem c_X0_empty_13 {G : sw_G} (d : Nat) {h0 : sw_H} (hJ : cJ h0)  : sw_E G NH SH (d + 1) mX0_empty 0 [some (sw_r 13)] [] h0 (sw_Qv (fun h' => cK pr0 h0 h')) := by
  have hI : cK pr0 h0 h0 := cK.refl hJ
  refine sx_aload_n dX0_empty_0 rfl ?_
  refine sx_iconst dX0_empty_1 ⟨by decide, by decide⟩ ?_
  refine sy_putI (k := 0) cl_0 fl_X0_48 dX0_empty_2 s_13 (by decide) rfl (by decide) rfl rfl (fun h1 eh1 => ?_)
  have Ih1 := hI.up eh1 (show (0 : Int) ≤ _ ∧ _ ≤ (6 : Int) from ⟨by first | omega | (rw [Int.tmod_eq_emod_of_nonneg (by omega)]; omega) | (rw [Int.tdiv_eq_ediv_of_nonneg (by omega)]; omega), by first | omega | (rw [Int.tmod_eq_emod_of_nonneg (by omega)]; omega) | (rw [Int.tdiv_eq_ediv_of_nonneg (by omega)]; omega)⟩) rfl rfl
  refine sx_aload_n dX0_empty_5 rfl ?_
  refine sx_iconst dX0_empty_6 ⟨by decide, by decide⟩ ?_
  refine sy_putI (k := 1) cl_0 fl_X0_52 dX0_empty_7 s_13 (by decide) rfl (by decide) rfl rfl (fun h2 eh2 => ?_)
  have Ih2 := Ih1.up eh2 (show (0 : Int) ≤ _ ∧ _ ≤ (60 : Int) from ⟨by first | omega | (rw [Int.tmod_eq_emod_of_nonneg (by omega)]; omega) | (rw [Int.tdiv_eq_ediv_of_nonneg (by omega)]; omega), by first | omega | (rw [Int.tmod_eq_emod_of_nonneg (by omega)]; omega) | (rw [Int.tdiv_eq_ediv_of_nonneg (by omega)]; omega)⟩) rfl rfl
  refine sx_aload_n dX0_empty_10 rfl ?_
  refine sx_iconst dX0_empty_11 ⟨by decide, by decide⟩ ?_
  refine sy_putI (k := 2) cl_0 fl_X0_55 dX0_empty_12 s_13 (by decide) rfl (by decide) rfl rfl (fun h3 eh3 => ?_)
  have Ih3 := Ih2.up eh3 trivial rfl rfl
  refine sx_aload_n dX0_empty_15 rfl ?_
  refine sx_iconst dX0_empty_16 ⟨by decide, by decide⟩ ?_
  refine sy_putI (k := 3) cl_0 fl_X0_58 dX0_empty_17 s_13 (by decide) rfl (by decide) rfl rfl (fun h4 eh4 => ?_)
  have Ih4 := Ih3.up eh4 trivial rfl rfl
  refine sx_aload_n dX0_empty_20 rfl ?_
  refine sx_iconst dX0_empty_21 ⟨by decide, by decide⟩ ?_
  refine sy_putI (k := 4) cl_0 fl_X0_61 dX0_empty_22 s_13 (by decide) rfl (by decide) rfl rfl (fun h5 eh5 => ?_)
  have Ih5 := Ih4.up eh5 trivial rfl rfl
  refine sx_aload_n dX0_empty_25 rfl ?_
  refine sx_getS (k := 9) (t := 18) cl_0 fl_X0_24 dX0_empty_26 s_13 (by decide) rfl (by decide) ?_
  refine sx_iconst dX0_empty_29 ⟨by decide, by decide⟩ ?_
  refine sx_iconst dX0_empty_30 ⟨by decide, by decide⟩ ?_
  refine sy_iastore dX0_empty_31 s_18 (by decide) (by decide) ⟨by first | omega | (rw [Int.tmod_eq_emod_of_nonneg (by omega)]; omega) | (rw [Int.tdiv_eq_ediv_of_nonneg (by omega)]; omega), by first | omega | (rw [Int.tmod_eq_emod_of_nonneg (by omega)]; omega) | (rw [Int.tdiv_eq_ediv_of_nonneg (by omega)]; omega)⟩ (fun h6 eh6 => ?_)
  have Ih6 := Ih5.up eh6 (show (0 : Int) ≤ _ ∧ _ ≤ (60 : Int) from ⟨by first | omega | (rw [Int.tmod_eq_emod_of_nonneg (by omega)]; omega) | (rw [Int.tdiv_eq_ediv_of_nonneg (by omega)]; omega), by first | omega | (rw [Int.tmod_eq_emod_of_nonneg (by omega)]; omega) | (rw [Int.tdiv_eq_ediv_of_nonneg (by omega)]; omega)⟩) rfl rfl
  refine sx_aload_n dX0_empty_32 rfl ?_
  refine sx_callVv lk_X0_45 cl_0 s_13 (by decide) dX0_empty_33 (vs := []) rfl rfl (Nat.le_of_ble_eq_true rfl) (Nat.le_of_ble_eq_true rfl) rfl (c_X0_takePlainly_13 _ Ih6.1) (fun h7 ph7 => ?_)
  have Kh7 := ph7
  have Ih7 := Ih6.tr Kh7 sb_pr0_pr0
  refine sx_ret dX0_empty_36 ?_
  exact ⟨rfl, Ih7⟩
set_option maxRecDepth 20000 in
set_option maxHeartbeats 4000000 in
theorem c_X0_hasWord_13 {G : sw_G} (d : Nat) {h0 : sw_H} (hJ : cJ h0) (w : Int) : sw_E G NH SH (d) mX0_hasWord 0 [some (sw_r 13), some (sw_i w)] [] h0 (sw_Qz (fun z h' => h0 = h' ∧ (z = 1 → 0 ≤ w ∧ w < h0 13 0))) := by
  have hI : cK pr0 h0 h0 := cK.refl hJ
  refine sx_iload_n dX0_hasWord_0 rfl ?_
  refine sx_if_lt (tgt := 16) dX0_hasWord_1 (by decide) (fun c1 => ?_) (fun c1 => ?_)
  ·
    refine sx_iconst dX0_hasWord_16 ⟨by decide, by decide⟩ ?_
    refine sx_ireturn dX0_hasWord_17 ?_
    exact ⟨_, rfl, by omega, ⟨rfl, by omega⟩⟩
  ·
    refine sx_iload_n dX0_hasWord_4 rfl ?_
    refine sx_aload_n dX0_hasWord_5 rfl ?_
    refine sx_getI (k := 0) cl_0 fl_X0_48 dX0_hasWord_6 s_13 (by decide) rfl (by decide) ?_
    have r2 : (0 : Int) ≤ h0 13 0 ∧ h0 13 0 ≤ 6 := hI.1.1 13 0
    refine sx_icmp_ge (tgt := 16) dX0_hasWord_9 (by decide) (fun c3 => ?_) (fun c3 => ?_)
    ·
      refine sx_iconst dX0_hasWord_16 ⟨by decide, by decide⟩ ?_
      refine sx_ireturn dX0_hasWord_17 ?_
      exact ⟨_, rfl, by omega, ⟨rfl, by omega⟩⟩
    ·
      refine sx_iconst dX0_hasWord_12 ⟨by decide, by decide⟩ ?_
      refine sx_goto (tgt := 17) dX0_hasWord_13 (by decide) ?_
      refine sx_ireturn dX0_hasWord_17 ?_
      exact ⟨_, rfl, by omega, ⟨rfl, by omega⟩⟩
set_option maxRecDepth 20000 in
set_option maxHeartbeats 4000000 in
theorem c_X0_hasItem_13 {G : sw_G} (d : Nat) {h0 : sw_H} (hJ : cJ h0) (w i : Int) : sw_E G NH SH (d + 1) mX0_hasItem 0 [some (sw_r 13), some (sw_i w), some (sw_i i)] [] h0 (sw_Qz (fun z h' => h0 = h' ∧ (z = 1 → 0 ≤ w ∧ w < h0 13 0 ∧ 0 ≤ i ∧ i < h0 18 (w + 1).toNat - h0 18 w.toNat))) := by
  have hI : cK pr0 h0 h0 := cK.refl hJ
  have rw : (0 : Int) ≤ h0 13 0 ∧ h0 13 0 ≤ 6 := hI.1.1 13 0
  refine sx_aload_n dX0_hasItem_0 rfl ?_
  refine sx_iload_n dX0_hasItem_1 rfl ?_
  refine sx_callVz lk_X0_64 cl_0 s_13 (by decide) dX0_hasItem_2 (vs := [_]) rfl rfl (Nat.le_of_ble_eq_true rfl) (Nat.le_of_ble_eq_true rfl) rfl (c_X0_hasWord_13 _ hI.1 _) (fun x2 h1 zx2 ph1 => ?_)
  obtain ⟨rfl, w_x2⟩ := ph1
  refine sx_if_eq (tgt := 35) dX0_hasItem_5 (by decide) (fun c3 => ?_) (fun c3 => ?_)
  ·
    refine sx_iconst dX0_hasItem_35 ⟨by decide, by decide⟩ ?_
    refine sx_ireturn dX0_hasItem_36 ?_
    exact ⟨_, rfl, by omega, ⟨rfl, by omega⟩⟩
  ·
    refine sx_iload_n dX0_hasItem_8 rfl ?_
    refine sx_if_lt (tgt := 35) dX0_hasItem_9 (by decide) (fun c4 => ?_) (fun c4 => ?_)
    ·
      refine sx_iconst dX0_hasItem_35 ⟨by decide, by decide⟩ ?_
      refine sx_ireturn dX0_hasItem_36 ?_
      exact ⟨_, rfl, by omega, ⟨rfl, by omega⟩⟩
    ·
      refine sx_iload_n dX0_hasItem_12 rfl ?_
      refine sx_aload_n dX0_hasItem_13 rfl ?_
      refine sx_getS (k := 9) (t := 18) cl_0 fl_X0_24 dX0_hasItem_14 s_13 (by decide) rfl (by decide) ?_
      refine sx_iload_n dX0_hasItem_17 rfl ?_
      refine sx_iconst dX0_hasItem_18 ⟨by decide, by decide⟩ ?_
      refine sx_iadd dX0_hasItem_19 ?_
      refine sy_topw (by first | omega | (rw [Int.tmod_eq_emod_of_nonneg (by omega)]; omega) | (rw [Int.tdiv_eq_ediv_of_nonneg (by omega)]; omega)) ?_
      refine sy_iaF (F := fun z => (0 : Int) ≤ z ∧ z ≤ 60) dX0_hasItem_20 s_18 (by decide) (by decide) ⟨by first | omega | (rw [Int.tmod_eq_emod_of_nonneg (by omega)]; omega) | (rw [Int.tdiv_eq_ediv_of_nonneg (by omega)]; omega), by first | omega | (rw [Int.tmod_eq_emod_of_nonneg (by omega)]; omega) | (rw [Int.tdiv_eq_ediv_of_nonneg (by omega)]; omega)⟩ (hI.1.1 18 _) (fun r5 => ?_)
      refine sx_aload_n dX0_hasItem_21 rfl ?_
      refine sx_getS (k := 9) (t := 18) cl_0 fl_X0_24 dX0_hasItem_22 s_13 (by decide) rfl (by decide) ?_
      refine sx_iload_n dX0_hasItem_25 rfl ?_
      refine sy_iaF (F := fun z => (0 : Int) ≤ z ∧ z ≤ 60) dX0_hasItem_26 s_18 (by decide) (by decide) ⟨by first | omega | (rw [Int.tmod_eq_emod_of_nonneg (by omega)]; omega) | (rw [Int.tdiv_eq_ediv_of_nonneg (by omega)]; omega), by first | omega | (rw [Int.tmod_eq_emod_of_nonneg (by omega)]; omega) | (rw [Int.tdiv_eq_ediv_of_nonneg (by omega)]; omega)⟩ (hI.1.1 18 _) (fun r6 => ?_)
      refine sx_isub dX0_hasItem_27 ?_
      refine sy_topw (by first | omega | (rw [Int.tmod_eq_emod_of_nonneg (by omega)]; omega) | (rw [Int.tdiv_eq_ediv_of_nonneg (by omega)]; omega)) ?_
      refine sx_icmp_ge (tgt := 35) dX0_hasItem_28 (by decide) (fun c7 => ?_) (fun c7 => ?_)
      ·
        refine sx_iconst dX0_hasItem_35 ⟨by decide, by decide⟩ ?_
        refine sx_ireturn dX0_hasItem_36 ?_
        exact ⟨_, rfl, by omega, ⟨rfl, by omega⟩⟩
      ·
        refine sx_iconst dX0_hasItem_31 ⟨by decide, by decide⟩ ?_
        refine sx_goto (tgt := 36) dX0_hasItem_32 (by decide) ?_
        refine sx_ireturn dX0_hasItem_36 ?_
        exact ⟨_, rfl, by omega, ⟨rfl, by omega⟩⟩
set_option maxRecDepth 20000 in
set_option maxHeartbeats 4000000 in
theorem c_X0_calledIn_13 {G : sw_G} (d : Nat) {h0 : sw_H} (hJ : cJ h0) (w : Int) (hw : 0 ≤ w ∧ w < h0 13 0) : sw_E G NH SH (d) mX0_calledIn 0 [some (sw_r 13), some (sw_i w), none, none] [] h0 (sw_Qi (fun z h' => h0 = h')) := by
  have hI : cK pr0 h0 h0 := cK.refl hJ
  have rw : (0 : Int) ≤ h0 13 0 ∧ h0 13 0 ≤ 6 := hI.1.1 13 0
  refine sx_iconst dX0_calledIn_0 ⟨by decide, by decide⟩ ?_
  refine sx_istore_n dX0_calledIn_1 (by decide) ?_
  refine sx_aload_n dX0_calledIn_2 rfl ?_
  refine sx_getS (k := 9) (t := 18) cl_0 fl_X0_24 dX0_calledIn_3 s_13 (by decide) rfl (by decide) ?_
  refine sx_iload_n dX0_calledIn_6 rfl ?_
  refine sy_iaF (F := fun z => (0 : Int) ≤ z ∧ z ≤ 60) dX0_calledIn_7 s_18 (by decide) (by decide) ⟨by first | omega | (rw [Int.tmod_eq_emod_of_nonneg (by omega)]; omega) | (rw [Int.tdiv_eq_ediv_of_nonneg (by omega)]; omega), by first | omega | (rw [Int.tmod_eq_emod_of_nonneg (by omega)]; omega) | (rw [Int.tdiv_eq_ediv_of_nonneg (by omega)]; omega)⟩ (hI.1.1 18 _) (fun r1 => ?_)
  refine sy_top (fun v2 ev2 => ?_)
  refine sx_istore_n dX0_calledIn_8 (by decide) ?_
  refine sx_loop2 (fun (h : sw_H) (b : Int) (i : Int) => (h0 = h) ∧ (0 ≤ i)) (fun (h : sw_H) (b : Int) (i : Int) => (60 - i).toNat) (fun (h : sw_H) (b : Int) (i : Int) => sw_E G NH SH (d) mX0_calledIn 9 [some (sw_r 13), some (sw_i w), some (sw_i b), some (sw_i i)] [] h (sw_Qi (fun z h' => h0 = h'))) ?_ _ _ _ ?_
  · rintro h3 b_4 i_5 ⟨rfl, j6⟩ ihh3
    try dsimp only at ihh3
    refine sx_iload_n dX0_calledIn_9 rfl ?_
    refine sx_aload_n dX0_calledIn_10 rfl ?_
    refine sx_getS (k := 9) (t := 18) cl_0 fl_X0_24 dX0_calledIn_11 s_13 (by decide) rfl (by decide) ?_
    refine sx_iload_n dX0_calledIn_14 rfl ?_
    refine sx_iconst dX0_calledIn_15 ⟨by decide, by decide⟩ ?_
    refine sx_iadd dX0_calledIn_16 ?_
    refine sy_topw (by first | omega | (rw [Int.tmod_eq_emod_of_nonneg (by omega)]; omega) | (rw [Int.tdiv_eq_ediv_of_nonneg (by omega)]; omega)) ?_
    refine sy_iaF (F := fun z => (0 : Int) ≤ z ∧ z ≤ 60) dX0_calledIn_17 s_18 (by decide) (by decide) ⟨by first | omega | (rw [Int.tmod_eq_emod_of_nonneg (by omega)]; omega) | (rw [Int.tdiv_eq_ediv_of_nonneg (by omega)]; omega), by first | omega | (rw [Int.tmod_eq_emod_of_nonneg (by omega)]; omega) | (rw [Int.tdiv_eq_ediv_of_nonneg (by omega)]; omega)⟩ (hI.1.1 18 _) (fun r7 => ?_)
    refine sx_icmp_ge (tgt := 48) dX0_calledIn_18 (by decide) (fun c8 => ?_) (fun c8 => ?_)
    ·
      refine sx_iload_n dX0_calledIn_48 rfl ?_
      refine sx_ireturn dX0_calledIn_49 ?_
      exact ⟨_, rfl, rfl⟩
    ·
      refine sx_aload_n dX0_calledIn_21 rfl ?_
      refine sx_getS (k := 5) (t := 14) cl_0 fl_X0_9 dX0_calledIn_22 s_13 (by decide) rfl (by decide) ?_
      refine sx_iload_n dX0_calledIn_25 rfl ?_
      refine sx_iaload dX0_calledIn_26 s_14 (by decide) (by decide) ⟨by first | omega | (rw [Int.tmod_eq_emod_of_nonneg (by omega)]; omega) | (rw [Int.tdiv_eq_ediv_of_nonneg (by omega)]; omega), by first | omega | (rw [Int.tmod_eq_emod_of_nonneg (by omega)]; omega) | (rw [Int.tdiv_eq_ediv_of_nonneg (by omega)]; omega)⟩ ?_
      refine sx_iconst dX0_calledIn_27 ⟨by decide, by decide⟩ ?_
      refine sx_icmp_ne (tgt := 42) dX0_calledIn_28 (by decide) (fun c9 => ?_) (fun c9 => ?_)
      ·
        refine sx_iinc dX0_calledIn_42 (by decide) rfl ?_
        rw [sw_w_id (by first | omega | (rw [Int.tmod_eq_emod_of_nonneg (by omega)]; omega) | (rw [Int.tdiv_eq_ediv_of_nonneg (by omega)]; omega)) (by first | omega | (rw [Int.tmod_eq_emod_of_nonneg (by omega)]; omega) | (rw [Int.tdiv_eq_ediv_of_nonneg (by omega)]; omega))]
        refine sx_goto (tgt := 9) dX0_calledIn_45 (by decide) ?_
        exact ihh3 _ _ _ ⟨rfl, by first | omega | (rw [Int.tmod_eq_emod_of_nonneg (by omega)]; omega) | (rw [Int.tdiv_eq_ediv_of_nonneg (by omega)]; omega)⟩ (by exact sy_dec (by first | omega | (rw [Int.tmod_eq_emod_of_nonneg (by omega)]; omega) | (rw [Int.tdiv_eq_ediv_of_nonneg (by omega)]; omega)) (by first | omega | (rw [Int.tmod_eq_emod_of_nonneg (by omega)]; omega) | (rw [Int.tdiv_eq_ediv_of_nonneg (by omega)]; omega)))
      ·
        refine sx_iload_n dX0_calledIn_31 rfl ?_
        refine sx_iconst dX0_calledIn_32 ⟨by decide, by decide⟩ ?_
        refine sx_aload_n dX0_calledIn_33 rfl ?_
        refine sx_getS (k := 6) (t := 15) cl_0 fl_X0_15 dX0_calledIn_34 s_13 (by decide) rfl (by decide) ?_
        refine sx_iload_n dX0_calledIn_37 rfl ?_
        refine sx_iaload dX0_calledIn_38 s_15 (by decide) (by decide) ⟨by first | omega | (rw [Int.tmod_eq_emod_of_nonneg (by omega)]; omega) | (rw [Int.tdiv_eq_ediv_of_nonneg (by omega)]; omega), by first | omega | (rw [Int.tmod_eq_emod_of_nonneg (by omega)]; omega) | (rw [Int.tdiv_eq_ediv_of_nonneg (by omega)]; omega)⟩ ?_
        refine sx_ishl dX0_calledIn_39 ?_
        refine sx_ior dX0_calledIn_40 ?_
        refine sy_top (fun v10 ev10 => ?_)
        refine sx_istore_n dX0_calledIn_41 (by decide) ?_
        refine sx_iinc dX0_calledIn_42 (by decide) rfl ?_
        rw [sw_w_id (by first | omega | (rw [Int.tmod_eq_emod_of_nonneg (by omega)]; omega) | (rw [Int.tdiv_eq_ediv_of_nonneg (by omega)]; omega)) (by first | omega | (rw [Int.tmod_eq_emod_of_nonneg (by omega)]; omega) | (rw [Int.tdiv_eq_ediv_of_nonneg (by omega)]; omega))]
        refine sx_goto (tgt := 9) dX0_calledIn_45 (by decide) ?_
        exact ihh3 _ _ _ ⟨rfl, by first | omega | (rw [Int.tmod_eq_emod_of_nonneg (by omega)]; omega) | (rw [Int.tdiv_eq_ediv_of_nonneg (by omega)]; omega)⟩ (by exact sy_dec (by first | omega | (rw [Int.tmod_eq_emod_of_nonneg (by omega)]; omega) | (rw [Int.tdiv_eq_ediv_of_nonneg (by omega)]; omega)) (by first | omega | (rw [Int.tmod_eq_emod_of_nonneg (by omega)]; omega) | (rw [Int.tdiv_eq_ediv_of_nonneg (by omega)]; omega)))
  · exact ⟨rfl, by first | omega | (rw [Int.tmod_eq_emod_of_nonneg (by omega)]; omega) | (rw [Int.tdiv_eq_ediv_of_nonneg (by omega)]; omega)⟩
set_option maxRecDepth 20000 in
set_option maxHeartbeats 4000000 in
theorem c_X0_reaching_13 {G : sw_G} (d : Nat) {h0 : sw_H} (hJ : cJ h0) (w : Int) (hw : 0 ≤ w ∧ w < h0 13 0) : sw_E G NH SH (d + 1) mX0_reaching 0 [some (sw_r 13), some (sw_i w), none, none] [] h0 (sw_Qi (fun z h' => h0 = h')) := by
  have hI : cK pr0 h0 h0 := cK.refl hJ
  have rw : (0 : Int) ≤ h0 13 0 ∧ h0 13 0 ≤ 6 := hI.1.1 13 0
  refine sx_iconst dX0_reaching_0 ⟨by decide, by decide⟩ ?_
  refine sx_istore_n dX0_reaching_1 (by decide) ?_
  refine sx_iload_n dX0_reaching_2 rfl ?_
  refine sx_iconst dX0_reaching_3 ⟨by decide, by decide⟩ ?_
  refine sx_iadd dX0_reaching_4 ?_
  refine sy_topw (by first | omega | (rw [Int.tmod_eq_emod_of_nonneg (by omega)]; omega) | (rw [Int.tdiv_eq_ediv_of_nonneg (by omega)]; omega)) ?_
  refine sy_top (fun v1 ev1 => ?_)
  refine sx_istore_n dX0_reaching_5 (by decide) ?_
  refine sx_loop2 (fun (h : sw_H) (b : Int) (i : Int) => (h0 = h) ∧ (0 ≤ i)) (fun (h : sw_H) (b : Int) (i : Int) => (6 - i).toNat) (fun (h : sw_H) (b : Int) (i : Int) => sw_E G NH SH (d + 1) mX0_reaching 6 [some (sw_r 13), some (sw_i w), some (sw_i b), some (sw_i i)] [] h (sw_Qi (fun z h' => h0 = h'))) ?_ _ _ _ ?_
  · rintro h2 b_3 i_4 ⟨rfl, j5⟩ ihh2
    try dsimp only at ihh2
    refine sx_iload_n dX0_reaching_6 rfl ?_
    refine sx_aload_n dX0_reaching_7 rfl ?_
    refine sx_getI (k := 0) cl_0 fl_X0_48 dX0_reaching_8 s_13 (by decide) rfl (by decide) ?_
    have r6 : (0 : Int) ≤ h0 13 0 ∧ h0 13 0 ≤ 6 := hI.1.1 13 0
    refine sx_icmp_ge (tgt := 40) dX0_reaching_11 (by decide) (fun c7 => ?_) (fun c7 => ?_)
    ·
      refine sx_iload_n dX0_reaching_40 rfl ?_
      refine sx_ireturn dX0_reaching_41 ?_
      exact ⟨_, rfl, rfl⟩
    ·
      refine sx_aload_n dX0_reaching_14 rfl ?_
      refine sx_iload_n dX0_reaching_15 rfl ?_
      refine sx_callVi lk_X0_68 cl_0 s_13 (by decide) dX0_reaching_16 (vs := [_]) rfl rfl (Nat.le_of_ble_eq_true rfl) (Nat.le_of_ble_eq_true rfl) rfl (c_X0_calledIn_13 _ hI.1 _ (by first | omega | (rw [Int.tmod_eq_emod_of_nonneg (by omega)]; omega) | (rw [Int.tdiv_eq_ediv_of_nonneg (by omega)]; omega))) (fun x9 h8 ph8 => ?_)
      subst ph8
      refine sx_iload_n dX0_reaching_19 rfl ?_
      refine sx_iconst dX0_reaching_20 ⟨by decide, by decide⟩ ?_
      refine sx_iload_n dX0_reaching_21 rfl ?_
      refine sx_ishl dX0_reaching_22 ?_
      refine sx_ior dX0_reaching_23 ?_
      refine sx_iand dX0_reaching_24 ?_
      refine sx_if_eq (tgt := 34) dX0_reaching_25 (by decide) (fun c10 => ?_) (fun c10 => ?_)
      ·
        refine sx_iinc dX0_reaching_34 (by decide) rfl ?_
        rw [sw_w_id (by first | omega | (rw [Int.tmod_eq_emod_of_nonneg (by omega)]; omega) | (rw [Int.tdiv_eq_ediv_of_nonneg (by omega)]; omega)) (by first | omega | (rw [Int.tmod_eq_emod_of_nonneg (by omega)]; omega) | (rw [Int.tdiv_eq_ediv_of_nonneg (by omega)]; omega))]
        refine sx_goto (tgt := 6) dX0_reaching_37 (by decide) ?_
        exact ihh2 _ _ _ ⟨rfl, by first | omega | (rw [Int.tmod_eq_emod_of_nonneg (by omega)]; omega) | (rw [Int.tdiv_eq_ediv_of_nonneg (by omega)]; omega)⟩ (by exact sy_dec (by first | omega | (rw [Int.tmod_eq_emod_of_nonneg (by omega)]; omega) | (rw [Int.tdiv_eq_ediv_of_nonneg (by omega)]; omega)) (by first | omega | (rw [Int.tmod_eq_emod_of_nonneg (by omega)]; omega) | (rw [Int.tdiv_eq_ediv_of_nonneg (by omega)]; omega)))
      ·
        refine sx_iload_n dX0_reaching_28 rfl ?_
        refine sx_iconst dX0_reaching_29 ⟨by decide, by decide⟩ ?_
        refine sx_iload_n dX0_reaching_30 rfl ?_
        refine sx_ishl dX0_reaching_31 ?_
        refine sx_ior dX0_reaching_32 ?_
        refine sy_top (fun v11 ev11 => ?_)
        refine sx_istore_n dX0_reaching_33 (by decide) ?_
        refine sx_iinc dX0_reaching_34 (by decide) rfl ?_
        rw [sw_w_id (by first | omega | (rw [Int.tmod_eq_emod_of_nonneg (by omega)]; omega) | (rw [Int.tdiv_eq_ediv_of_nonneg (by omega)]; omega)) (by first | omega | (rw [Int.tmod_eq_emod_of_nonneg (by omega)]; omega) | (rw [Int.tdiv_eq_ediv_of_nonneg (by omega)]; omega))]
        refine sx_goto (tgt := 6) dX0_reaching_37 (by decide) ?_
        exact ihh2 _ _ _ ⟨rfl, by first | omega | (rw [Int.tmod_eq_emod_of_nonneg (by omega)]; omega) | (rw [Int.tdiv_eq_ediv_of_nonneg (by omega)]; omega)⟩ (by exact sy_dec (by first | omega | (rw [Int.tmod_eq_emod_of_nonneg (by omega)]; omega) | (rw [Int.tdiv_eq_ediv_of_nonneg (by omega)]; omega)) (by first | omega | (rw [Int.tmod_eq_emod_of_nonneg (by omega)]; omega) | (rw [Int.tdiv_eq_ediv_of_nonneg (by omega)]; omega)))
  · exact ⟨rfl, by first | omega | (rw [Int.tmod_eq_emod_of_nonneg (by omega)]; omega) | (rw [Int.tdiv_eq_ediv_of_nonneg (by omega)]; omega)⟩
set_option maxRecDepth 20000 in
set_option maxHeartbeats 4000000 in
theorem c_X0_countOf_13 {G : sw_G} (d : Nat) {h0 : sw_H} (hJ : cJ h0) (t : Int) : sw_E G NH SH (d) mX0_countOf 0 [some (sw_r 13), some (sw_i t), none, none] [] h0 (sw_Qi (fun z h' => h0 = h')) := by
  have hI : cK pr0 h0 h0 := cK.refl hJ
  refine sx_iconst dX0_countOf_0 ⟨by decide, by decide⟩ ?_
  refine sx_istore_n dX0_countOf_1 (by decide) ?_
  refine sx_iconst dX0_countOf_2 ⟨by decide, by decide⟩ ?_
  refine sx_istore_n dX0_countOf_3 (by decide) ?_
  refine sx_loop2 (fun (h : sw_H) (b : Int) (i : Int) => (h0 = h) ∧ (0 ≤ i) ∧ (0 ≤ b) ∧ (b ≤ i)) (fun (h : sw_H) (b : Int) (i : Int) => (60 - i).toNat) (fun (h : sw_H) (b : Int) (i : Int) => sw_E G NH SH (d) mX0_countOf 4 [some (sw_r 13), some (sw_i t), some (sw_i b), some (sw_i i)] [] h (sw_Qi (fun z h' => h0 = h'))) ?_ _ _ _ ?_
  · rintro h1 b_2 i_3 ⟨rfl, j4, j5, j6⟩ ihh1
    try dsimp only at ihh1
    refine sx_iload_n dX0_countOf_4 rfl ?_
    refine sx_aload_n dX0_countOf_5 rfl ?_
    refine sx_getI (k := 1) cl_0 fl_X0_52 dX0_countOf_6 s_13 (by decide) rfl (by decide) ?_
    have r7 : (0 : Int) ≤ h0 13 1 ∧ h0 13 1 ≤ 60 := hI.1.1 13 1
    refine sx_icmp_ge (tgt := 40) dX0_countOf_9 (by decide) (fun c8 => ?_) (fun c8 => ?_)
    ·
      refine sx_iload_n dX0_countOf_40 rfl ?_
      refine sx_ireturn dX0_countOf_41 ?_
      exact ⟨_, rfl, rfl⟩
    ·
      refine sx_aload_n dX0_countOf_12 rfl ?_
      refine sx_getS (k := 5) (t := 14) cl_0 fl_X0_9 dX0_countOf_13 s_13 (by decide) rfl (by decide) ?_
      refine sx_iload_n dX0_countOf_16 rfl ?_
      refine sx_iaload dX0_countOf_17 s_14 (by decide) (by decide) ⟨by first | omega | (rw [Int.tmod_eq_emod_of_nonneg (by omega)]; omega) | (rw [Int.tdiv_eq_ediv_of_nonneg (by omega)]; omega), by first | omega | (rw [Int.tmod_eq_emod_of_nonneg (by omega)]; omega) | (rw [Int.tdiv_eq_ediv_of_nonneg (by omega)]; omega)⟩ ?_
      refine sx_if_ne (tgt := 34) dX0_countOf_18 (by decide) (fun c9 => ?_) (fun c9 => ?_)
      ·
        refine sx_iinc dX0_countOf_34 (by decide) rfl ?_
        rw [sw_w_id (by first | omega | (rw [Int.tmod_eq_emod_of_nonneg (by omega)]; omega) | (rw [Int.tdiv_eq_ediv_of_nonneg (by omega)]; omega)) (by first | omega | (rw [Int.tmod_eq_emod_of_nonneg (by omega)]; omega) | (rw [Int.tdiv_eq_ediv_of_nonneg (by omega)]; omega))]
        refine sx_goto (tgt := 4) dX0_countOf_37 (by decide) ?_
        exact ihh1 _ _ _ ⟨rfl, by first | omega | (rw [Int.tmod_eq_emod_of_nonneg (by omega)]; omega) | (rw [Int.tdiv_eq_ediv_of_nonneg (by omega)]; omega), by first | omega | (rw [Int.tmod_eq_emod_of_nonneg (by omega)]; omega) | (rw [Int.tdiv_eq_ediv_of_nonneg (by omega)]; omega), by first | omega | (rw [Int.tmod_eq_emod_of_nonneg (by omega)]; omega) | (rw [Int.tdiv_eq_ediv_of_nonneg (by omega)]; omega)⟩ (by exact sy_dec (by first | omega | (rw [Int.tmod_eq_emod_of_nonneg (by omega)]; omega) | (rw [Int.tdiv_eq_ediv_of_nonneg (by omega)]; omega)) (by first | omega | (rw [Int.tmod_eq_emod_of_nonneg (by omega)]; omega) | (rw [Int.tdiv_eq_ediv_of_nonneg (by omega)]; omega)))
      ·
        refine sx_aload_n dX0_countOf_21 rfl ?_
        refine sx_getS (k := 6) (t := 15) cl_0 fl_X0_15 dX0_countOf_22 s_13 (by decide) rfl (by decide) ?_
        refine sx_iload_n dX0_countOf_25 rfl ?_
        refine sx_iaload dX0_countOf_26 s_15 (by decide) (by decide) ⟨by first | omega | (rw [Int.tmod_eq_emod_of_nonneg (by omega)]; omega) | (rw [Int.tdiv_eq_ediv_of_nonneg (by omega)]; omega), by first | omega | (rw [Int.tmod_eq_emod_of_nonneg (by omega)]; omega) | (rw [Int.tdiv_eq_ediv_of_nonneg (by omega)]; omega)⟩ ?_
        refine sx_iload_n dX0_countOf_27 rfl ?_
        refine sx_icmp_ne (tgt := 34) dX0_countOf_28 (by decide) (fun c10 => ?_) (fun c10 => ?_)
        ·
          refine sx_iinc dX0_countOf_34 (by decide) rfl ?_
          rw [sw_w_id (by first | omega | (rw [Int.tmod_eq_emod_of_nonneg (by omega)]; omega) | (rw [Int.tdiv_eq_ediv_of_nonneg (by omega)]; omega)) (by first | omega | (rw [Int.tmod_eq_emod_of_nonneg (by omega)]; omega) | (rw [Int.tdiv_eq_ediv_of_nonneg (by omega)]; omega))]
          refine sx_goto (tgt := 4) dX0_countOf_37 (by decide) ?_
          exact ihh1 _ _ _ ⟨rfl, by first | omega | (rw [Int.tmod_eq_emod_of_nonneg (by omega)]; omega) | (rw [Int.tdiv_eq_ediv_of_nonneg (by omega)]; omega), by first | omega | (rw [Int.tmod_eq_emod_of_nonneg (by omega)]; omega) | (rw [Int.tdiv_eq_ediv_of_nonneg (by omega)]; omega), by first | omega | (rw [Int.tmod_eq_emod_of_nonneg (by omega)]; omega) | (rw [Int.tdiv_eq_ediv_of_nonneg (by omega)]; omega)⟩ (by exact sy_dec (by first | omega | (rw [Int.tmod_eq_emod_of_nonneg (by omega)]; omega) | (rw [Int.tdiv_eq_ediv_of_nonneg (by omega)]; omega)) (by first | omega | (rw [Int.tmod_eq_emod_of_nonneg (by omega)]; omega) | (rw [Int.tdiv_eq_ediv_of_nonneg (by omega)]; omega)))
        ·
          refine sx_iinc dX0_countOf_31 (by decide) rfl ?_
          rw [sw_w_id (by first | omega | (rw [Int.tmod_eq_emod_of_nonneg (by omega)]; omega) | (rw [Int.tdiv_eq_ediv_of_nonneg (by omega)]; omega)) (by first | omega | (rw [Int.tmod_eq_emod_of_nonneg (by omega)]; omega) | (rw [Int.tdiv_eq_ediv_of_nonneg (by omega)]; omega))]
          refine sx_iinc dX0_countOf_34 (by decide) rfl ?_
          rw [sw_w_id (by first | omega | (rw [Int.tmod_eq_emod_of_nonneg (by omega)]; omega) | (rw [Int.tdiv_eq_ediv_of_nonneg (by omega)]; omega)) (by first | omega | (rw [Int.tmod_eq_emod_of_nonneg (by omega)]; omega) | (rw [Int.tdiv_eq_ediv_of_nonneg (by omega)]; omega))]
          refine sx_goto (tgt := 4) dX0_countOf_37 (by decide) ?_
          exact ihh1 _ _ _ ⟨rfl, by first | omega | (rw [Int.tmod_eq_emod_of_nonneg (by omega)]; omega) | (rw [Int.tdiv_eq_ediv_of_nonneg (by omega)]; omega), by first | omega | (rw [Int.tmod_eq_emod_of_nonneg (by omega)]; omega) | (rw [Int.tdiv_eq_ediv_of_nonneg (by omega)]; omega), by first | omega | (rw [Int.tmod_eq_emod_of_nonneg (by omega)]; omega) | (rw [Int.tdiv_eq_ediv_of_nonneg (by omega)]; omega)⟩ (by exact sy_dec (by first | omega | (rw [Int.tmod_eq_emod_of_nonneg (by omega)]; omega) | (rw [Int.tdiv_eq_ediv_of_nonneg (by omega)]; omega)) (by first | omega | (rw [Int.tmod_eq_emod_of_nonneg (by omega)]; omega) | (rw [Int.tdiv_eq_ediv_of_nonneg (by omega)]; omega)))
  · exact ⟨rfl, by first | omega | (rw [Int.tmod_eq_emod_of_nonneg (by omega)]; omega) | (rw [Int.tdiv_eq_ediv_of_nonneg (by omega)]; omega), by first | omega | (rw [Int.tmod_eq_emod_of_nonneg (by omega)]; omega) | (rw [Int.tdiv_eq_ediv_of_nonneg (by omega)]; omega), by first | omega | (rw [Int.tmod_eq_emod_of_nonneg (by omega)]; omega) | (rw [Int.tdiv_eq_ediv_of_nonneg (by omega)]; omega)⟩
set_option maxRecDepth 20000 in
set_option maxHeartbeats 4000000 in
theorem c_X0_isShuffle_13 {G : sw_G} (d : Nat) {h0 : sw_H} (hJ : cJ h0) (i : Int) (hi : 0 ≤ i ∧ i < 60) : sw_E G NH SH (d) mX0_isShuffle 0 [some (sw_r 13), some (sw_i i)] [] h0 (sw_Qz (fun z h' => h0 = h' ∧ (z = 1 → 0 ≤ h0 15 i.toNat ∧ h0 15 i.toNat ≤ 6))) := by
  have hI : cK pr0 h0 h0 := cK.refl hJ
  have r1 := R1at13 hI.1 i.toNat
  refine sx_aload_n dX0_isShuffle_0 rfl ?_
  refine sx_getS (k := 5) (t := 14) cl_0 fl_X0_9 dX0_isShuffle_1 s_13 (by decide) rfl (by decide) ?_
  refine sx_iload_n dX0_isShuffle_4 rfl ?_
  refine sx_iaload dX0_isShuffle_5 s_14 (by decide) (by decide) ⟨by first | omega | (rw [Int.tmod_eq_emod_of_nonneg (by omega)]; omega) | (rw [Int.tdiv_eq_ediv_of_nonneg (by omega)]; omega), by first | omega | (rw [Int.tmod_eq_emod_of_nonneg (by omega)]; omega) | (rw [Int.tdiv_eq_ediv_of_nonneg (by omega)]; omega)⟩ ?_
  refine sx_if_ne (tgt := 24) dX0_isShuffle_6 (by decide) (fun c1 => ?_) (fun c1 => ?_)
  ·
    refine sx_iconst dX0_isShuffle_24 ⟨by decide, by decide⟩ ?_
    refine sx_ireturn dX0_isShuffle_25 ?_
    exact ⟨_, rfl, by omega, ⟨rfl, by omega⟩⟩
  ·
    refine sx_aload_n dX0_isShuffle_9 rfl ?_
    refine sx_getS (k := 6) (t := 15) cl_0 fl_X0_15 dX0_isShuffle_10 s_13 (by decide) rfl (by decide) ?_
    refine sx_iload_n dX0_isShuffle_13 rfl ?_
    refine sx_iaload dX0_isShuffle_14 s_15 (by decide) (by decide) ⟨by first | omega | (rw [Int.tmod_eq_emod_of_nonneg (by omega)]; omega) | (rw [Int.tdiv_eq_ediv_of_nonneg (by omega)]; omega), by first | omega | (rw [Int.tmod_eq_emod_of_nonneg (by omega)]; omega) | (rw [Int.tdiv_eq_ediv_of_nonneg (by omega)]; omega)⟩ ?_
    refine sx_bipush dX0_isShuffle_15 ⟨by decide, by decide, by decide⟩ ?_
    refine sx_icmp_ge (tgt := 24) dX0_isShuffle_17 (by decide) (fun c2 => ?_) (fun c2 => ?_)
    ·
      refine sx_iconst dX0_isShuffle_24 ⟨by decide, by decide⟩ ?_
      refine sx_ireturn dX0_isShuffle_25 ?_
      exact ⟨_, rfl, by omega, ⟨rfl, by omega⟩⟩
    ·
      refine sx_iconst dX0_isShuffle_20 ⟨by decide, by decide⟩ ?_
      refine sx_goto (tgt := 25) dX0_isShuffle_21 (by decide) ?_
      refine sx_ireturn dX0_isShuffle_25 ?_
      exact ⟨_, rfl, by omega, ⟨rfl, by omega⟩⟩
set_option maxRecDepth 20000 in
set_option maxHeartbeats 4000000 in
theorem c_X0_isPure_13 {G : sw_G} (d : Nat) {h0 : sw_H} (hJ : cJ h0) (w : Int) (hw : 0 ≤ w ∧ w < h0 13 0) : sw_E G NH SH (d + 1) mX0_isPure 0 [some (sw_r 13), some (sw_i w), none] [] h0 (sw_Qz (fun z h' => h0 = h')) := by
  have hI : cK pr0 h0 h0 := cK.refl hJ
  have rw : (0 : Int) ≤ h0 13 0 ∧ h0 13 0 ≤ 6 := hI.1.1 13 0
  refine sx_aload_n dX0_isPure_0 rfl ?_
  refine sx_getS (k := 9) (t := 18) cl_0 fl_X0_24 dX0_isPure_1 s_13 (by decide) rfl (by decide) ?_
  refine sx_iload_n dX0_isPure_4 rfl ?_
  refine sy_iaF (F := fun z => (0 : Int) ≤ z ∧ z ≤ 60) dX0_isPure_5 s_18 (by decide) (by decide) ⟨by first | omega | (rw [Int.tmod_eq_emod_of_nonneg (by omega)]; omega) | (rw [Int.tdiv_eq_ediv_of_nonneg (by omega)]; omega), by first | omega | (rw [Int.tmod_eq_emod_of_nonneg (by omega)]; omega) | (rw [Int.tdiv_eq_ediv_of_nonneg (by omega)]; omega)⟩ (hI.1.1 18 _) (fun r1 => ?_)
  refine sy_top (fun v2 ev2 => ?_)
  refine sx_istore_n dX0_isPure_6 (by decide) ?_
  refine sx_loop1 (fun (h : sw_H) (i : Int) => (h0 = h) ∧ (0 ≤ i)) (fun (h : sw_H) (i : Int) => (60 - i).toNat) (fun (h : sw_H) (i : Int) => sw_E G NH SH (d + 1) mX0_isPure 7 [some (sw_r 13), some (sw_i w), some (sw_i i)] [] h (sw_Qz (fun z h' => h0 = h'))) ?_ _ _ ?_
  · rintro h3 i_4 ⟨rfl, j5⟩ ihh3
    try dsimp only at ihh3
    refine sx_iload_n dX0_isPure_7 rfl ?_
    refine sx_aload_n dX0_isPure_8 rfl ?_
    refine sx_getS (k := 9) (t := 18) cl_0 fl_X0_24 dX0_isPure_9 s_13 (by decide) rfl (by decide) ?_
    refine sx_iload_n dX0_isPure_12 rfl ?_
    refine sx_iconst dX0_isPure_13 ⟨by decide, by decide⟩ ?_
    refine sx_iadd dX0_isPure_14 ?_
    refine sy_topw (by first | omega | (rw [Int.tmod_eq_emod_of_nonneg (by omega)]; omega) | (rw [Int.tdiv_eq_ediv_of_nonneg (by omega)]; omega)) ?_
    refine sy_iaF (F := fun z => (0 : Int) ≤ z ∧ z ≤ 60) dX0_isPure_15 s_18 (by decide) (by decide) ⟨by first | omega | (rw [Int.tmod_eq_emod_of_nonneg (by omega)]; omega) | (rw [Int.tdiv_eq_ediv_of_nonneg (by omega)]; omega), by first | omega | (rw [Int.tmod_eq_emod_of_nonneg (by omega)]; omega) | (rw [Int.tdiv_eq_ediv_of_nonneg (by omega)]; omega)⟩ (hI.1.1 18 _) (fun r6 => ?_)
    refine sx_icmp_ge (tgt := 35) dX0_isPure_16 (by decide) (fun c7 => ?_) (fun c7 => ?_)
    ·
      refine sx_iconst dX0_isPure_35 ⟨by decide, by decide⟩ ?_
      refine sx_ireturn dX0_isPure_36 ?_
      exact ⟨_, rfl, by omega, rfl⟩
    ·
      refine sx_aload_n dX0_isPure_19 rfl ?_
      refine sx_iload_n dX0_isPure_20 rfl ?_
      refine sx_callVz lk_X0_72 cl_0 s_13 (by decide) dX0_isPure_21 (vs := [_]) rfl rfl (Nat.le_of_ble_eq_true rfl) (Nat.le_of_ble_eq_true rfl) rfl (c_X0_isShuffle_13 _ hI.1 _ (by first | omega | (rw [Int.tmod_eq_emod_of_nonneg (by omega)]; omega) | (rw [Int.tdiv_eq_ediv_of_nonneg (by omega)]; omega))) (fun x9 h8 zx9 ph8 => ?_)
      obtain ⟨rfl, w_x9⟩ := ph8
      refine sx_if_ne (tgt := 29) dX0_isPure_24 (by decide) (fun c10 => ?_) (fun c10 => ?_)
      ·
        refine sx_iinc dX0_isPure_29 (by decide) rfl ?_
        rw [sw_w_id (by first | omega | (rw [Int.tmod_eq_emod_of_nonneg (by omega)]; omega) | (rw [Int.tdiv_eq_ediv_of_nonneg (by omega)]; omega)) (by first | omega | (rw [Int.tmod_eq_emod_of_nonneg (by omega)]; omega) | (rw [Int.tdiv_eq_ediv_of_nonneg (by omega)]; omega))]
        refine sx_goto (tgt := 7) dX0_isPure_32 (by decide) ?_
        exact ihh3 _ _ ⟨rfl, by first | omega | (rw [Int.tmod_eq_emod_of_nonneg (by omega)]; omega) | (rw [Int.tdiv_eq_ediv_of_nonneg (by omega)]; omega)⟩ (by exact sy_dec (by first | omega | (rw [Int.tmod_eq_emod_of_nonneg (by omega)]; omega) | (rw [Int.tdiv_eq_ediv_of_nonneg (by omega)]; omega)) (by first | omega | (rw [Int.tmod_eq_emod_of_nonneg (by omega)]; omega) | (rw [Int.tdiv_eq_ediv_of_nonneg (by omega)]; omega)))
      ·
        refine sx_iconst dX0_isPure_27 ⟨by decide, by decide⟩ ?_
        refine sx_ireturn dX0_isPure_28 ?_
        exact ⟨_, rfl, by omega, rfl⟩
  · exact ⟨rfl, by first | omega | (rw [Int.tmod_eq_emod_of_nonneg (by omega)]; omega) | (rw [Int.tdiv_eq_ediv_of_nonneg (by omega)]; omega)⟩

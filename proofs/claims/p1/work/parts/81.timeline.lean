set_option maxRecDepth 20000 in
set_option maxHeartbeats 4000000 in
theorem c_X9_state {G : sw_G} (d : Nat) {h0 : sw_H} (hJ : cJ h0)  : sw_E G NH SH (d) mX9_state 0 [some (sw_r 48)] [] h0 (sw_Qr (fun a h' => cK prL h0 h' ∧ a ∈ stL)) := by
  have hI : cK prL h0 h0 := cK.refl hJ
  refine sx_aload_n dX9_state_0 rfl ?_
  refine sx_getS (k := 0) (t := 49) cl_9 fl_X9_11 dX9_state_1 s_48 (by decide) rfl (by decide) ?_
  refine sx_aload_n dX9_state_4 rfl ?_
  refine sx_getI (k := 1) cl_9 fl_X9_18 dX9_state_5 s_48 (by decide) rfl (by decide) ?_
  have r1 : (0 : Int) ≤ h0 48 1 ∧ h0 48 1 ≤ 40 := hI.1.1 48 1
  refine sx_aload_n dX9_state_8 rfl ?_
  refine sx_getI (k := 2) cl_9 fl_X9_22 dX9_state_9 s_48 (by decide) rfl (by decide) ?_
  have r2 : (0 : Int) ≤ h0 48 2 ∧ h0 48 2 ≤ 40 := hI.1.1 48 2
  refine sx_iadd dX9_state_12 ?_
  refine sy_topw (by first | omega | (rw [Int.tmod_eq_emod_of_nonneg (by omega)]; omega) | (rw [Int.tdiv_eq_ediv_of_nonneg (by omega)]; omega)) ?_
  refine sx_bipush dX9_state_13 ⟨by decide, by decide, by decide⟩ ?_
  refine sx_irem dX9_state_15 (by first | omega | (rw [Int.tmod_eq_emod_of_nonneg (by omega)]; omega) | (rw [Int.tdiv_eq_ediv_of_nonneg (by omega)]; omega)) ?_
  refine sy_topw (by first | omega | (rw [Int.tmod_eq_emod_of_nonneg (by omega)]; omega) | (rw [Int.tdiv_eq_ediv_of_nonneg (by omega)]; omega)) ?_
  refine sx_aaload dX9_state_16 s_49 (by decide) (by decide) ⟨by first | omega | (rw [Int.tmod_eq_emod_of_nonneg (by omega)]; omega) | (rw [Int.tdiv_eq_ediv_of_nonneg (by omega)]; omega), by first | omega | (rw [Int.tmod_eq_emod_of_nonneg (by omega)]; omega) | (rw [Int.tdiv_eq_ediv_of_nonneg (by omega)]; omega)⟩ ?_
  refine sx_areturn dX9_state_17 ?_
  exact ⟨_, rfl, ⟨hI, ring_mem (by first | omega | (rw [Int.tmod_eq_emod_of_nonneg (by omega)]; omega) | (rw [Int.tdiv_eq_ediv_of_nonneg (by omega)]; omega)) (by first | omega | (rw [Int.tmod_eq_emod_of_nonneg (by omega)]; omega) | (rw [Int.tdiv_eq_ediv_of_nonneg (by omega)]; omega))⟩⟩
set_option maxRecDepth 20000 in
set_option maxHeartbeats 4000000 in
theorem c_X9_stepBack {G : sw_G} (d : Nat) {h0 : sw_H} (hJ : cJ h0)  : sw_E G NH SH (d) mX9_stepBack 0 [some (sw_r 48)] [] h0 (sw_Qz (fun z h' => cK prL h0 h')) := by
  have hI : cK prL h0 h0 := cK.refl hJ
  have r2 : h0 48 2 ≤ h0 48 3 := hI.1.2 2 (by decide)
  refine sx_aload_n dX9_stepBack_0 rfl ?_
  refine sx_getI (k := 2) cl_9 fl_X9_22 dX9_stepBack_1 s_48 (by decide) rfl (by decide) ?_
  have r1 : (0 : Int) ≤ h0 48 2 ∧ h0 48 2 ≤ 40 := hI.1.1 48 2
  refine sx_if_ne (tgt := 9) dX9_stepBack_4 (by decide) (fun c2 => ?_) (fun c2 => ?_)
  ·
    refine sx_aload_n dX9_stepBack_9 rfl ?_
    refine sx_dupr dX9_stepBack_10 ?_
    refine sx_getI (k := 2) cl_9 fl_X9_22 dX9_stepBack_11 s_48 (by decide) rfl (by decide) ?_
    have r3 : (0 : Int) ≤ h0 48 2 ∧ h0 48 2 ≤ 40 := hI.1.1 48 2
    refine sx_iconst dX9_stepBack_14 ⟨by decide, by decide⟩ ?_
    refine sx_isub dX9_stepBack_15 ?_
    refine sy_topw (by omega) ?_
    refine sy_putI (k := 2) cl_9 fl_X9_22 dX9_stepBack_16 s_48 (by decide) rfl (by decide) rfl rfl (fun h4 eh4 => ?_)
    have Ih4 : cK prL h0 h4 := by
      have q1 := eh4.1
      have q2 := eh4.2 48 2
      have q3 := eh4.2 48 3
      first | exact ((hI.wide 2).up eh4 (show (0 : Int) ≤ _ ∧ _ ≤ (40 : Int) from ⟨by omega, by omega⟩) (Or.inr rfl) rfl).shut (show h4 48 2 ≤ h4 48 3 by first | (have q2 := q2 (by decide); omega) | (have q3 := q3 (by decide); omega)) | exact (hI.up eh4 (show (0 : Int) ≤ _ ∧ _ ≤ (40 : Int) from ⟨by omega, by omega⟩) (Or.inr rfl) rfl).shut (show h4 48 2 ≤ h4 48 3 by first | (have q2 := q2 (by decide); omega) | (have q3 := q3 (by decide); omega))
    have th4_48_2 := eh4.1
    refine sx_iconst dX9_stepBack_19 ⟨by decide, by decide⟩ ?_
    refine sx_ireturn dX9_stepBack_20 ?_
    exact ⟨_, rfl, by omega, Ih4⟩
  ·
    refine sx_iconst dX9_stepBack_7 ⟨by decide, by decide⟩ ?_
    refine sx_ireturn dX9_stepBack_8 ?_
    exact ⟨_, rfl, by omega, hI⟩
set_option maxRecDepth 20000 in
set_option maxHeartbeats 4000000 in
theorem c_X9_stepOn {G : sw_G} (d : Nat) {h0 : sw_H} (hJ : cJ h0)  : sw_E G NH SH (d) mX9_stepOn 0 [some (sw_r 48)] [] h0 (sw_Qz (fun z h' => cK prL h0 h')) := by
  have hI : cK prL h0 h0 := cK.refl hJ
  have r2 : h0 48 2 ≤ h0 48 3 := hI.1.2 2 (by decide)
  refine sx_aload_n dX9_stepOn_0 rfl ?_
  refine sx_getI (k := 2) cl_9 fl_X9_22 dX9_stepOn_1 s_48 (by decide) rfl (by decide) ?_
  have r1 : (0 : Int) ≤ h0 48 2 ∧ h0 48 2 ≤ 40 := hI.1.1 48 2
  refine sx_aload_n dX9_stepOn_4 rfl ?_
  refine sx_getI (k := 3) cl_9 fl_X9_29 dX9_stepOn_5 s_48 (by decide) rfl (by decide) ?_
  have r2 : (0 : Int) ≤ h0 48 3 ∧ h0 48 3 ≤ 40 := hI.1.1 48 3
  refine sx_icmp_ne (tgt := 13) dX9_stepOn_8 (by decide) (fun c3 => ?_) (fun c3 => ?_)
  ·
    refine sx_aload_n dX9_stepOn_13 rfl ?_
    refine sx_dupr dX9_stepOn_14 ?_
    refine sx_getI (k := 2) cl_9 fl_X9_22 dX9_stepOn_15 s_48 (by decide) rfl (by decide) ?_
    have r4 : (0 : Int) ≤ h0 48 2 ∧ h0 48 2 ≤ 40 := hI.1.1 48 2
    refine sx_iconst dX9_stepOn_18 ⟨by decide, by decide⟩ ?_
    refine sx_iadd dX9_stepOn_19 ?_
    refine sy_topw (by omega) ?_
    refine sy_putI (k := 2) cl_9 fl_X9_22 dX9_stepOn_20 s_48 (by decide) rfl (by decide) rfl rfl (fun h5 eh5 => ?_)
    have Ih5 : cK prL h0 h5 := by
      have q1 := eh5.1
      have q2 := eh5.2 48 2
      have q3 := eh5.2 48 3
      first | exact ((hI.wide 2).up eh5 (show (0 : Int) ≤ _ ∧ _ ≤ (40 : Int) from ⟨by omega, by omega⟩) (Or.inr rfl) rfl).shut (show h5 48 2 ≤ h5 48 3 by first | (have q2 := q2 (by decide); omega) | (have q3 := q3 (by decide); omega)) | exact (hI.up eh5 (show (0 : Int) ≤ _ ∧ _ ≤ (40 : Int) from ⟨by omega, by omega⟩) (Or.inr rfl) rfl).shut (show h5 48 2 ≤ h5 48 3 by first | (have q2 := q2 (by decide); omega) | (have q3 := q3 (by decide); omega))
    have th5_48_2 := eh5.1
    have th5_48_3 := eh5.2 (48) 3 (by decide)
    refine sx_iconst dX9_stepOn_23 ⟨by decide, by decide⟩ ?_
    refine sx_ireturn dX9_stepOn_24 ?_
    exact ⟨_, rfl, by omega, Ih5⟩
  ·
    refine sx_iconst dX9_stepOn_11 ⟨by decide, by decide⟩ ?_
    refine sx_ireturn dX9_stepOn_12 ?_
    exact ⟨_, rfl, by omega, hI⟩
set_option maxRecDepth 20000 in
set_option maxHeartbeats 4000000 in
theorem c_X9_restart {G : sw_G} (d : Nat) {h0 : sw_H} (hJ : cJ h0)  : sw_E G NH SH (d + 1) mX9_restart 0 [some (sw_r 48)] [] h0 (sw_Qr (fun a h' => cK prL h0 h' ∧ a ∈ stL)) := by
  have hI : cK prL h0 h0 := cK.refl hJ
  have r2 : h0 48 2 ≤ h0 48 3 := hI.1.2 2 (by decide)
  have r3 : (0 : Int) ≤ h0 48 3 ∧ h0 48 3 ≤ 40 := hI.1.1 48 3
  refine sx_aload_n dX9_restart_0 rfl ?_
  refine sx_iconst dX9_restart_1 ⟨by decide, by decide⟩ ?_
  refine sy_putI (k := 2) cl_9 fl_X9_22 dX9_restart_2 s_48 (by decide) rfl (by decide) rfl rfl (fun h1 eh1 => ?_)
  have Ih1 : cK prL h0 h1 := by
    have q1 := eh1.1
    have q2 := eh1.2 48 2
    have q3 := eh1.2 48 3
    first | exact ((hI.wide 2).up eh1 (show (0 : Int) ≤ _ ∧ _ ≤ (40 : Int) from ⟨by omega, by omega⟩) (Or.inr rfl) rfl).shut (show h1 48 2 ≤ h1 48 3 by first | (have q2 := q2 (by decide); omega) | (have q3 := q3 (by decide); omega)) | exact (hI.up eh1 (show (0 : Int) ≤ _ ∧ _ ≤ (40 : Int) from ⟨by omega, by omega⟩) (Or.inr rfl) rfl).shut (show h1 48 2 ≤ h1 48 3 by first | (have q2 := q2 (by decide); omega) | (have q3 := q3 (by decide); omega))
  have th1_48_2 := eh1.1
  have th1_48_3 := eh1.2 (48) 3 (by decide)
  refine sx_aload_n dX9_restart_5 rfl ?_
  refine sx_iconst dX9_restart_6 ⟨by decide, by decide⟩ ?_
  refine sy_putI (k := 3) cl_9 fl_X9_29 dX9_restart_7 s_48 (by decide) rfl (by decide) rfl rfl (fun h2 eh2 => ?_)
  have Ih2 : cK prL h0 h2 := by
    have q1 := eh2.1
    have q2 := eh2.2 48 2
    have q3 := eh2.2 48 3
    first | exact ((Ih1.wide 2).up eh2 (show (0 : Int) ≤ _ ∧ _ ≤ (40 : Int) from ⟨by omega, by omega⟩) (Or.inr rfl) rfl).shut (show h2 48 2 ≤ h2 48 3 by first | (have q2 := q2 (by decide); omega) | (have q3 := q3 (by decide); omega)) | exact (Ih1.up eh2 (show (0 : Int) ≤ _ ∧ _ ≤ (40 : Int) from ⟨by omega, by omega⟩) (Or.inr rfl) rfl).shut (show h2 48 2 ≤ h2 48 3 by first | (have q2 := q2 (by decide); omega) | (have q3 := q3 (by decide); omega))
  have th2_48_2 := eh2.2 (48) 2 (by decide)
  have th2_48_3 := eh2.1
  refine sx_aload_n dX9_restart_10 rfl ?_
  refine sx_callVr lk_X9_25 cl_9 s_48 (by decide) dX9_restart_11 (vs := []) rfl rfl (Nat.le_of_ble_eq_true rfl) (Nat.le_of_ble_eq_true rfl) ⟨_, rfl⟩ (c_X9_state _ Ih2.1) (fun x4 h3 ph3 => ?_)
  obtain ⟨Kh3, m_h3⟩ := ph3
  have Ih3 := Ih2.tr Kh3 sb_prL_prL
  have hx4m := m_h3
  obtain ⟨Sx40, Sx41, Sx42, bx4⟩ := s_St x4 hx4m
  have Bx40 : x4 < NH := show x4 < 290 by omega
  have Bx41 : x4 + 1 < NH := show x4 + 1 < 290 by omega
  have Bx42 : x4 + 2 < NH := show x4 + 2 < 290 by omega
  refine sx_areturn dX9_restart_14 ?_
  exact ⟨_, rfl, ⟨Ih3, hx4m⟩⟩
set_option maxRecDepth 20000 in
set_option maxHeartbeats 4000000 in
theorem c_X9_begin {G : sw_G} (d : Nat) {h0 : sw_H} (hJ : cJ h0)  : sw_E G NH SH (d + 2) mX9_begin 0 [some (sw_r 48), none] [] h0 (sw_Qr (fun a h' => cK prL h0 h' ∧ a ∈ stL)) := by
  have hI : cK prL h0 h0 := cK.refl hJ
  refine sx_aload_n dX9_begin_0 rfl ?_
  refine sx_callVr lk_X9_25 cl_9 s_48 (by decide) dX9_begin_1 (vs := []) rfl rfl (Nat.le_of_ble_eq_true rfl) (Nat.le_of_ble_eq_true rfl) ⟨_, rfl⟩ (c_X9_state _ hI.1) (fun x2 h1 ph1 => ?_)
  obtain ⟨Kh1, m_h1⟩ := ph1
  have Ih1 := hI.tr Kh1 sb_prL_prL
  have hx2m := m_h1
  obtain ⟨Sx20, Sx21, Sx22, bx2⟩ := s_St x2 hx2m
  have Bx20 : x2 < NH := show x2 < 290 by omega
  have Bx21 : x2 + 1 < NH := show x2 + 1 < 290 by omega
  have Bx22 : x2 + 2 < NH := show x2 + 2 < 290 by omega
  refine sx_astore_n dX9_begin_4 (by decide) ?_
  refine sx_aload_n dX9_begin_5 rfl ?_
  refine sx_getI (k := 2) cl_9 fl_X9_22 dX9_begin_6 s_48 (by decide) rfl (by decide) ?_
  have r3 : (0 : Int) ≤ h1 48 2 ∧ h1 48 2 ≤ 40 := Ih1.1.1 48 2
  refine sx_bipush dX9_begin_9 ⟨by decide, by decide, by decide⟩ ?_
  refine sx_icmp_ne (tgt := 30) dX9_begin_11 (by decide) (fun c4 => ?_) (fun c4 => ?_)
  ·
    refine sx_aload_n dX9_begin_30 rfl ?_
    refine sx_dupr dX9_begin_31 ?_
    refine sx_getI (k := 2) cl_9 fl_X9_22 dX9_begin_32 s_48 (by decide) rfl (by decide) ?_
    have r5 : (0 : Int) ≤ h1 48 2 ∧ h1 48 2 ≤ 40 := Ih1.1.1 48 2
    refine sx_iconst dX9_begin_35 ⟨by decide, by decide⟩ ?_
    refine sx_iadd dX9_begin_36 ?_
    refine sy_topw (by first | omega | (rw [Int.tmod_eq_emod_of_nonneg (by omega)]; omega) | (rw [Int.tdiv_eq_ediv_of_nonneg (by omega)]; omega)) ?_
    refine sy_putI (k := 2) cl_9 fl_X9_22 dX9_begin_37 s_48 (by decide) rfl (by decide) rfl rfl (fun h6 eh6 => ?_)
    have Ih6 := (Ih1.wide 2).up eh6 (show (0 : Int) ≤ _ ∧ _ ≤ (40 : Int) from ⟨by omega, by omega⟩) (Or.inr rfl) rfl
    have th6_48_2 := eh6.1
    have th6_48_1 := eh6.2 (48) 1 (by decide)
    refine sx_aload_n dX9_begin_40 rfl ?_
    refine sx_aload_n dX9_begin_41 rfl ?_
    refine sx_getI (k := 2) cl_9 fl_X9_22 dX9_begin_42 s_48 (by decide) rfl (by decide) ?_
    have r7 : (0 : Int) ≤ h6 48 2 ∧ h6 48 2 ≤ 40 := Ih6.1.1 48 2
    refine sy_putI (k := 3) cl_9 fl_X9_29 dX9_begin_45 s_48 (by decide) rfl (by decide) rfl rfl (fun h8 eh8 => ?_)
    have Ih8 : cK prL h0 h8 := by
      have q1 := eh8.1
      have q2 := eh8.2 48 2
      have q3 := eh8.2 48 3
      first | exact ((Ih6.wide 2).up eh8 (show (0 : Int) ≤ _ ∧ _ ≤ (40 : Int) from ⟨by omega, by omega⟩) (Or.inr rfl) rfl).shut (show h8 48 2 ≤ h8 48 3 by first | (have q2 := q2 (by decide); omega) | (have q3 := q3 (by decide); omega)) | exact (Ih6.up eh8 (show (0 : Int) ≤ _ ∧ _ ≤ (40 : Int) from ⟨by omega, by omega⟩) (Or.inr rfl) rfl).shut (show h8 48 2 ≤ h8 48 3 by first | (have q2 := q2 (by decide); omega) | (have q3 := q3 (by decide); omega))
    have th8_48_2 := eh8.2 (48) 2 (by decide)
    have th8_48_1 := eh8.2 (48) 1 (by decide)
    refine sx_aload_n dX9_begin_48 rfl ?_
    refine sx_callVr lk_X9_25 cl_9 s_48 (by decide) dX9_begin_49 (vs := []) rfl rfl (Nat.le_of_ble_eq_true rfl) (Nat.le_of_ble_eq_true rfl) ⟨_, rfl⟩ (c_X9_state _ Ih8.1) (fun x10 h9 ph9 => ?_)
    obtain ⟨Kh9, m_h9⟩ := ph9
    have Ih9 := Ih8.tr Kh9 sb_prL_prL
    have hx10m := m_h9
    obtain ⟨Sx100, Sx101, Sx102, bx10⟩ := s_St x10 hx10m
    have Bx100 : x10 < NH := show x10 < 290 by omega
    have Bx101 : x10 + 1 < NH := show x10 + 1 < 290 by omega
    have Bx102 : x10 + 2 < NH := show x10 + 2 < 290 by omega
    refine sx_aload_n dX9_begin_52 rfl ?_
    refine sx_callVv lk_X9_32 cl_8 Sx100 Bx100 dX9_begin_53 (vs := [_]) rfl rfl (Nat.le_of_ble_eq_true rfl) (Nat.le_of_ble_eq_true rfl) rfl (c_X8_copyFrom _ Ih9.1 (x10) hx10m (x2) hx2m) (fun h11 ph11 => ?_)
    have Kh11 := ph11
    have Ih11 := Ih9.tr Kh11 sb_prL_prS
    have th11_48_2 := Kh11.2 (48) 2 rfl
    have th11_48_1 := Kh11.2 (48) 1 rfl
    refine sx_aload_n dX9_begin_56 rfl ?_
    refine sx_callVr lk_X9_25 cl_9 s_48 (by decide) dX9_begin_57 (vs := []) rfl rfl (Nat.le_of_ble_eq_true rfl) (Nat.le_of_ble_eq_true rfl) ⟨_, rfl⟩ (c_X9_state _ Ih11.1) (fun x14 h13 ph13 => ?_)
    obtain ⟨Kh13, m_h13⟩ := ph13
    have Ih13 := Ih11.tr Kh13 sb_prL_prL
    have hx14m := m_h13
    obtain ⟨Sx140, Sx141, Sx142, bx14⟩ := s_St x14 hx14m
    have Bx140 : x14 < NH := show x14 < 290 by omega
    have Bx141 : x14 + 1 < NH := show x14 + 1 < 290 by omega
    have Bx142 : x14 + 2 < NH := show x14 + 2 < 290 by omega
    refine sx_areturn dX9_begin_60 ?_
    exact ⟨_, rfl, ⟨Ih13, hx14m⟩⟩
  ·
    refine sx_aload_n dX9_begin_14 rfl ?_
    refine sx_aload_n dX9_begin_15 rfl ?_
    refine sx_getI (k := 1) cl_9 fl_X9_18 dX9_begin_16 s_48 (by decide) rfl (by decide) ?_
    have r15 : (0 : Int) ≤ h1 48 1 ∧ h1 48 1 ≤ 40 := Ih1.1.1 48 1
    refine sx_iconst dX9_begin_19 ⟨by decide, by decide⟩ ?_
    refine sx_iadd dX9_begin_20 ?_
    refine sy_topw (by first | omega | (rw [Int.tmod_eq_emod_of_nonneg (by omega)]; omega) | (rw [Int.tdiv_eq_ediv_of_nonneg (by omega)]; omega)) ?_
    refine sx_bipush dX9_begin_21 ⟨by decide, by decide, by decide⟩ ?_
    refine sx_irem dX9_begin_23 (by first | omega | (rw [Int.tmod_eq_emod_of_nonneg (by omega)]; omega) | (rw [Int.tdiv_eq_ediv_of_nonneg (by omega)]; omega)) ?_
    refine sy_topw (by first | omega | (rw [Int.tmod_eq_emod_of_nonneg (by omega)]; omega) | (rw [Int.tdiv_eq_ediv_of_nonneg (by omega)]; omega)) ?_
    refine sy_putI (k := 1) cl_9 fl_X9_18 dX9_begin_24 s_48 (by decide) rfl (by decide) rfl rfl (fun h16 eh16 => ?_)
    have Ih16 := Ih1.up eh16 (show (0 : Int) ≤ _ ∧ _ ≤ (40 : Int) from ⟨by first | omega | (rw [Int.tmod_eq_emod_of_nonneg (by omega)]; omega) | (rw [Int.tdiv_eq_ediv_of_nonneg (by omega)]; omega), by first | omega | (rw [Int.tmod_eq_emod_of_nonneg (by omega)]; omega) | (rw [Int.tdiv_eq_ediv_of_nonneg (by omega)]; omega)⟩) rfl rfl
    have th16_48_2 := eh16.2 (48) 2 (by decide)
    have th16_48_1 := eh16.1
    refine sx_goto (tgt := 40) dX9_begin_27 (by decide) ?_
    refine sx_aload_n dX9_begin_40 rfl ?_
    refine sx_aload_n dX9_begin_41 rfl ?_
    refine sx_getI (k := 2) cl_9 fl_X9_22 dX9_begin_42 s_48 (by decide) rfl (by decide) ?_
    have r17 : (0 : Int) ≤ h16 48 2 ∧ h16 48 2 ≤ 40 := Ih16.1.1 48 2
    refine sy_putI (k := 3) cl_9 fl_X9_29 dX9_begin_45 s_48 (by decide) rfl (by decide) rfl rfl (fun h18 eh18 => ?_)
    have Ih18 : cK prL h0 h18 := by
      have q1 := eh18.1
      have q2 := eh18.2 48 2
      have q3 := eh18.2 48 3
      first | exact ((Ih16.wide 2).up eh18 (show (0 : Int) ≤ _ ∧ _ ≤ (40 : Int) from ⟨by omega, by omega⟩) (Or.inr rfl) rfl).shut (show h18 48 2 ≤ h18 48 3 by first | (have q2 := q2 (by decide); omega) | (have q3 := q3 (by decide); omega)) | exact (Ih16.up eh18 (show (0 : Int) ≤ _ ∧ _ ≤ (40 : Int) from ⟨by omega, by omega⟩) (Or.inr rfl) rfl).shut (show h18 48 2 ≤ h18 48 3 by first | (have q2 := q2 (by decide); omega) | (have q3 := q3 (by decide); omega))
    have th18_48_2 := eh18.2 (48) 2 (by decide)
    have th18_48_1 := eh18.2 (48) 1 (by decide)
    refine sx_aload_n dX9_begin_48 rfl ?_
    refine sx_callVr lk_X9_25 cl_9 s_48 (by decide) dX9_begin_49 (vs := []) rfl rfl (Nat.le_of_ble_eq_true rfl) (Nat.le_of_ble_eq_true rfl) ⟨_, rfl⟩ (c_X9_state _ Ih18.1) (fun x20 h19 ph19 => ?_)
    obtain ⟨Kh19, m_h19⟩ := ph19
    have Ih19 := Ih18.tr Kh19 sb_prL_prL
    have hx20m := m_h19
    obtain ⟨Sx200, Sx201, Sx202, bx20⟩ := s_St x20 hx20m
    have Bx200 : x20 < NH := show x20 < 290 by omega
    have Bx201 : x20 + 1 < NH := show x20 + 1 < 290 by omega
    have Bx202 : x20 + 2 < NH := show x20 + 2 < 290 by omega
    refine sx_aload_n dX9_begin_52 rfl ?_
    refine sx_callVv lk_X9_32 cl_8 Sx200 Bx200 dX9_begin_53 (vs := [_]) rfl rfl (Nat.le_of_ble_eq_true rfl) (Nat.le_of_ble_eq_true rfl) rfl (c_X8_copyFrom _ Ih19.1 (x20) hx20m (x2) hx2m) (fun h21 ph21 => ?_)
    have Kh21 := ph21
    have Ih21 := Ih19.tr Kh21 sb_prL_prS
    have th21_48_2 := Kh21.2 (48) 2 rfl
    have th21_48_1 := Kh21.2 (48) 1 rfl
    refine sx_aload_n dX9_begin_56 rfl ?_
    refine sx_callVr lk_X9_25 cl_9 s_48 (by decide) dX9_begin_57 (vs := []) rfl rfl (Nat.le_of_ble_eq_true rfl) (Nat.le_of_ble_eq_true rfl) ⟨_, rfl⟩ (c_X9_state _ Ih21.1) (fun x24 h23 ph23 => ?_)
    obtain ⟨Kh23, m_h23⟩ := ph23
    have Ih23 := Ih21.tr Kh23 sb_prL_prL
    have hx24m := m_h23
    obtain ⟨Sx240, Sx241, Sx242, bx24⟩ := s_St x24 hx24m
    have Bx240 : x24 < NH := show x24 < 290 by omega
    have Bx241 : x24 + 1 < NH := show x24 + 1 < 290 by omega
    have Bx242 : x24 + 2 < NH := show x24 + 2 < 290 by omega
    refine sx_areturn dX9_begin_60 ?_
    exact ⟨_, rfl, ⟨Ih23, hx24m⟩⟩

-- ===== states that hold nothing =====
def ZS (h : sw_H) : Prop := ∀ o, o ∈ stL → h o 1 = 0 ∧ h o 3 = 0 ∧ h o 4 = 0 ∧ h o 5 = 0
theorem ZS_put {h h1 : sw_H} {o k : Nat} {z : Int} (Z : ZS h) (e : sw_to h h1 o k z) (hz : z = 0) : ZS h1 := by
  intro p hp
  have a := Z p hp
  refine ⟨?_, ?_, ?_, ?_⟩
  · by_cases q : p = o ∧ 1 = k
    · rw [q.1, q.2, e.1]; exact hz
    · rw [e.2 p 1 q]; exact a.1
  · by_cases q : p = o ∧ 3 = k
    · rw [q.1, q.2, e.1]; exact hz
    · rw [e.2 p 3 q]; exact a.2.1
  · by_cases q : p = o ∧ 4 = k
    · rw [q.1, q.2, e.1]; exact hz
    · rw [e.2 p 4 q]; exact a.2.2.1
  · by_cases q : p = o ∧ 5 = k
    · rw [q.1, q.2, e.1]; exact hz
    · rw [e.2 p 5 q]; exact a.2.2.2
theorem ZS_off {h h1 : sw_H} {o k : Nat} {z : Int} (Z : ZS h) (e : sw_to h h1 o k z) (hn : ∀ p, p ∈ stL → p ≠ o) : ZS h1 := by
  intro p hp
  have a := Z p hp
  have n := hn p hp
  rw [e.2 p 1 (fun q => n q.1), e.2 p 3 (fun q => n q.1), e.2 p 4 (fun q => n q.1), e.2 p 5 (fun q => n q.1)]
  exact a
theorem ZS_arr {h h1 : sw_H} {b : Nat} (Z : ZS h) (e : ∀ c j, c ≠ b → h1 c j = h c j) (hn : ∀ p, p ∈ stL → p ≠ b) : ZS h1 := by
  intro p hp
  have a := Z p hp
  have n := hn p hp
  rw [e p 1 n, e p 3 n, e p 4 n, e p 5 n]
  exact a
theorem ZS_48 : ∀ p, p ∈ stL → p ≠ 48 := by decide +kernel
theorem ZS_0 : ∀ p, p ∈ stL → p ≠ 0 := by decide +kernel
theorem sd_off1 (t : Int) : t < 0 ∨ 14 < t ∨ t = 8 ∨ 1 ≤ sw_sd 0 t.toNat := by
  by_cases h : 0 ≤ t ∧ t ≤ 14
  · have : t = 0 ∨ t = 1 ∨ t = 2 ∨ t = 3 ∨ t = 4 ∨ t = 5 ∨ t = 6 ∨ t = 7 ∨ t = 8 ∨ t = 9 ∨ t = 10 ∨ t = 11 ∨ t = 12 ∨ t = 13 ∨ t = 14 := by omega
    rcases this with rfl | rfl | rfl | rfl | rfl | rfl | rfl | rfl | rfl | rfl | rfl | rfl | rfl | rfl | rfl <;> decide
  · omega
theorem shr0 {x y : Int} (hx : x = 0) (hy : 0 ≤ y ∧ y ≤ 2) : (Int32.ofInt (Int32.ofInt x >>> (Int32.ofInt y &&& 31)).toInt &&& Int32.ofInt 1).toInt = 0 := by
  subst hx
  have : y = 0 ∨ y = 1 ∨ y = 2 := by omega
  rcases this with rfl | rfl | rfl <;> decide
set_option maxRecDepth 20000 in
set_option maxHeartbeats 4000000 in
theorem f_X9_state {G : sw_G} (d : Nat) {h0 : sw_H} (hJ : cJ h0)  : sw_E G NH SH (d) mX9_state 0 [some (sw_r 48)] [] h0 (sw_Qr (fun a h' => h0 = h' ∧ a ∈ stL)) := by
  have hI : cK pr0 h0 h0 := cK.refl hJ
  refine sx_aload_n dX9_state_0 rfl ?_
  refine sx_getS (k := 0) (t := 49) cl_9 fl_X9_11 dX9_state_1 s_48 (by decide) rfl (by decide) ?_
  refine sx_aload_n dX9_state_4 rfl ?_
  refine sx_getI (k := 1) cl_9 fl_X9_18 dX9_state_5 s_48 (by decide) rfl (by decide) ?_
  have r1 : (0 : Int) ≤ h0 48 1 ∧ h0 48 1 ≤ 40 := hI.1.1 48 1
  refine sx_aload_n dX9_state_8 rfl ?_
  refine sx_getI (k := 2) cl_9 fl_X9_22 dX9_state_9 s_48 (by decide) rfl (by decide) ?_
  have r2 : (0 : Int) ≤ h0 48 2 ∧ h0 48 2 ≤ 40 := hI.1.1 48 2
  refine sx_iadd dX9_state_12 ?_
  refine sy_topw (by first | omega | (rw [Int.tmod_eq_emod_of_nonneg (by omega)]; omega) | (rw [Int.tdiv_eq_ediv_of_nonneg (by omega)]; omega)) ?_
  refine sx_bipush dX9_state_13 ⟨by decide, by decide, by decide⟩ ?_
  refine sx_irem dX9_state_15 (by first | omega | (rw [Int.tmod_eq_emod_of_nonneg (by omega)]; omega) | (rw [Int.tdiv_eq_ediv_of_nonneg (by omega)]; omega)) ?_
  refine sy_topw (by first | omega | (rw [Int.tmod_eq_emod_of_nonneg (by omega)]; omega) | (rw [Int.tdiv_eq_ediv_of_nonneg (by omega)]; omega)) ?_
  refine sx_aaload dX9_state_16 s_49 (by decide) (by decide) ⟨by first | omega | (rw [Int.tmod_eq_emod_of_nonneg (by omega)]; omega) | (rw [Int.tdiv_eq_ediv_of_nonneg (by omega)]; omega), by first | omega | (rw [Int.tmod_eq_emod_of_nonneg (by omega)]; omega) | (rw [Int.tdiv_eq_ediv_of_nonneg (by omega)]; omega)⟩ ?_
  refine sx_areturn dX9_state_17 ?_
  exact ⟨_, rfl, ⟨rfl, ring_mem (by first | omega | (rw [Int.tmod_eq_emod_of_nonneg (by omega)]; omega) | (rw [Int.tdiv_eq_ediv_of_nonneg (by omega)]; omega)) (by first | omega | (rw [Int.tmod_eq_emod_of_nonneg (by omega)]; omega) | (rw [Int.tdiv_eq_ediv_of_nonneg (by omega)]; omega))⟩⟩
set_option maxRecDepth 20000 in
set_option maxHeartbeats 4000000 in
theorem f_X8_copyFrom {G : sw_G} (d : Nat) {h0 : sw_H} (hJ : cJ h0) (o : Nat) (hom : o ∈ stL) (p : Nat) (hpm : p ∈ stL) (Zh0 : ZS h0) : sw_E G NH SH (d + 1) mX8_copyFrom 0 [some (sw_r o), some (sw_r p)] [] h0 (sw_Qv (fun h' => cK prS h0 h' ∧ ZS h')) := by
  have hI : cK prS h0 h0 := cK.refl hJ
  obtain ⟨So0, So1, So2, bo⟩ := s_St o hom
  have Bo0 : o < NH := show o < 290 by omega
  have Bo1 : o + 1 < NH := show o + 1 < 290 by omega
  have Bo2 : o + 2 < NH := show o + 2 < 290 by omega
  obtain ⟨Sp0, Sp1, Sp2, bp⟩ := s_St p hpm
  have Bp0 : p < NH := show p < 290 by omega
  have Bp1 : p + 1 < NH := show p + 1 < 290 by omega
  have Bp2 : p + 2 < NH := show p + 2 < 290 by omega
  refine sx_aload_n dX8_copyFrom_0 rfl ?_
  refine sx_getS (k := 0) (t := p + 1) cl_8 fl_X8_9 dX8_copyFrom_1 Sp0 Bp0 rfl (by decide) ?_
  refine sx_iconst dX8_copyFrom_4 ⟨by decide, by decide⟩ ?_
  refine sx_aload_n dX8_copyFrom_5 rfl ?_
  refine sx_getS (k := 0) (t := o + 1) cl_8 fl_X8_9 dX8_copyFrom_6 So0 Bo0 rfl (by decide) ?_
  refine sx_iconst dX8_copyFrom_9 ⟨by decide, by decide⟩ ?_
  refine sx_aload_n dX8_copyFrom_10 rfl ?_
  refine sx_getI (k := 1) cl_8 fl_X8_32 dX8_copyFrom_11 Sp0 Bp0 rfl (by decide) ?_
  have r1 : (0 : Int) ≤ h0 (p) 1 ∧ h0 (p) 1 ≤ 24 := (okc_of (St_ok1 p hpm).1) ▸ hI.1.1 (p) 1
  refine sx_copy lc_X8_38 lw_copy dX8_copyFrom_14 Sp1 Bp1 So1 Bo1 (by decide) (by decide) ⟨by omega, by omega, by omega⟩ ⟨by omega, by omega⟩ (Nat.le_of_ble_eq_true rfl) (by decide) (fun h2 kh2 vh2 => ?_)
  have Ih2 := hI.upA kh2 (fun _ => (St_oka o hom _ _).1) (fun _ => (St_sp o hom _).1.2.1) (fun _ => (St_sp o hom _).2.2.1)
  have Zh2 : ZS h2 := ZS_arr Zh0 (fun c j q => kh2 c j q) (fun p2 hp2 => (St_mem3 o hom p2 hp2).1)
  refine sx_aload_n dX8_copyFrom_17 rfl ?_
  refine sx_getS (k := 2) (t := p + 2) cl_8 fl_X8_15 dX8_copyFrom_18 Sp0 Bp0 rfl (by decide) ?_
  refine sx_iconst dX8_copyFrom_21 ⟨by decide, by decide⟩ ?_
  refine sx_aload_n dX8_copyFrom_22 rfl ?_
  refine sx_getS (k := 2) (t := o + 2) cl_8 fl_X8_15 dX8_copyFrom_23 So0 Bo0 rfl (by decide) ?_
  refine sx_iconst dX8_copyFrom_26 ⟨by decide, by decide⟩ ?_
  refine sx_aload_n dX8_copyFrom_27 rfl ?_
  refine sx_getI (k := 3) cl_8 fl_X8_35 dX8_copyFrom_28 Sp0 Bp0 rfl (by decide) ?_
  have r3 : (0 : Int) ≤ h2 (p) 3 ∧ h2 (p) 3 ≤ 42 := (okc_of (St_ok1 p hpm).2.1) ▸ Ih2.1.1 (p) 3
  refine sx_copy lc_X8_38 lw_copy dX8_copyFrom_31 Sp2 Bp2 So2 Bo2 (by decide) (by decide) ⟨by omega, by omega, by omega⟩ ⟨by omega, by omega⟩ (Nat.le_of_ble_eq_true rfl) (by decide) (fun h4 kh4 vh4 => ?_)
  have Ih4 := Ih2.upA kh4 (fun _ => (St_oka o hom _ _).2) (fun _ => (St_sp o hom _).1.2.2) (fun _ => (St_sp o hom _).2.2.2)
  have Zh4 : ZS h4 := ZS_arr Zh2 (fun c j q => kh4 c j q) (fun p2 hp2 => (St_mem3 o hom p2 hp2).2.1)
  refine sx_aload_n dX8_copyFrom_34 rfl ?_
  refine sx_aload_n dX8_copyFrom_35 rfl ?_
  refine sx_getI (k := 1) cl_8 fl_X8_32 dX8_copyFrom_36 Sp0 Bp0 rfl (by decide) ?_
  have r5 : (0 : Int) ≤ h4 (p) 1 ∧ h4 (p) 1 ≤ 24 := (okc_of (St_ok1 p hpm).1) ▸ Ih4.1.1 (p) 1
  refine sy_putI (k := 1) cl_8 fl_X8_32 dX8_copyFrom_39 So0 Bo0 rfl (by decide) rfl rfl (fun h6 eh6 => ?_)
  have Ih6 := Ih4.up eh6 ((okc_of (St_ok1 o hom).1) ▸ (show (0 : Int) ≤ _ ∧ _ ≤ (24 : Int) from ⟨by omega, by omega⟩)) (St_sp o hom _).1.1 (St_sp o hom _).2.1
  have Zh6 : ZS h6 := ZS_put Zh4 eh6 (Zh4 p hpm).1
  refine sx_aload_n dX8_copyFrom_42 rfl ?_
  refine sx_aload_n dX8_copyFrom_43 rfl ?_
  refine sx_getI (k := 3) cl_8 fl_X8_35 dX8_copyFrom_44 Sp0 Bp0 rfl (by decide) ?_
  have r7 : (0 : Int) ≤ h6 (p) 3 ∧ h6 (p) 3 ≤ 42 := (okc_of (St_ok1 p hpm).2.1) ▸ Ih6.1.1 (p) 3
  refine sy_putI (k := 3) cl_8 fl_X8_35 dX8_copyFrom_47 So0 Bo0 rfl (by decide) rfl rfl (fun h8 eh8 => ?_)
  have Ih8 := Ih6.up eh8 ((okc_of (St_ok1 o hom).2.1) ▸ (show (0 : Int) ≤ _ ∧ _ ≤ (42 : Int) from ⟨by omega, by omega⟩)) (St_sp o hom _).1.1 (St_sp o hom _).2.1
  have Zh8 : ZS h8 := ZS_put Zh6 eh8 (Zh6 p hpm).2.1
  refine sx_aload_n dX8_copyFrom_50 rfl ?_
  refine sx_aload_n dX8_copyFrom_51 rfl ?_
  refine sx_getI (k := 4) cl_8 fl_X8_21 dX8_copyFrom_52 Sp0 Bp0 rfl (by decide) ?_
  refine sy_putI (k := 4) cl_8 fl_X8_21 dX8_copyFrom_55 So0 Bo0 rfl (by decide) rfl rfl (fun h9 eh9 => ?_)
  have Ih9 := Ih8.up eh9 (okc_no (St_ok1 o hom).2.2.1) (St_sp o hom _).1.1 (St_sp o hom _).2.1
  have Zh9 : ZS h9 := ZS_put Zh8 eh9 (Zh8 p hpm).2.2.1
  refine sx_aload_n dX8_copyFrom_58 rfl ?_
  refine sx_aload_n dX8_copyFrom_59 rfl ?_
  refine sx_getI (k := 5) cl_8 fl_X8_25 dX8_copyFrom_60 Sp0 Bp0 rfl (by decide) ?_
  refine sy_putI (k := 5) cl_8 fl_X8_25 dX8_copyFrom_63 So0 Bo0 rfl (by decide) rfl rfl (fun h10 eh10 => ?_)
  have Ih10 := Ih9.up eh10 (okc_no (St_ok1 o hom).2.2.2) (St_sp o hom _).1.1 (St_sp o hom _).2.1
  have Zh10 : ZS h10 := ZS_put Zh9 eh10 (Zh9 p hpm).2.2.2
  refine sx_ret dX8_copyFrom_66 ?_
  exact ⟨rfl, ⟨Ih10, Zh10 ⟩⟩
set_option maxRecDepth 20000 in
set_option maxHeartbeats 4000000 in
theorem f_X9_begin {G : sw_G} (d : Nat) {h0 : sw_H} (hJ : cJ h0) (Zh0 : ZS h0) : sw_E G NH SH (d + 2) mX9_begin 0 [some (sw_r 48), none] [] h0 (sw_Qr (fun a h' => cK prL h0 h' ∧ a ∈ stL ∧ ZS h')) := by
  have hI : cK prL h0 h0 := cK.refl hJ
  refine sx_aload_n dX9_begin_0 rfl ?_
  refine sx_callVr lk_X9_25 cl_9 s_48 (by decide) dX9_begin_1 (vs := []) rfl rfl (Nat.le_of_ble_eq_true rfl) (Nat.le_of_ble_eq_true rfl) ⟨_, rfl⟩ (f_X9_state _ hI.1) (fun x2 h1 ph1 => ?_)
  obtain ⟨rfl, m_x2⟩ := ph1
  have hx2m := m_x2
  obtain ⟨Sx20, Sx21, Sx22, bx2⟩ := s_St x2 hx2m
  have Bx20 : x2 < NH := show x2 < 290 by omega
  have Bx21 : x2 + 1 < NH := show x2 + 1 < 290 by omega
  have Bx22 : x2 + 2 < NH := show x2 + 2 < 290 by omega
  have zq_x2 := Zh0 _ hx2m
  refine sx_astore_n dX9_begin_4 (by decide) ?_
  refine sx_aload_n dX9_begin_5 rfl ?_
  refine sx_getI (k := 2) cl_9 fl_X9_22 dX9_begin_6 s_48 (by decide) rfl (by decide) ?_
  have r3 : (0 : Int) ≤ h0 48 2 ∧ h0 48 2 ≤ 40 := hI.1.1 48 2
  refine sx_bipush dX9_begin_9 ⟨by decide, by decide, by decide⟩ ?_
  refine sx_icmp_ne (tgt := 30) dX9_begin_11 (by decide) (fun c4 => ?_) (fun c4 => ?_)
  ·
    refine sx_aload_n dX9_begin_30 rfl ?_
    refine sx_dupr dX9_begin_31 ?_
    refine sx_getI (k := 2) cl_9 fl_X9_22 dX9_begin_32 s_48 (by decide) rfl (by decide) ?_
    have r5 : (0 : Int) ≤ h0 48 2 ∧ h0 48 2 ≤ 40 := hI.1.1 48 2
    refine sx_iconst dX9_begin_35 ⟨by decide, by decide⟩ ?_
    refine sx_iadd dX9_begin_36 ?_
    refine sy_topw (by first | omega | (rw [Int.tmod_eq_emod_of_nonneg (by omega)]; omega) | (rw [Int.tdiv_eq_ediv_of_nonneg (by omega)]; omega)) ?_
    refine sy_putI (k := 2) cl_9 fl_X9_22 dX9_begin_37 s_48 (by decide) rfl (by decide) rfl rfl (fun h6 eh6 => ?_)
    have Ih6 := (hI.wide 2).up eh6 (show (0 : Int) ≤ _ ∧ _ ≤ (40 : Int) from ⟨by omega, by omega⟩) (Or.inr rfl) rfl
    have Zh6 : ZS h6 := ZS_off Zh0 eh6 ZS_48
    have th6_48_2 := eh6.1
    have th6_48_1 := eh6.2 (48) 1 (by decide)
    refine sx_aload_n dX9_begin_40 rfl ?_
    refine sx_aload_n dX9_begin_41 rfl ?_
    refine sx_getI (k := 2) cl_9 fl_X9_22 dX9_begin_42 s_48 (by decide) rfl (by decide) ?_
    have r7 : (0 : Int) ≤ h6 48 2 ∧ h6 48 2 ≤ 40 := Ih6.1.1 48 2
    refine sy_putI (k := 3) cl_9 fl_X9_29 dX9_begin_45 s_48 (by decide) rfl (by decide) rfl rfl (fun h8 eh8 => ?_)
    have Ih8 : cK prL h0 h8 := by
      have q1 := eh8.1
      have q2 := eh8.2 48 2
      have q3 := eh8.2 48 3
      first | exact ((Ih6.wide 2).up eh8 (show (0 : Int) ≤ _ ∧ _ ≤ (40 : Int) from ⟨by omega, by omega⟩) (Or.inr rfl) rfl).shut (show h8 48 2 ≤ h8 48 3 by first | (have q2 := q2 (by decide); omega) | (have q3 := q3 (by decide); omega)) | exact (Ih6.up eh8 (show (0 : Int) ≤ _ ∧ _ ≤ (40 : Int) from ⟨by omega, by omega⟩) (Or.inr rfl) rfl).shut (show h8 48 2 ≤ h8 48 3 by first | (have q2 := q2 (by decide); omega) | (have q3 := q3 (by decide); omega))
    have Zh8 : ZS h8 := ZS_off Zh6 eh8 ZS_48
    have th8_48_2 := eh8.2 (48) 2 (by decide)
    have th8_48_1 := eh8.2 (48) 1 (by decide)
    refine sx_aload_n dX9_begin_48 rfl ?_
    refine sx_callVr lk_X9_25 cl_9 s_48 (by decide) dX9_begin_49 (vs := []) rfl rfl (Nat.le_of_ble_eq_true rfl) (Nat.le_of_ble_eq_true rfl) ⟨_, rfl⟩ (f_X9_state _ Ih8.1) (fun x10 h9 ph9 => ?_)
    obtain ⟨rfl, m_x10⟩ := ph9
    have hx10m := m_x10
    obtain ⟨Sx100, Sx101, Sx102, bx10⟩ := s_St x10 hx10m
    have Bx100 : x10 < NH := show x10 < 290 by omega
    have Bx101 : x10 + 1 < NH := show x10 + 1 < 290 by omega
    have Bx102 : x10 + 2 < NH := show x10 + 2 < 290 by omega
    have zq_x10 := Zh8 _ hx10m
    refine sx_aload_n dX9_begin_52 rfl ?_
    refine sx_callVv lk_X9_32 cl_8 Sx100 Bx100 dX9_begin_53 (vs := [_]) rfl rfl (Nat.le_of_ble_eq_true rfl) (Nat.le_of_ble_eq_true rfl) rfl (f_X8_copyFrom _ Ih8.1 (x10) hx10m (x2) hx2m Zh8) (fun h11 ph11 => ?_)
    obtain ⟨Kh11, z_h11⟩ := ph11
    have Ih11 := Ih8.tr Kh11 sb_prL_prS
    have th11_48_2 := Kh11.2 (48) 2 rfl
    have th11_48_1 := Kh11.2 (48) 1 rfl
    have Zh11 := z_h11
    refine sx_aload_n dX9_begin_56 rfl ?_
    refine sx_callVr lk_X9_25 cl_9 s_48 (by decide) dX9_begin_57 (vs := []) rfl rfl (Nat.le_of_ble_eq_true rfl) (Nat.le_of_ble_eq_true rfl) ⟨_, rfl⟩ (f_X9_state _ Ih11.1) (fun x14 h13 ph13 => ?_)
    obtain ⟨rfl, m_x14⟩ := ph13
    have hx14m := m_x14
    obtain ⟨Sx140, Sx141, Sx142, bx14⟩ := s_St x14 hx14m
    have Bx140 : x14 < NH := show x14 < 290 by omega
    have Bx141 : x14 + 1 < NH := show x14 + 1 < 290 by omega
    have Bx142 : x14 + 2 < NH := show x14 + 2 < 290 by omega
    have zq_x14 := Zh11 _ hx14m
    refine sx_areturn dX9_begin_60 ?_
    exact ⟨_, rfl, ⟨Ih11, hx14m, Zh11 ⟩⟩
  ·
    refine sx_aload_n dX9_begin_14 rfl ?_
    refine sx_aload_n dX9_begin_15 rfl ?_
    refine sx_getI (k := 1) cl_9 fl_X9_18 dX9_begin_16 s_48 (by decide) rfl (by decide) ?_
    have r15 : (0 : Int) ≤ h0 48 1 ∧ h0 48 1 ≤ 40 := hI.1.1 48 1
    refine sx_iconst dX9_begin_19 ⟨by decide, by decide⟩ ?_
    refine sx_iadd dX9_begin_20 ?_
    refine sy_topw (by first | omega | (rw [Int.tmod_eq_emod_of_nonneg (by omega)]; omega) | (rw [Int.tdiv_eq_ediv_of_nonneg (by omega)]; omega)) ?_
    refine sx_bipush dX9_begin_21 ⟨by decide, by decide, by decide⟩ ?_
    refine sx_irem dX9_begin_23 (by first | omega | (rw [Int.tmod_eq_emod_of_nonneg (by omega)]; omega) | (rw [Int.tdiv_eq_ediv_of_nonneg (by omega)]; omega)) ?_
    refine sy_topw (by first | omega | (rw [Int.tmod_eq_emod_of_nonneg (by omega)]; omega) | (rw [Int.tdiv_eq_ediv_of_nonneg (by omega)]; omega)) ?_
    refine sy_putI (k := 1) cl_9 fl_X9_18 dX9_begin_24 s_48 (by decide) rfl (by decide) rfl rfl (fun h16 eh16 => ?_)
    have Ih16 := hI.up eh16 (show (0 : Int) ≤ _ ∧ _ ≤ (40 : Int) from ⟨by first | omega | (rw [Int.tmod_eq_emod_of_nonneg (by omega)]; omega) | (rw [Int.tdiv_eq_ediv_of_nonneg (by omega)]; omega), by first | omega | (rw [Int.tmod_eq_emod_of_nonneg (by omega)]; omega) | (rw [Int.tdiv_eq_ediv_of_nonneg (by omega)]; omega)⟩) rfl rfl
    have Zh16 : ZS h16 := ZS_off Zh0 eh16 ZS_48
    have th16_48_2 := eh16.2 (48) 2 (by decide)
    have th16_48_1 := eh16.1
    refine sx_goto (tgt := 40) dX9_begin_27 (by decide) ?_
    refine sx_aload_n dX9_begin_40 rfl ?_
    refine sx_aload_n dX9_begin_41 rfl ?_
    refine sx_getI (k := 2) cl_9 fl_X9_22 dX9_begin_42 s_48 (by decide) rfl (by decide) ?_
    have r17 : (0 : Int) ≤ h16 48 2 ∧ h16 48 2 ≤ 40 := Ih16.1.1 48 2
    refine sy_putI (k := 3) cl_9 fl_X9_29 dX9_begin_45 s_48 (by decide) rfl (by decide) rfl rfl (fun h18 eh18 => ?_)
    have Ih18 : cK prL h0 h18 := by
      have q1 := eh18.1
      have q2 := eh18.2 48 2
      have q3 := eh18.2 48 3
      first | exact ((Ih16.wide 2).up eh18 (show (0 : Int) ≤ _ ∧ _ ≤ (40 : Int) from ⟨by omega, by omega⟩) (Or.inr rfl) rfl).shut (show h18 48 2 ≤ h18 48 3 by first | (have q2 := q2 (by decide); omega) | (have q3 := q3 (by decide); omega)) | exact (Ih16.up eh18 (show (0 : Int) ≤ _ ∧ _ ≤ (40 : Int) from ⟨by omega, by omega⟩) (Or.inr rfl) rfl).shut (show h18 48 2 ≤ h18 48 3 by first | (have q2 := q2 (by decide); omega) | (have q3 := q3 (by decide); omega))
    have Zh18 : ZS h18 := ZS_off Zh16 eh18 ZS_48
    have th18_48_2 := eh18.2 (48) 2 (by decide)
    have th18_48_1 := eh18.2 (48) 1 (by decide)
    refine sx_aload_n dX9_begin_48 rfl ?_
    refine sx_callVr lk_X9_25 cl_9 s_48 (by decide) dX9_begin_49 (vs := []) rfl rfl (Nat.le_of_ble_eq_true rfl) (Nat.le_of_ble_eq_true rfl) ⟨_, rfl⟩ (f_X9_state _ Ih18.1) (fun x20 h19 ph19 => ?_)
    obtain ⟨rfl, m_x20⟩ := ph19
    have hx20m := m_x20
    obtain ⟨Sx200, Sx201, Sx202, bx20⟩ := s_St x20 hx20m
    have Bx200 : x20 < NH := show x20 < 290 by omega
    have Bx201 : x20 + 1 < NH := show x20 + 1 < 290 by omega
    have Bx202 : x20 + 2 < NH := show x20 + 2 < 290 by omega
    have zq_x20 := Zh18 _ hx20m
    refine sx_aload_n dX9_begin_52 rfl ?_
    refine sx_callVv lk_X9_32 cl_8 Sx200 Bx200 dX9_begin_53 (vs := [_]) rfl rfl (Nat.le_of_ble_eq_true rfl) (Nat.le_of_ble_eq_true rfl) rfl (f_X8_copyFrom _ Ih18.1 (x20) hx20m (x2) hx2m Zh18) (fun h21 ph21 => ?_)
    obtain ⟨Kh21, z_h21⟩ := ph21
    have Ih21 := Ih18.tr Kh21 sb_prL_prS
    have th21_48_2 := Kh21.2 (48) 2 rfl
    have th21_48_1 := Kh21.2 (48) 1 rfl
    have Zh21 := z_h21
    refine sx_aload_n dX9_begin_56 rfl ?_
    refine sx_callVr lk_X9_25 cl_9 s_48 (by decide) dX9_begin_57 (vs := []) rfl rfl (Nat.le_of_ble_eq_true rfl) (Nat.le_of_ble_eq_true rfl) ⟨_, rfl⟩ (f_X9_state _ Ih21.1) (fun x24 h23 ph23 => ?_)
    obtain ⟨rfl, m_x24⟩ := ph23
    have hx24m := m_x24
    obtain ⟨Sx240, Sx241, Sx242, bx24⟩ := s_St x24 hx24m
    have Bx240 : x24 < NH := show x24 < 290 by omega
    have Bx241 : x24 + 1 < NH := show x24 + 1 < 290 by omega
    have Bx242 : x24 + 2 < NH := show x24 + 2 < 290 by omega
    have zq_x24 := Zh21 _ hx24m
    refine sx_areturn dX9_begin_60 ?_
    exact ⟨_, rfl, ⟨Ih21, hx24m, Zh21 ⟩⟩
set_option maxRecDepth 20000 in
set_option maxHeartbeats 4000000 in
theorem f_X8_add {G : sw_G} (d : Nat) {h0 : sw_H} (hJ : cJ h0) (o : Nat) (hom : o ∈ stL) (n : Int) : sw_E G NH SH (d) mX8_add 0 [some (sw_r o), some (sw_i n)] [] h0 (sw_Qv (fun h' => cK prS h0 h' ∧ (h0 o 1 < 24 → h' o 1 = h0 o 1 + 1))) := by
  have hI : cK prS h0 h0 := cK.refl hJ
  obtain ⟨So0, So1, So2, bo⟩ := s_St o hom
  have Bo0 : o < NH := show o < 290 by omega
  have Bo1 : o + 1 < NH := show o + 1 < 290 by omega
  have Bo2 : o + 2 < NH := show o + 2 < 290 by omega
  refine sx_aload_n dX8_add_0 rfl ?_
  refine sx_getI (k := 1) cl_8 fl_X8_32 dX8_add_1 So0 Bo0 rfl (by decide) ?_
  have r1 : (0 : Int) ≤ h0 (o) 1 ∧ h0 (o) 1 ≤ 24 := (okc_of (St_ok1 o hom).1) ▸ hI.1.1 (o) 1
  refine sx_bipush dX8_add_4 ⟨by decide, by decide, by decide⟩ ?_
  refine sx_icmp_ge (tgt := 29) dX8_add_6 (by decide) (fun c2 => ?_) (fun c2 => ?_)
  ·
    refine sx_ret dX8_add_29 ?_
    exact ⟨rfl, ⟨hI, fun q => by first | omega | (exfalso; omega)⟩⟩
  ·
    refine sx_aload_n dX8_add_9 rfl ?_
    refine sx_getS (k := 0) (t := o + 1) cl_8 fl_X8_9 dX8_add_10 So0 Bo0 rfl (by decide) ?_
    refine sx_aload_n dX8_add_13 rfl ?_
    refine sx_getI (k := 1) cl_8 fl_X8_32 dX8_add_14 So0 Bo0 rfl (by decide) ?_
    have r3 : (0 : Int) ≤ h0 (o) 1 ∧ h0 (o) 1 ≤ 24 := (okc_of (St_ok1 o hom).1) ▸ hI.1.1 (o) 1
    refine sx_iload_n dX8_add_17 rfl ?_
    refine sy_iastore dX8_add_18 So1 Bo1 (by decide) ⟨by omega, by omega⟩ (fun h4 eh4 => ?_)
    have Ih4 := hI.up eh4 (St_oka o hom _ _).1 (St_sp o hom _).1.2.1 (St_sp o hom _).2.2.1
    have th4_o_1 := eh4.2 (o) 1 (by omega)
    refine sx_aload_n dX8_add_19 rfl ?_
    refine sx_dupr dX8_add_20 ?_
    refine sx_getI (k := 1) cl_8 fl_X8_32 dX8_add_21 So0 Bo0 rfl (by decide) ?_
    have r5 : (0 : Int) ≤ h4 (o) 1 ∧ h4 (o) 1 ≤ 24 := (okc_of (St_ok1 o hom).1) ▸ Ih4.1.1 (o) 1
    refine sx_iconst dX8_add_24 ⟨by decide, by decide⟩ ?_
    refine sx_iadd dX8_add_25 ?_
    refine sy_topw (by omega) ?_
    refine sy_putI (k := 1) cl_8 fl_X8_32 dX8_add_26 So0 Bo0 rfl (by decide) rfl rfl (fun h6 eh6 => ?_)
    have Ih6 := Ih4.up eh6 ((okc_of (St_ok1 o hom).1) ▸ (show (0 : Int) ≤ _ ∧ _ ≤ (24 : Int) from ⟨by omega, by omega⟩)) (St_sp o hom _).1.1 (St_sp o hom _).2.1
    have th6_o_1 := eh6.1
    refine sx_ret dX8_add_29 ?_
    exact ⟨rfl, ⟨Ih6, fun q => by first | omega | (exfalso; omega)⟩⟩
set_option maxRecDepth 20000 in
set_option maxHeartbeats 4000000 in
theorem f_X8_canByHand {G : sw_G} (d : Nat) {h0 : sw_H} (hJ : cJ h0) (o : Nat) (hom : o ∈ stL) (t : Int) (ht : 0 ≤ t ∧ t ≤ 14) : sw_E G NH SH (d) mX8_canByHand 0 [some (sw_r o), some (sw_i t)] [] h0 (sw_Qz (fun z h' => h0 = h' ∧ (h0 o 1 = 0 → h0 o 3 = 0 → z = 0))) := by
  have hI : cK prS h0 h0 := cK.refl hJ
  obtain ⟨So0, So1, So2, bo⟩ := s_St o hom
  have Bo0 : o < NH := show o < 290 by omega
  have Bo1 : o + 1 < NH := show o + 1 < 290 by omega
  have Bo2 : o + 2 < NH := show o + 2 < 290 by omega
  have so := sd_off1 t
  refine sx_iload_n dX8_canByHand_0 rfl ?_
  refine sx_bipush dX8_canByHand_1 ⟨by decide, by decide, by decide⟩ ?_
  refine sx_icmp_ne (tgt := 15) dX8_canByHand_3 (by decide) (fun c1 => ?_) (fun c1 => ?_)
  ·
    refine sx_iload_n dX8_canByHand_15 rfl ?_
    refine sx_bipush dX8_canByHand_16 ⟨by decide, by decide, by decide⟩ ?_
    refine sx_icmp_ne (tgt := 30) dX8_canByHand_18 (by decide) (fun c2 => ?_) (fun c2 => ?_)
    ·
      refine sx_aload_n dX8_canByHand_30 rfl ?_
      refine sx_getI (k := 1) cl_8 fl_X8_32 dX8_canByHand_31 So0 Bo0 rfl (by decide) ?_
      have r3 : (0 : Int) ≤ h0 (o) 1 ∧ h0 (o) 1 ≤ 24 := (okc_of (St_ok1 o hom).1) ▸ hI.1.1 (o) 1
      refine sx_gets (t := 0) (by decide) sl_X8_44 dX8_canByHand_34 ?_
      refine sx_iload_n dX8_canByHand_37 rfl ?_
      refine sy_sia (t := 0) (n := 15) (by decide) dX8_canByHand_38 rfl ⟨by omega, by omega⟩ (fun r4 => ?_)
      refine sx_icmp_lt (tgt := 67) dX8_canByHand_39 (by decide) (fun c5 => ?_) (fun c5 => ?_)
      ·
        refine sx_iconst dX8_canByHand_67 ⟨by decide, by decide⟩ ?_
        refine sx_ireturn dX8_canByHand_68 ?_
        exact ⟨_, rfl, by omega, ⟨rfl, fun q1 q2 => by first | omega | (exfalso; omega)⟩⟩
      ·
        refine sx_aload_n dX8_canByHand_42 rfl ?_
        refine sx_getI (k := 1) cl_8 fl_X8_32 dX8_canByHand_43 So0 Bo0 rfl (by decide) ?_
        have r6 : (0 : Int) ≤ h0 (o) 1 ∧ h0 (o) 1 ≤ 24 := (okc_of (St_ok1 o hom).1) ▸ hI.1.1 (o) 1
        refine sx_gets (t := 0) (by decide) sl_X8_44 dX8_canByHand_46 ?_
        refine sx_iload_n dX8_canByHand_49 rfl ?_
        refine sy_sia (t := 0) (n := 15) (by decide) dX8_canByHand_50 rfl ⟨by omega, by omega⟩ (fun r7 => ?_)
        refine sx_isub dX8_canByHand_51 ?_
        refine sy_topw (by omega) ?_
        refine sx_gets (t := 1) (by decide) sl_X8_47 dX8_canByHand_52 ?_
        refine sx_iload_n dX8_canByHand_55 rfl ?_
        refine sy_sia (t := 1) (n := 15) (by decide) dX8_canByHand_56 rfl ⟨by omega, by omega⟩ (fun r8 => ?_)
        refine sx_iadd dX8_canByHand_57 ?_
        refine sy_topw (by omega) ?_
        refine sx_bipush dX8_canByHand_58 ⟨by decide, by decide, by decide⟩ ?_
        refine sx_icmp_gt (tgt := 67) dX8_canByHand_60 (by decide) (fun c9 => ?_) (fun c9 => ?_)
        ·
          refine sx_iconst dX8_canByHand_67 ⟨by decide, by decide⟩ ?_
          refine sx_ireturn dX8_canByHand_68 ?_
          exact ⟨_, rfl, by omega, ⟨rfl, fun q1 q2 => by first | omega | (exfalso; omega)⟩⟩
        ·
          refine sx_iconst dX8_canByHand_63 ⟨by decide, by decide⟩ ?_
          refine sx_goto (tgt := 68) dX8_canByHand_64 (by decide) ?_
          refine sx_ireturn dX8_canByHand_68 ?_
          exact ⟨_, rfl, by omega, ⟨rfl, fun q1 q2 => by first | omega | (exfalso; omega)⟩⟩
    ·
      refine sx_aload_n dX8_canByHand_21 rfl ?_
      refine sx_getI (k := 3) cl_8 fl_X8_35 dX8_canByHand_22 So0 Bo0 rfl (by decide) ?_
      have r10 : (0 : Int) ≤ h0 (o) 3 ∧ h0 (o) 3 ≤ 42 := (okc_of (St_ok1 o hom).2.1) ▸ hI.1.1 (o) 3
      refine sx_if_ne (tgt := 30) dX8_canByHand_25 (by decide) (fun c11 => ?_) (fun c11 => ?_)
      ·
        refine sx_aload_n dX8_canByHand_30 rfl ?_
        refine sx_getI (k := 1) cl_8 fl_X8_32 dX8_canByHand_31 So0 Bo0 rfl (by decide) ?_
        have r12 : (0 : Int) ≤ h0 (o) 1 ∧ h0 (o) 1 ≤ 24 := (okc_of (St_ok1 o hom).1) ▸ hI.1.1 (o) 1
        refine sx_gets (t := 0) (by decide) sl_X8_44 dX8_canByHand_34 ?_
        refine sx_iload_n dX8_canByHand_37 rfl ?_
        refine sy_sia (t := 0) (n := 15) (by decide) dX8_canByHand_38 rfl ⟨by omega, by omega⟩ (fun r13 => ?_)
        refine sx_icmp_lt (tgt := 67) dX8_canByHand_39 (by decide) (fun c14 => ?_) (fun c14 => ?_)
        ·
          refine sx_iconst dX8_canByHand_67 ⟨by decide, by decide⟩ ?_
          refine sx_ireturn dX8_canByHand_68 ?_
          exact ⟨_, rfl, by omega, ⟨rfl, fun q1 q2 => by first | omega | (exfalso; omega)⟩⟩
        ·
          refine sx_aload_n dX8_canByHand_42 rfl ?_
          refine sx_getI (k := 1) cl_8 fl_X8_32 dX8_canByHand_43 So0 Bo0 rfl (by decide) ?_
          have r15 : (0 : Int) ≤ h0 (o) 1 ∧ h0 (o) 1 ≤ 24 := (okc_of (St_ok1 o hom).1) ▸ hI.1.1 (o) 1
          refine sx_gets (t := 0) (by decide) sl_X8_44 dX8_canByHand_46 ?_
          refine sx_iload_n dX8_canByHand_49 rfl ?_
          refine sy_sia (t := 0) (n := 15) (by decide) dX8_canByHand_50 rfl ⟨by omega, by omega⟩ (fun r16 => ?_)
          refine sx_isub dX8_canByHand_51 ?_
          refine sy_topw (by omega) ?_
          refine sx_gets (t := 1) (by decide) sl_X8_47 dX8_canByHand_52 ?_
          refine sx_iload_n dX8_canByHand_55 rfl ?_
          refine sy_sia (t := 1) (n := 15) (by decide) dX8_canByHand_56 rfl ⟨by omega, by omega⟩ (fun r17 => ?_)
          refine sx_iadd dX8_canByHand_57 ?_
          refine sy_topw (by omega) ?_
          refine sx_bipush dX8_canByHand_58 ⟨by decide, by decide, by decide⟩ ?_
          refine sx_icmp_gt (tgt := 67) dX8_canByHand_60 (by decide) (fun c18 => ?_) (fun c18 => ?_)
          ·
            refine sx_iconst dX8_canByHand_67 ⟨by decide, by decide⟩ ?_
            refine sx_ireturn dX8_canByHand_68 ?_
            exact ⟨_, rfl, by omega, ⟨rfl, fun q1 q2 => by first | omega | (exfalso; omega)⟩⟩
          ·
            refine sx_iconst dX8_canByHand_63 ⟨by decide, by decide⟩ ?_
            refine sx_goto (tgt := 68) dX8_canByHand_64 (by decide) ?_
            refine sx_ireturn dX8_canByHand_68 ?_
            exact ⟨_, rfl, by omega, ⟨rfl, fun q1 q2 => by first | omega | (exfalso; omega)⟩⟩
      ·
        refine sx_iconst dX8_canByHand_28 ⟨by decide, by decide⟩ ?_
        refine sx_ireturn dX8_canByHand_29 ?_
        exact ⟨_, rfl, by omega, ⟨rfl, fun q1 q2 => by first | omega | (exfalso; omega)⟩⟩
  ·
    refine sx_aload_n dX8_canByHand_6 rfl ?_
    refine sx_getI (k := 3) cl_8 fl_X8_35 dX8_canByHand_7 So0 Bo0 rfl (by decide) ?_
    have r19 : (0 : Int) ≤ h0 (o) 3 ∧ h0 (o) 3 ≤ 42 := (okc_of (St_ok1 o hom).2.1) ▸ hI.1.1 (o) 3
    refine sx_bipush dX8_canByHand_10 ⟨by decide, by decide, by decide⟩ ?_
    refine sx_icmp_ge (tgt := 28) dX8_canByHand_12 (by decide) (fun c20 => ?_) (fun c20 => ?_)
    ·
      refine sx_iconst dX8_canByHand_28 ⟨by decide, by decide⟩ ?_
      refine sx_ireturn dX8_canByHand_29 ?_
      exact ⟨_, rfl, by omega, ⟨rfl, fun q1 q2 => by first | omega | (exfalso; omega)⟩⟩
    ·
      refine sx_iload_n dX8_canByHand_15 rfl ?_
      refine sx_bipush dX8_canByHand_16 ⟨by decide, by decide, by decide⟩ ?_
      refine sx_icmp_ne (tgt := 30) dX8_canByHand_18 (by decide) (fun c21 => ?_) (fun c21 => ?_)
      ·
        refine sx_aload_n dX8_canByHand_30 rfl ?_
        refine sx_getI (k := 1) cl_8 fl_X8_32 dX8_canByHand_31 So0 Bo0 rfl (by decide) ?_
        have r22 : (0 : Int) ≤ h0 (o) 1 ∧ h0 (o) 1 ≤ 24 := (okc_of (St_ok1 o hom).1) ▸ hI.1.1 (o) 1
        refine sx_gets (t := 0) (by decide) sl_X8_44 dX8_canByHand_34 ?_
        refine sx_iload_n dX8_canByHand_37 rfl ?_
        refine sy_sia (t := 0) (n := 15) (by decide) dX8_canByHand_38 rfl ⟨by omega, by omega⟩ (fun r23 => ?_)
        refine sx_icmp_lt (tgt := 67) dX8_canByHand_39 (by decide) (fun c24 => ?_) (fun c24 => ?_)
        ·
          refine sx_iconst dX8_canByHand_67 ⟨by decide, by decide⟩ ?_
          refine sx_ireturn dX8_canByHand_68 ?_
          exact ⟨_, rfl, by omega, ⟨rfl, fun q1 q2 => by first | omega | (exfalso; omega)⟩⟩
        ·
          refine sx_aload_n dX8_canByHand_42 rfl ?_
          refine sx_getI (k := 1) cl_8 fl_X8_32 dX8_canByHand_43 So0 Bo0 rfl (by decide) ?_
          have r25 : (0 : Int) ≤ h0 (o) 1 ∧ h0 (o) 1 ≤ 24 := (okc_of (St_ok1 o hom).1) ▸ hI.1.1 (o) 1
          refine sx_gets (t := 0) (by decide) sl_X8_44 dX8_canByHand_46 ?_
          refine sx_iload_n dX8_canByHand_49 rfl ?_
          refine sy_sia (t := 0) (n := 15) (by decide) dX8_canByHand_50 rfl ⟨by omega, by omega⟩ (fun r26 => ?_)
          refine sx_isub dX8_canByHand_51 ?_
          refine sy_topw (by omega) ?_
          refine sx_gets (t := 1) (by decide) sl_X8_47 dX8_canByHand_52 ?_
          refine sx_iload_n dX8_canByHand_55 rfl ?_
          refine sy_sia (t := 1) (n := 15) (by decide) dX8_canByHand_56 rfl ⟨by omega, by omega⟩ (fun r27 => ?_)
          refine sx_iadd dX8_canByHand_57 ?_
          refine sy_topw (by omega) ?_
          refine sx_bipush dX8_canByHand_58 ⟨by decide, by decide, by decide⟩ ?_
          refine sx_icmp_gt (tgt := 67) dX8_canByHand_60 (by decide) (fun c28 => ?_) (fun c28 => ?_)
          ·
            refine sx_iconst dX8_canByHand_67 ⟨by decide, by decide⟩ ?_
            refine sx_ireturn dX8_canByHand_68 ?_
            exact ⟨_, rfl, by omega, ⟨rfl, fun q1 q2 => by first | omega | (exfalso; omega)⟩⟩
          ·
            refine sx_iconst dX8_canByHand_63 ⟨by decide, by decide⟩ ?_
            refine sx_goto (tgt := 68) dX8_canByHand_64 (by decide) ?_
            refine sx_ireturn dX8_canByHand_68 ?_
            exact ⟨_, rfl, by omega, ⟨rfl, fun q1 q2 => by first | omega | (exfalso; omega)⟩⟩
      ·
        refine sx_aload_n dX8_canByHand_21 rfl ?_
        refine sx_getI (k := 3) cl_8 fl_X8_35 dX8_canByHand_22 So0 Bo0 rfl (by decide) ?_
        have r29 : (0 : Int) ≤ h0 (o) 3 ∧ h0 (o) 3 ≤ 42 := (okc_of (St_ok1 o hom).2.1) ▸ hI.1.1 (o) 3
        refine sx_if_ne (tgt := 30) dX8_canByHand_25 (by decide) (fun c30 => ?_) (fun c30 => ?_)
        ·
          refine sx_aload_n dX8_canByHand_30 rfl ?_
          refine sx_getI (k := 1) cl_8 fl_X8_32 dX8_canByHand_31 So0 Bo0 rfl (by decide) ?_
          have r31 : (0 : Int) ≤ h0 (o) 1 ∧ h0 (o) 1 ≤ 24 := (okc_of (St_ok1 o hom).1) ▸ hI.1.1 (o) 1
          refine sx_gets (t := 0) (by decide) sl_X8_44 dX8_canByHand_34 ?_
          refine sx_iload_n dX8_canByHand_37 rfl ?_
          refine sy_sia (t := 0) (n := 15) (by decide) dX8_canByHand_38 rfl ⟨by omega, by omega⟩ (fun r32 => ?_)
          refine sx_icmp_lt (tgt := 67) dX8_canByHand_39 (by decide) (fun c33 => ?_) (fun c33 => ?_)
          ·
            refine sx_iconst dX8_canByHand_67 ⟨by decide, by decide⟩ ?_
            refine sx_ireturn dX8_canByHand_68 ?_
            exact ⟨_, rfl, by omega, ⟨rfl, fun q1 q2 => by first | omega | (exfalso; omega)⟩⟩
          ·
            refine sx_aload_n dX8_canByHand_42 rfl ?_
            refine sx_getI (k := 1) cl_8 fl_X8_32 dX8_canByHand_43 So0 Bo0 rfl (by decide) ?_
            have r34 : (0 : Int) ≤ h0 (o) 1 ∧ h0 (o) 1 ≤ 24 := (okc_of (St_ok1 o hom).1) ▸ hI.1.1 (o) 1
            refine sx_gets (t := 0) (by decide) sl_X8_44 dX8_canByHand_46 ?_
            refine sx_iload_n dX8_canByHand_49 rfl ?_
            refine sy_sia (t := 0) (n := 15) (by decide) dX8_canByHand_50 rfl ⟨by omega, by omega⟩ (fun r35 => ?_)
            refine sx_isub dX8_canByHand_51 ?_
            refine sy_topw (by omega) ?_
            refine sx_gets (t := 1) (by decide) sl_X8_47 dX8_canByHand_52 ?_
            refine sx_iload_n dX8_canByHand_55 rfl ?_
            refine sy_sia (t := 1) (n := 15) (by decide) dX8_canByHand_56 rfl ⟨by omega, by omega⟩ (fun r36 => ?_)
            refine sx_iadd dX8_canByHand_57 ?_
            refine sy_topw (by omega) ?_
            refine sx_bipush dX8_canByHand_58 ⟨by decide, by decide, by decide⟩ ?_
            refine sx_icmp_gt (tgt := 67) dX8_canByHand_60 (by decide) (fun c37 => ?_) (fun c37 => ?_)
            ·
              refine sx_iconst dX8_canByHand_67 ⟨by decide, by decide⟩ ?_
              refine sx_ireturn dX8_canByHand_68 ?_
              exact ⟨_, rfl, by omega, ⟨rfl, fun q1 q2 => by first | omega | (exfalso; omega)⟩⟩
            ·
              refine sx_iconst dX8_canByHand_63 ⟨by decide, by decide⟩ ?_
              refine sx_goto (tgt := 68) dX8_canByHand_64 (by decide) ?_
              refine sx_ireturn dX8_canByHand_68 ?_
              exact ⟨_, rfl, by omega, ⟨rfl, fun q1 q2 => by first | omega | (exfalso; omega)⟩⟩
        ·
          refine sx_iconst dX8_canByHand_28 ⟨by decide, by decide⟩ ?_
          refine sx_ireturn dX8_canByHand_29 ?_
          exact ⟨_, rfl, by omega, ⟨rfl, fun q1 q2 => by first | omega | (exfalso; omega)⟩⟩
set_option maxRecDepth 20000 in
set_option maxHeartbeats 4000000 in
theorem f_X8_cellAt {G : sw_G} (d : Nat) {h0 : sw_H} (hJ : cJ h0) (o : Nat) (hom : o ∈ stL) (i : Int) : sw_E G NH SH (d) mX8_cellAt 0 [some (sw_r o), some (sw_i i)] [] h0 (sw_Qi (fun z h' => h0 = h' ∧ (h0 o 1 = 0 → z = 0))) := by
  have hI : cK prS h0 h0 := cK.refl hJ
  obtain ⟨So0, So1, So2, bo⟩ := s_St o hom
  have Bo0 : o < NH := show o < 290 by omega
  have Bo1 : o + 1 < NH := show o + 1 < 290 by omega
  have Bo2 : o + 2 < NH := show o + 2 < 290 by omega
  refine sx_iload_n dX8_cellAt_0 rfl ?_
  refine sx_if_lt (tgt := 28) dX8_cellAt_1 (by decide) (fun c1 => ?_) (fun c1 => ?_)
  ·
    refine sx_iconst dX8_cellAt_28 ⟨by decide, by decide⟩ ?_
    refine sx_ireturn dX8_cellAt_29 ?_
    exact ⟨_, rfl, ⟨rfl, fun q => by first | omega | (exfalso; omega)⟩⟩
  ·
    refine sx_iload_n dX8_cellAt_4 rfl ?_
    refine sx_aload_n dX8_cellAt_5 rfl ?_
    refine sx_getI (k := 1) cl_8 fl_X8_32 dX8_cellAt_6 So0 Bo0 rfl (by decide) ?_
    have r2 : (0 : Int) ≤ h0 (o) 1 ∧ h0 (o) 1 ≤ 24 := (okc_of (St_ok1 o hom).1) ▸ hI.1.1 (o) 1
    refine sx_icmp_ge (tgt := 28) dX8_cellAt_9 (by decide) (fun c3 => ?_) (fun c3 => ?_)
    ·
      refine sx_iconst dX8_cellAt_28 ⟨by decide, by decide⟩ ?_
      refine sx_ireturn dX8_cellAt_29 ?_
      exact ⟨_, rfl, ⟨rfl, fun q => by first | omega | (exfalso; omega)⟩⟩
    ·
      refine sx_aload_n dX8_cellAt_12 rfl ?_
      refine sx_getS (k := 0) (t := o + 1) cl_8 fl_X8_9 dX8_cellAt_13 So0 Bo0 rfl (by decide) ?_
      refine sx_aload_n dX8_cellAt_16 rfl ?_
      refine sx_getI (k := 1) cl_8 fl_X8_32 dX8_cellAt_17 So0 Bo0 rfl (by decide) ?_
      have r4 : (0 : Int) ≤ h0 (o) 1 ∧ h0 (o) 1 ≤ 24 := (okc_of (St_ok1 o hom).1) ▸ hI.1.1 (o) 1
      refine sx_iconst dX8_cellAt_20 ⟨by decide, by decide⟩ ?_
      refine sx_isub dX8_cellAt_21 ?_
      refine sy_topw (by omega) ?_
      refine sx_iload_n dX8_cellAt_22 rfl ?_
      refine sx_isub dX8_cellAt_23 ?_
      refine sy_topw (by omega) ?_
      refine sx_iaload dX8_cellAt_24 So1 Bo1 (by decide) ⟨by omega, by omega⟩ ?_
      refine sx_goto (tgt := 29) dX8_cellAt_25 (by decide) ?_
      refine sx_ireturn dX8_cellAt_29 ?_
      exact ⟨_, rfl, ⟨rfl, fun q => by first | omega | (exfalso; omega)⟩⟩
set_option maxRecDepth 20000 in
set_option maxHeartbeats 4000000 in
theorem f_X8_putAt {G : sw_G} (d : Nat) {h0 : sw_H} (hJ : cJ h0) (o : Nat) (hom : o ∈ stL) (i : Int) : sw_E G NH SH (d) mX8_putAt 0 [some (sw_r o), some (sw_i i)] [] h0 (sw_Qi (fun z h' => h0 = h' ∧ (h0 o 3 = 0 → z = 0))) := by
  have hI : cK prS h0 h0 := cK.refl hJ
  obtain ⟨So0, So1, So2, bo⟩ := s_St o hom
  have Bo0 : o < NH := show o < 290 by omega
  have Bo1 : o + 1 < NH := show o + 1 < 290 by omega
  have Bo2 : o + 2 < NH := show o + 2 < 290 by omega
  refine sx_iload_n dX8_putAt_0 rfl ?_
  refine sx_if_lt (tgt := 28) dX8_putAt_1 (by decide) (fun c1 => ?_) (fun c1 => ?_)
  ·
    refine sx_iconst dX8_putAt_28 ⟨by decide, by decide⟩ ?_
    refine sx_ireturn dX8_putAt_29 ?_
    exact ⟨_, rfl, ⟨rfl, fun q => by first | omega | (exfalso; omega)⟩⟩
  ·
    refine sx_iload_n dX8_putAt_4 rfl ?_
    refine sx_aload_n dX8_putAt_5 rfl ?_
    refine sx_getI (k := 3) cl_8 fl_X8_35 dX8_putAt_6 So0 Bo0 rfl (by decide) ?_
    have r2 : (0 : Int) ≤ h0 (o) 3 ∧ h0 (o) 3 ≤ 42 := (okc_of (St_ok1 o hom).2.1) ▸ hI.1.1 (o) 3
    refine sx_icmp_ge (tgt := 28) dX8_putAt_9 (by decide) (fun c3 => ?_) (fun c3 => ?_)
    ·
      refine sx_iconst dX8_putAt_28 ⟨by decide, by decide⟩ ?_
      refine sx_ireturn dX8_putAt_29 ?_
      exact ⟨_, rfl, ⟨rfl, fun q => by first | omega | (exfalso; omega)⟩⟩
    ·
      refine sx_aload_n dX8_putAt_12 rfl ?_
      refine sx_getS (k := 2) (t := o + 2) cl_8 fl_X8_15 dX8_putAt_13 So0 Bo0 rfl (by decide) ?_
      refine sx_aload_n dX8_putAt_16 rfl ?_
      refine sx_getI (k := 3) cl_8 fl_X8_35 dX8_putAt_17 So0 Bo0 rfl (by decide) ?_
      have r4 : (0 : Int) ≤ h0 (o) 3 ∧ h0 (o) 3 ≤ 42 := (okc_of (St_ok1 o hom).2.1) ▸ hI.1.1 (o) 3
      refine sx_iconst dX8_putAt_20 ⟨by decide, by decide⟩ ?_
      refine sx_isub dX8_putAt_21 ?_
      refine sy_topw (by omega) ?_
      refine sx_iload_n dX8_putAt_22 rfl ?_
      refine sx_isub dX8_putAt_23 ?_
      refine sy_topw (by omega) ?_
      refine sx_iaload dX8_putAt_24 So2 Bo2 (by decide) ⟨by omega, by omega⟩ ?_
      refine sx_goto (tgt := 29) dX8_putAt_25 (by decide) ?_
      refine sx_ireturn dX8_putAt_29 ?_
      exact ⟨_, rfl, ⟨rfl, fun q => by first | omega | (exfalso; omega)⟩⟩
set_option maxRecDepth 20000 in
set_option maxHeartbeats 4000000 in
theorem f_X8_turnBit {G : sw_G} (d : Nat) {h0 : sw_H} (hJ : cJ h0) (o : Nat) (hom : o ∈ stL) (n : Int) : sw_E G NH SH (d) mX8_turnBit 0 [some (sw_r o), some (sw_i n), none] [] h0 (sw_Qi (fun z h' => cK prS h0 h' ∧ (h0 o 1 = 0 → z = -1))) := by
  have hI : cK prS h0 h0 := cK.refl hJ
  obtain ⟨So0, So1, So2, bo⟩ := s_St o hom
  have Bo0 : o < NH := show o < 290 by omega
  have Bo1 : o + 1 < NH := show o + 1 < 290 by omega
  have Bo2 : o + 2 < NH := show o + 2 < 290 by omega
  refine sx_aload_n dX8_turnBit_0 rfl ?_
  refine sx_aload_n dX8_turnBit_1 rfl ?_
  refine sx_getI (k := 5) cl_8 fl_X8_25 dX8_turnBit_2 So0 Bo0 rfl (by decide) ?_
  refine sx_sipush dX8_turnBit_5 ⟨by decide, by decide, by decide⟩ ?_
  refine sx_imul dX8_turnBit_8 ?_
  refine sx_bipush dX8_turnBit_9 ⟨by decide, by decide, by decide⟩ ?_
  refine sx_iadd dX8_turnBit_11 ?_
  refine sx_sipush dX8_turnBit_12 ⟨by decide, by decide, by decide⟩ ?_
  refine sx_irem dX8_turnBit_15 (by omega) ?_
  refine sy_putI (k := 5) cl_8 fl_X8_25 dX8_turnBit_16 So0 Bo0 rfl (by decide) rfl rfl (fun h1 eh1 => ?_)
  have Ih1 := hI.up eh1 (okc_no (St_ok1 o hom).2.2.2) (St_sp o hom _).1.1 (St_sp o hom _).2.1
  have th1_o_5 := eh1.1
  have th1_o_1 := eh1.2 (o) 1 (by omega)
  refine sx_aload_n dX8_turnBit_19 rfl ?_
  refine sx_getI (k := 5) cl_8 fl_X8_25 dX8_turnBit_20 So0 Bo0 rfl (by decide) ?_
  refine sx_bipush dX8_turnBit_23 ⟨by decide, by decide, by decide⟩ ?_
  refine sx_irem dX8_turnBit_25 (by omega) ?_
  refine sx_iload_n dX8_turnBit_26 rfl ?_
  refine sx_icmp_ge (tgt := 37) dX8_turnBit_27 (by decide) (fun c2 => ?_) (fun c2 => ?_)
  ·
    refine sx_iconst dX8_turnBit_37 ⟨by decide, by decide⟩ ?_
    refine sx_ireturn dX8_turnBit_38 ?_
    exact ⟨_, rfl, ⟨Ih1, fun q => by first | omega | (exfalso; omega)⟩⟩
  ·
    refine sx_aload_n dX8_turnBit_30 rfl ?_
    refine sx_getI (k := 1) cl_8 fl_X8_32 dX8_turnBit_31 So0 Bo0 rfl (by decide) ?_
    have r3 : (0 : Int) ≤ h1 (o) 1 ∧ h1 (o) 1 ≤ 24 := (okc_of (St_ok1 o hom).1) ▸ Ih1.1.1 (o) 1
    refine sx_if_ne (tgt := 39) dX8_turnBit_34 (by decide) (fun c4 => ?_) (fun c4 => ?_)
    ·
      refine sx_aload_n dX8_turnBit_39 rfl ?_
      refine sx_getI (k := 5) cl_8 fl_X8_25 dX8_turnBit_40 So0 Bo0 rfl (by decide) ?_
      refine sx_bipush dX8_turnBit_43 ⟨by decide, by decide, by decide⟩ ?_
      refine sx_idiv dX8_turnBit_45 (by omega) ?_
      refine sy_top (fun v5 ev5 => ?_)
      refine sx_istore_n dX8_turnBit_46 (by decide) ?_
      refine sx_aload_n dX8_turnBit_47 rfl ?_
      refine sx_getS (k := 0) (t := o + 1) cl_8 fl_X8_9 dX8_turnBit_48 So0 Bo0 rfl (by decide) ?_
      refine sx_aload_n dX8_turnBit_51 rfl ?_
      refine sx_getI (k := 1) cl_8 fl_X8_32 dX8_turnBit_52 So0 Bo0 rfl (by decide) ?_
      have r6 : (0 : Int) ≤ h1 (o) 1 ∧ h1 (o) 1 ≤ 24 := (okc_of (St_ok1 o hom).1) ▸ Ih1.1.1 (o) 1
      refine sx_iconst dX8_turnBit_55 ⟨by decide, by decide⟩ ?_
      refine sx_isub dX8_turnBit_56 ?_
      refine sy_topw (by omega) ?_
      refine sx_dup2 dX8_turnBit_57 ?_
      refine sx_iaload dX8_turnBit_58 So1 Bo1 (by decide) ⟨by omega, by omega⟩ ?_
      refine sx_iconst dX8_turnBit_59 ⟨by decide, by decide⟩ ?_
      refine sx_iload_n dX8_turnBit_60 rfl ?_
      refine sx_ishl dX8_turnBit_61 ?_
      refine sx_ixor dX8_turnBit_62 ?_
      refine sy_iastore dX8_turnBit_63 So1 Bo1 (by decide) ⟨by omega, by omega⟩ (fun h7 eh7 => ?_)
      have Ih7 := Ih1.up eh7 (St_oka o hom _ _).1 (St_sp o hom _).1.2.1 (St_sp o hom _).2.2.1
      have th7_o_5 := eh7.2 (o) 5 (by omega)
      have th7_o_1 := eh7.2 (o) 1 (by omega)
      refine sx_iload_n dX8_turnBit_64 rfl ?_
      refine sx_ireturn dX8_turnBit_65 ?_
      exact ⟨_, rfl, ⟨Ih7, fun q => by first | omega | (exfalso; omega)⟩⟩
    ·
      refine sx_iconst dX8_turnBit_37 ⟨by decide, by decide⟩ ?_
      refine sx_ireturn dX8_turnBit_38 ?_
      exact ⟨_, rfl, ⟨Ih1, fun q => by first | omega | (exfalso; omega)⟩⟩
set_option maxRecDepth 20000 in
set_option maxHeartbeats 4000000 in
theorem f_X9_stepBack {G : sw_G} (d : Nat) {h0 : sw_H} (hJ : cJ h0) (hz : h0 48 2 = 0) : sw_E G NH SH (d) mX9_stepBack 0 [some (sw_r 48)] [] h0 (sw_Qz (fun z h' => cK prL h0 h' ∧ z = 0)) := by
  have hI : cK prL h0 h0 := cK.refl hJ
  have r2 : h0 48 2 ≤ h0 48 3 := hI.1.2 2 (by decide)
  refine sx_aload_n dX9_stepBack_0 rfl ?_
  refine sx_getI (k := 2) cl_9 fl_X9_22 dX9_stepBack_1 s_48 (by decide) rfl (by decide) ?_
  have r1 : (0 : Int) ≤ h0 48 2 ∧ h0 48 2 ≤ 40 := hI.1.1 48 2
  refine sx_if_ne (tgt := 9) dX9_stepBack_4 (by decide) (fun c2 => ?_) (fun c2 => ?_)
  ·
    refine sx_aload_n dX9_stepBack_9 rfl ?_
    refine sx_dupr dX9_stepBack_10 ?_
    refine sx_getI (k := 2) cl_9 fl_X9_22 dX9_stepBack_11 s_48 (by decide) rfl (by decide) ?_
    have r3 : (0 : Int) ≤ h0 48 2 ∧ h0 48 2 ≤ 40 := hI.1.1 48 2
    refine sx_iconst dX9_stepBack_14 ⟨by decide, by decide⟩ ?_
    refine sx_isub dX9_stepBack_15 ?_
    refine sy_topw (by omega) ?_
    refine sy_putI (k := 2) cl_9 fl_X9_22 dX9_stepBack_16 s_48 (by decide) rfl (by decide) rfl rfl (fun h4 eh4 => ?_)
    have Ih4 : cK prL h0 h4 := by
      have q1 := eh4.1
      have q2 := eh4.2 48 2
      have q3 := eh4.2 48 3
      first | exact ((hI.wide 2).up eh4 (show (0 : Int) ≤ _ ∧ _ ≤ (40 : Int) from ⟨by omega, by omega⟩) (Or.inr rfl) rfl).shut (show h4 48 2 ≤ h4 48 3 by first | (have q2 := q2 (by decide); omega) | (have q3 := q3 (by decide); omega)) | exact (hI.up eh4 (show (0 : Int) ≤ _ ∧ _ ≤ (40 : Int) from ⟨by omega, by omega⟩) (Or.inr rfl) rfl).shut (show h4 48 2 ≤ h4 48 3 by first | (have q2 := q2 (by decide); omega) | (have q3 := q3 (by decide); omega))
    have th4_48_2 := eh4.1
    refine sx_iconst dX9_stepBack_19 ⟨by decide, by decide⟩ ?_
    refine sx_ireturn dX9_stepBack_20 ?_
    exact ⟨_, rfl, by omega, ⟨Ih4, by first | omega | (exfalso; omega)⟩⟩
  ·
    refine sx_iconst dX9_stepBack_7 ⟨by decide, by decide⟩ ?_
    refine sx_ireturn dX9_stepBack_8 ?_
    exact ⟨_, rfl, by omega, ⟨hI, by first | omega | (exfalso; omega)⟩⟩
set_option maxRecDepth 20000 in
set_option maxHeartbeats 4000000 in
theorem f_X9_stepOn {G : sw_G} (d : Nat) {h0 : sw_H} (hJ : cJ h0) (hz : h0 48 2 = 0 ∧ h0 48 3 = 0) : sw_E G NH SH (d) mX9_stepOn 0 [some (sw_r 48)] [] h0 (sw_Qz (fun z h' => cK prL h0 h' ∧ z = 0)) := by
  have hI : cK prL h0 h0 := cK.refl hJ
  have r2 : h0 48 2 ≤ h0 48 3 := hI.1.2 2 (by decide)
  refine sx_aload_n dX9_stepOn_0 rfl ?_
  refine sx_getI (k := 2) cl_9 fl_X9_22 dX9_stepOn_1 s_48 (by decide) rfl (by decide) ?_
  have r1 : (0 : Int) ≤ h0 48 2 ∧ h0 48 2 ≤ 40 := hI.1.1 48 2
  refine sx_aload_n dX9_stepOn_4 rfl ?_
  refine sx_getI (k := 3) cl_9 fl_X9_29 dX9_stepOn_5 s_48 (by decide) rfl (by decide) ?_
  have r2 : (0 : Int) ≤ h0 48 3 ∧ h0 48 3 ≤ 40 := hI.1.1 48 3
  refine sx_icmp_ne (tgt := 13) dX9_stepOn_8 (by decide) (fun c3 => ?_) (fun c3 => ?_)
  ·
    refine sx_aload_n dX9_stepOn_13 rfl ?_
    refine sx_dupr dX9_stepOn_14 ?_
    refine sx_getI (k := 2) cl_9 fl_X9_22 dX9_stepOn_15 s_48 (by decide) rfl (by decide) ?_
    have r4 : (0 : Int) ≤ h0 48 2 ∧ h0 48 2 ≤ 40 := hI.1.1 48 2
    refine sx_iconst dX9_stepOn_18 ⟨by decide, by decide⟩ ?_
    refine sx_iadd dX9_stepOn_19 ?_
    refine sy_topw (by omega) ?_
    refine sy_putI (k := 2) cl_9 fl_X9_22 dX9_stepOn_20 s_48 (by decide) rfl (by decide) rfl rfl (fun h5 eh5 => ?_)
    have Ih5 : cK prL h0 h5 := by
      have q1 := eh5.1
      have q2 := eh5.2 48 2
      have q3 := eh5.2 48 3
      first | exact ((hI.wide 2).up eh5 (show (0 : Int) ≤ _ ∧ _ ≤ (40 : Int) from ⟨by omega, by omega⟩) (Or.inr rfl) rfl).shut (show h5 48 2 ≤ h5 48 3 by first | (have q2 := q2 (by decide); omega) | (have q3 := q3 (by decide); omega)) | exact (hI.up eh5 (show (0 : Int) ≤ _ ∧ _ ≤ (40 : Int) from ⟨by omega, by omega⟩) (Or.inr rfl) rfl).shut (show h5 48 2 ≤ h5 48 3 by first | (have q2 := q2 (by decide); omega) | (have q3 := q3 (by decide); omega))
    have th5_48_2 := eh5.1
    have th5_48_3 := eh5.2 (48) 3 (by decide)
    refine sx_iconst dX9_stepOn_23 ⟨by decide, by decide⟩ ?_
    refine sx_ireturn dX9_stepOn_24 ?_
    exact ⟨_, rfl, by omega, ⟨Ih5, by first | omega | (exfalso; omega)⟩⟩
  ·
    refine sx_iconst dX9_stepOn_11 ⟨by decide, by decide⟩ ?_
    refine sx_ireturn dX9_stepOn_12 ?_
    exact ⟨_, rfl, by omega, ⟨hI, by first | omega | (exfalso; omega)⟩⟩
set_option maxRecDepth 20000 in
set_option maxHeartbeats 4000000 in
theorem f_X7_takeBack {G : sw_G} (d : Nat) {h0 : sw_H} (hJ : cJ h0) (a b : Int) (hz : h0 189 8 = 0) : sw_E G NH SH (d) mX7_takeBack 0 [some (sw_r 189), some (sw_i a), some (sw_i b)] [] h0 (sw_Qz (fun z h' => cK prG h0 h' ∧ z = 0)) := by
  have hI : cK prG h0 h0 := cK.refl hJ
  refine sx_iload_n dX7_takeBack_0 rfl ?_
  refine sx_if_lt (tgt := 22) dX7_takeBack_1 (by decide) (fun c1 => ?_) (fun c1 => ?_)
  ·
    refine sx_iconst dX7_takeBack_22 ⟨by decide, by decide⟩ ?_
    refine sx_ireturn dX7_takeBack_23 ?_
    exact ⟨_, rfl, by omega, ⟨hI, by first | omega | (exfalso; omega)⟩⟩
  ·
    refine sx_iload_n dX7_takeBack_4 rfl ?_
    refine sx_aload_n dX7_takeBack_5 rfl ?_
    refine sx_getI (k := 8) cl_7 fl_X7_55 dX7_takeBack_6 s_189 (by decide) rfl (by decide) ?_
    have r2 : (0 : Int) ≤ h0 189 8 ∧ h0 189 8 ≤ 30 := hI.1.1 189 8
    refine sx_icmp_ge (tgt := 22) dX7_takeBack_9 (by decide) (fun c3 => ?_) (fun c3 => ?_)
    ·
      refine sx_iconst dX7_takeBack_22 ⟨by decide, by decide⟩ ?_
      refine sx_ireturn dX7_takeBack_23 ?_
      exact ⟨_, rfl, by omega, ⟨hI, by first | omega | (exfalso; omega)⟩⟩
    ·
      refine sx_aload_n dX7_takeBack_12 rfl ?_
      refine sx_getS (k := 7) (t := 212) cl_7 fl_X7_46 dX7_takeBack_13 s_189 (by decide) rfl (by decide) ?_
      refine sx_iload_n dX7_takeBack_16 rfl ?_
      refine sx_iaload dX7_takeBack_17 s_212 (by decide) (by decide) ⟨by omega, by omega⟩ ?_
      refine sx_iconst dX7_takeBack_18 ⟨by decide, by decide⟩ ?_
      refine sx_icmp_eq (tgt := 24) dX7_takeBack_19 (by decide) (fun c4 => ?_) (fun c4 => ?_)
      ·
        refine sx_aload_n dX7_takeBack_24 rfl ?_
        refine sx_getS (k := 7) (t := 212) cl_7 fl_X7_46 dX7_takeBack_25 s_189 (by decide) rfl (by decide) ?_
        refine sx_iload_n dX7_takeBack_28 rfl ?_
        refine sx_iload_n dX7_takeBack_29 rfl ?_
        refine sy_iastore dX7_takeBack_30 s_212 (by decide) (by decide) ⟨by omega, by omega⟩ (fun h5 eh5 => ?_)
        have Ih5 := hI.up eh5 trivial rfl rfl
        have th5_189_8 := eh5.2 (189) 8 (by omega)
        refine sx_iconst dX7_takeBack_31 ⟨by decide, by decide⟩ ?_
        refine sx_ireturn dX7_takeBack_32 ?_
        exact ⟨_, rfl, by omega, ⟨Ih5, by first | omega | (exfalso; omega)⟩⟩
      ·
        refine sx_iconst dX7_takeBack_22 ⟨by decide, by decide⟩ ?_
        refine sx_ireturn dX7_takeBack_23 ?_
        exact ⟨_, rfl, by omega, ⟨hI, by first | omega | (exfalso; omega)⟩⟩
set_option maxRecDepth 20000 in
set_option maxHeartbeats 4000000 in
theorem f_X11_isForm {G : sw_G} (d : Nat) {h0 : sw_H} (hJ : cJ h0) (n : Int) : sw_E G NH SH (d) mX11_isForm 0 [some (sw_i n)] [] h0 (sw_Qz (fun z h' => h0 = h' ∧ (z = 1 ↔ 0 ≤ n ∧ n ≤ 2))) := by
  have hI : cK pr0 h0 h0 := cK.refl hJ
  refine sx_iload_n dX11_isForm_0 rfl ?_
  refine sx_if_lt (tgt := 13) dX11_isForm_1 (by decide) (fun c1 => ?_) (fun c1 => ?_)
  ·
    refine sx_iconst dX11_isForm_13 ⟨by decide, by decide⟩ ?_
    refine sx_ireturn dX11_isForm_14 ?_
    exact ⟨_, rfl, by omega, ⟨rfl, by omega⟩⟩
  ·
    refine sx_iload_n dX11_isForm_4 rfl ?_
    refine sx_iconst dX11_isForm_5 ⟨by decide, by decide⟩ ?_
    refine sx_icmp_ge (tgt := 13) dX11_isForm_6 (by decide) (fun c2 => ?_) (fun c2 => ?_)
    ·
      refine sx_iconst dX11_isForm_13 ⟨by decide, by decide⟩ ?_
      refine sx_ireturn dX11_isForm_14 ?_
      exact ⟨_, rfl, by omega, ⟨rfl, by omega⟩⟩
    ·
      refine sx_iconst dX11_isForm_9 ⟨by decide, by decide⟩ ?_
      refine sx_goto (tgt := 14) dX11_isForm_10 (by decide) ?_
      refine sx_ireturn dX11_isForm_14 ?_
      exact ⟨_, rfl, by omega, ⟨rfl, by omega⟩⟩
set_option maxRecDepth 20000 in
set_option maxHeartbeats 4000000 in
theorem f_X11_commonDivisor {G : sw_G} (d : Nat) {h0 : sw_H} (hJ : cJ h0) (a b : Int) (ha : a = 100) (hb : b = 100) : sw_E G NH SH (d + 1) mX11_commonDivisor 0 [some (sw_i a), some (sw_i b), none, none, none, none] [] h0 (sw_Qi (fun z h' => h0 = h' ∧ z = 100)) := by
  have hI : cK pr0 h0 h0 := cK.refl hJ
  refine sx_iload_n dX11_commonDivisor_0 rfl ?_
  refine sx_istore_n dX11_commonDivisor_1 (by decide) ?_
  refine sx_iload_n dX11_commonDivisor_2 rfl ?_
  refine sx_istore_n dX11_commonDivisor_3 (by decide) ?_
  refine sx_iconst dX11_commonDivisor_4 ⟨by decide, by decide⟩ ?_
  refine sx_istore dX11_commonDivisor_5 (by decide) ?_
  refine sx_loop3 (fun (h : sw_H) (x : Int) (y : Int) (i : Int) => (h0 = h) ∧ ((i = 0 ∧ x = 100 ∧ y = 100) ∨ (i = 1 ∧ x = 100 ∧ y = 0))) (fun (h : sw_H) (x : Int) (y : Int) (i : Int) => (100 - i).toNat) (fun (h : sw_H) (x : Int) (y : Int) (i : Int) => sw_E G NH SH (d + 1) mX11_commonDivisor 7 [some (sw_i a), some (sw_i b), some (sw_i x), some (sw_i y), some (sw_i i), none] [] h (sw_Qi (fun z h' => h0 = h' ∧ z = 100))) ?_ _ _ _ _ ?_
  · rintro h1 x_2 y_3 i_4 ⟨rfl, j5⟩ ihh1
    try dsimp only at ihh1
    refine sx_iload dX11_commonDivisor_7 rfl ?_
    refine sx_bipush dX11_commonDivisor_9 ⟨by decide, by decide, by decide⟩ ?_
    refine sx_icmp_ge (tgt := 34) dX11_commonDivisor_11 (by decide) (fun c6 => ?_) (fun c6 => ?_)
    ·
      refine sx_iconst dX11_commonDivisor_34 ⟨by decide, by decide⟩ ?_
      refine sx_iload_n dX11_commonDivisor_35 rfl ?_
      refine sx_max lm_X11_215 lw_max dX11_commonDivisor_36 (Nat.le_of_ble_eq_true rfl) ?_
      refine sy_max (fun m7 em7 fm7 gm7 => ?_)
      refine sx_ireturn dX11_commonDivisor_39 ?_
      exact ⟨_, rfl, ⟨rfl, by omega⟩⟩
    ·
      refine sx_iload_n dX11_commonDivisor_14 rfl ?_
      refine sx_if_eq (tgt := 34) dX11_commonDivisor_15 (by decide) (fun c8 => ?_) (fun c8 => ?_)
      ·
        refine sx_iconst dX11_commonDivisor_34 ⟨by decide, by decide⟩ ?_
        refine sx_iload_n dX11_commonDivisor_35 rfl ?_
        refine sx_max lm_X11_215 lw_max dX11_commonDivisor_36 (Nat.le_of_ble_eq_true rfl) ?_
        refine sy_max (fun m9 em9 fm9 gm9 => ?_)
        refine sx_ireturn dX11_commonDivisor_39 ?_
        exact ⟨_, rfl, ⟨rfl, by omega⟩⟩
      ·
        have e20 : sw_w (Int.tmod x_2 y_3) = 0 := by rw [show x_2 = 100 by omega, show y_3 = 100 by omega]; decide
        refine sx_iload_n dX11_commonDivisor_18 rfl ?_
        refine sx_iload_n dX11_commonDivisor_19 rfl ?_
        refine sx_irem dX11_commonDivisor_20 (by omega) ?_
        refine sy_top (fun v10 ev10 => ?_)
        refine sx_istore dX11_commonDivisor_21 (by decide) ?_
        refine sx_iload_n dX11_commonDivisor_23 rfl ?_
        refine sx_istore_n dX11_commonDivisor_24 (by decide) ?_
        refine sx_iload dX11_commonDivisor_25 rfl ?_
        refine sx_istore_n dX11_commonDivisor_27 (by decide) ?_
        refine sx_iinc dX11_commonDivisor_28 (by decide) rfl ?_
        rw [sw_w_id (by omega) (by omega)]
        refine sx_goto (tgt := 7) dX11_commonDivisor_31 (by decide) ?_
        refine sx_kill 5 ?_
        exact ihh1 _ _ _ _ ⟨rfl, by omega⟩ (by exact sy_dec (by omega) (by omega))
  · exact ⟨rfl, by omega⟩
set_option maxRecDepth 20000 in
set_option maxHeartbeats 4000000 in
theorem f_X0_countOf_1 {G : sw_G} (d : Nat) {h0 : sw_H} (hJ : cJ h0) (t : Int) (hz : h0 1 1 = 0) : sw_E G NH SH (d) mX0_countOf 0 [some (sw_r 1), some (sw_i t), none, none] [] h0 (sw_Qi (fun z h' => h0 = h' ∧ z = 0)) := by
  have hI : cK pr0 h0 h0 := cK.refl hJ
  refine sx_iconst dX0_countOf_0 ⟨by decide, by decide⟩ ?_
  refine sx_istore_n dX0_countOf_1 (by decide) ?_
  refine sx_iconst dX0_countOf_2 ⟨by decide, by decide⟩ ?_
  refine sx_istore_n dX0_countOf_3 (by decide) ?_
  refine sx_loop2 (fun (h : sw_H) (b : Int) (i : Int) => (h0 = h) ∧ (i = 0) ∧ (b = 0)) (fun (h : sw_H) (b : Int) (i : Int) => (60 - i).toNat) (fun (h : sw_H) (b : Int) (i : Int) => sw_E G NH SH (d) mX0_countOf 4 [some (sw_r 1), some (sw_i t), some (sw_i b), some (sw_i i)] [] h (sw_Qi (fun z h' => h0 = h' ∧ z = 0))) ?_ _ _ _ ?_
  · rintro h1 b_2 i_3 ⟨rfl, j4, j5⟩ ihh1
    try dsimp only at ihh1
    refine sx_iload_n dX0_countOf_4 rfl ?_
    refine sx_aload_n dX0_countOf_5 rfl ?_
    refine sx_getI (k := 1) cl_0 fl_X0_52 dX0_countOf_6 s_1 (by decide) rfl (by decide) ?_
    have r6 : (0 : Int) ≤ h0 1 1 ∧ h0 1 1 ≤ 60 := hI.1.1 1 1
    refine sx_icmp_ge (tgt := 40) dX0_countOf_9 (by decide) (fun c7 => ?_) (fun c7 => ?_)
    ·
      refine sx_iload_n dX0_countOf_40 rfl ?_
      refine sx_ireturn dX0_countOf_41 ?_
      exact ⟨_, rfl, ⟨rfl, by omega⟩⟩
    ·
      exfalso; omega
  · exact ⟨rfl, by omega, by omega⟩
set_option maxRecDepth 20000 in
set_option maxHeartbeats 4000000 in
theorem f_X11_lay {G : sw_G} (d : Nat) {h0 : sw_H} (hJ : cJ h0) (y1 : Int) (hF : FC h0) : sw_E G NH SH (d + 3) mX11_lay 0 [some (sw_r 0), some (sw_i y1), none] [] h0 (sw_Qi (fun z h' => cK pr1 h0 h' ∧ z = (if 0 ≤ y1 ∧ y1 ≤ 9999 then 1 else -1))) := by
  have hI : cK pr1 h0 h0 := cK.refl hJ
  obtain ⟨hc, f0, f7, f12, f13, f14, w0, i0, u0, l0, d1, d2, d3, b7, s8, zs, tk⟩ := hF
  have Zh0 : ZS h0 := zs
  have rw : (0 : Int) ≤ h0 1 0 ∧ h0 1 0 ≤ 6 := hI.1.1 1 0
  refine sx_iload_n dX11_lay_0 rfl ?_
  refine sx_if_lt (tgt := 26) dX11_lay_1 (by decide) (fun c1 => ?_) (fun c1 => ?_)
  ·
    refine sx_iconst dX11_lay_26 ⟨by decide, by decide⟩ ?_
    refine sx_ireturn dX11_lay_27 ?_
    exact ⟨_, rfl, ⟨hI, by split <;> omega⟩⟩
  ·
    refine sx_iload_n dX11_lay_4 rfl ?_
    refine sx_sipush dX11_lay_5 ⟨by decide, by decide, by decide⟩ ?_
    refine sx_icmp_gt (tgt := 26) dX11_lay_8 (by decide) (fun c2 => ?_) (fun c2 => ?_)
    ·
      refine sx_iconst dX11_lay_26 ⟨by decide, by decide⟩ ?_
      refine sx_ireturn dX11_lay_27 ?_
      exact ⟨_, rfl, ⟨hI, by split <;> omega⟩⟩
    ·
      refine sx_aload_n dX11_lay_11 rfl ?_
      refine sx_getS (k := 5) (t := 48) cl_11 fl_X11_36 dX11_lay_12 s_0 (by decide) rfl (by decide) ?_
      refine sx_callVr lk_X11_147 cl_9 s_48 (by decide) dX11_lay_15 (vs := []) rfl rfl (Nat.le_of_ble_eq_true rfl) (Nat.le_of_ble_eq_true rfl) ⟨_, rfl⟩ (f_X9_state _ hI.1) (fun x4 h3 ph3 => ?_)
      obtain ⟨rfl, m_x4⟩ := ph3
      have hx4m := m_x4
      obtain ⟨Sx40, Sx41, Sx42, bx4⟩ := s_St x4 hx4m
      have Bx40 : x4 < NH := show x4 < 290 by omega
      have Bx41 : x4 + 1 < NH := show x4 + 1 < 290 by omega
      have Bx42 : x4 + 2 < NH := show x4 + 2 < 290 by omega
      have zq_x4 := Zh0 _ hx4m
      refine sx_getI (k := 1) cl_8 fl_X11_163 dX11_lay_18 Sx40 Bx40 rfl (by decide) ?_
      have r5 : (0 : Int) ≤ h0 (x4) 1 ∧ h0 (x4) 1 ≤ 24 := (okc_of (St_ok1 x4 hx4m).1) ▸ hI.1.1 (x4) 1
      refine sx_bipush dX11_lay_21 ⟨by decide, by decide, by decide⟩ ?_
      refine sx_icmp_lt (tgt := 28) dX11_lay_23 (by decide) (fun c6 => ?_) (fun c6 => ?_)
      ·
        refine sx_aload_n dX11_lay_28 rfl ?_
        refine sx_getS (k := 5) (t := 48) cl_11 fl_X11_36 dX11_lay_29 s_0 (by decide) rfl (by decide) ?_
        refine sx_callVr lk_X11_166 cl_9 s_48 (by decide) dX11_lay_32 (vs := []) rfl rfl (Nat.le_of_ble_eq_true rfl) (Nat.le_of_ble_eq_true rfl) ⟨_, rfl⟩ (f_X9_begin _ hI.1 Zh0) (fun x8 h7 ph7 => ?_)
        obtain ⟨Kh7, m_h7, z_h7⟩ := ph7
        have Ih7 := hI.tr Kh7 sb_pr1_prL
        have th7_0_1 := Kh7.2 (0) 1 rfl
        have th7_0_2 := Kh7.2 (0) 2 rfl
        have th7_1_0 := Kh7.2 (1) 0 rfl
        have hx8m := m_h7
        have Zh7 := z_h7
        obtain ⟨Sx80, Sx81, Sx82, bx8⟩ := s_St x8 hx8m
        have Bx80 : x8 < NH := show x8 < 290 by omega
        have Bx81 : x8 + 1 < NH := show x8 + 1 < 290 by omega
        have Bx82 : x8 + 2 < NH := show x8 + 2 < 290 by omega
        have zq_x8 := Zh7 _ hx8m
        refine sx_astore_n dX11_lay_35 (by decide) ?_
        refine sx_aload_n dX11_lay_36 rfl ?_
        refine sx_iload_n dX11_lay_37 rfl ?_
        refine sx_callVv lk_X11_168 cl_8 Sx80 Bx80 dX11_lay_38 (vs := [_]) rfl rfl (Nat.le_of_ble_eq_true rfl) (Nat.le_of_ble_eq_true rfl) rfl (f_X8_add _ Ih7.1 (x8) hx8m _) (fun h9 ph9 => ?_)
        obtain ⟨Kh9, a_h9⟩ := ph9
        have Ih9 := Ih7.tr Kh9 sb_pr1_prS
        have th9_0_1 := Kh9.2 (0) 1 rfl
        have th9_0_2 := Kh9.2 (0) 2 rfl
        have th9_1_0 := Kh9.2 (1) 0 rfl
        have k_h9 := a_h9 (by omega)
        refine sx_aload_n dX11_lay_41 rfl ?_
        refine sx_getI (k := 1) cl_8 fl_X11_163 dX11_lay_42 Sx80 Bx80 rfl (by decide) ?_
        have r11 : (0 : Int) ≤ h9 (x8) 1 ∧ h9 (x8) 1 ≤ 24 := (okc_of (St_ok1 x8 hx8m).1) ▸ Ih9.1.1 (x8) 1
        refine sx_ireturn dX11_lay_45 ?_
        exact ⟨_, rfl, ⟨Ih9, by split <;> omega⟩⟩
      ·
        refine sx_iconst dX11_lay_26 ⟨by decide, by decide⟩ ?_
        refine sx_ireturn dX11_lay_27 ?_
        exact ⟨_, rfl, ⟨hI, by split <;> omega⟩⟩
set_option maxRecDepth 20000 in
set_option maxHeartbeats 4000000 in
theorem f_X11_run {G : sw_G} (d : Nat) {h0 : sw_H} (hJ : cJ h0) (y1 : Int) (hF : FC h0) : sw_E G NH SH (d + 3) mX11_run 0 [some (sw_r 0), some (sw_i y1), none] [] h0 (sw_Qi (fun z h' => cK pr1 h0 h' ∧ z = (-1))) := by
  have hI : cK pr1 h0 h0 := cK.refl hJ
  obtain ⟨hc, f0, f7, f12, f13, f14, w0, i0, u0, l0, d1, d2, d3, b7, s8, zs, tk⟩ := hF
  have Zh0 : ZS h0 := zs
  have rw : (0 : Int) ≤ h0 1 0 ∧ h0 1 0 ≤ 6 := hI.1.1 1 0
  refine sx_iload_n dX11_run_0 rfl ?_
  refine sx_if_lt (tgt := 24) dX11_run_1 (by decide) (fun c1 => ?_) (fun c1 => ?_)
  ·
    refine sx_iconst dX11_run_24 ⟨by decide, by decide⟩ ?_
    refine sx_ireturn dX11_run_25 ?_
    exact ⟨_, rfl, ⟨hI, by first | omega | (exfalso; omega)⟩⟩
  ·
    refine sx_iload_n dX11_run_4 rfl ?_
    refine sx_bipush dX11_run_5 ⟨by decide, by decide, by decide⟩ ?_
    refine sx_icmp_ge (tgt := 24) dX11_run_7 (by decide) (fun c2 => ?_) (fun c2 => ?_)
    ·
      refine sx_iconst dX11_run_24 ⟨by decide, by decide⟩ ?_
      refine sx_ireturn dX11_run_25 ?_
      exact ⟨_, rfl, ⟨hI, by first | omega | (exfalso; omega)⟩⟩
    ·
      refine sx_aload_n dX11_run_10 rfl ?_
      refine sx_getS (k := 5) (t := 48) cl_11 fl_X11_36 dX11_run_11 s_0 (by decide) rfl (by decide) ?_
      refine sx_callVr lk_X11_147 cl_9 s_48 (by decide) dX11_run_14 (vs := []) rfl rfl (Nat.le_of_ble_eq_true rfl) (Nat.le_of_ble_eq_true rfl) ⟨_, rfl⟩ (f_X9_state _ hI.1) (fun x4 h3 ph3 => ?_)
      obtain ⟨rfl, m_x4⟩ := ph3
      have hx4m := m_x4
      obtain ⟨Sx40, Sx41, Sx42, bx4⟩ := s_St x4 hx4m
      have Bx40 : x4 < NH := show x4 < 290 by omega
      have Bx41 : x4 + 1 < NH := show x4 + 1 < 290 by omega
      have Bx42 : x4 + 2 < NH := show x4 + 2 < 290 by omega
      have zq_x4 := Zh0 _ hx4m
      refine sx_iload_n dX11_run_17 rfl ?_
      refine sx_callVz lk_X11_171 cl_8 Sx40 Bx40 dX11_run_18 (vs := [_]) rfl rfl (Nat.le_of_ble_eq_true rfl) (Nat.le_of_ble_eq_true rfl) rfl (f_X8_canByHand _ hI.1 (x4) hx4m _ (by omega)) (fun x6 h5 zx6 ph5 => ?_)
      obtain ⟨rfl, c_x6⟩ := ph5
      have k_x6 := c_x6 zq_x4.1 zq_x4.2.1
      refine sx_if_ne (tgt := 26) dX11_run_21 (by decide) (fun c7 => ?_) (fun c7 => ?_)
      ·
        exfalso; omega
      ·
        refine sx_iconst dX11_run_24 ⟨by decide, by decide⟩ ?_
        refine sx_ireturn dX11_run_25 ?_
        exact ⟨_, rfl, ⟨hI, by first | omega | (exfalso; omega)⟩⟩
set_option maxRecDepth 20000 in
set_option maxHeartbeats 4000000 in
theorem f_X11_clear {G : sw_G} (d : Nat) {h0 : sw_H} (hJ : cJ h0) (hF : FC h0) : sw_E G NH SH (d + 3) mX11_clear 0 [some (sw_r 0), none] [] h0 (sw_Qi (fun z h' => cK pr1 h0 h' ∧ z = (-1))) := by
  have hI : cK pr1 h0 h0 := cK.refl hJ
  obtain ⟨hc, f0, f7, f12, f13, f14, w0, i0, u0, l0, d1, d2, d3, b7, s8, zs, tk⟩ := hF
  have Zh0 : ZS h0 := zs
  have rw : (0 : Int) ≤ h0 1 0 ∧ h0 1 0 ≤ 6 := hI.1.1 1 0
  refine sx_aload_n dX11_clear_0 rfl ?_
  refine sx_getS (k := 5) (t := 48) cl_11 fl_X11_36 dX11_clear_1 s_0 (by decide) rfl (by decide) ?_
  refine sx_callVr lk_X11_147 cl_9 s_48 (by decide) dX11_clear_4 (vs := []) rfl rfl (Nat.le_of_ble_eq_true rfl) (Nat.le_of_ble_eq_true rfl) ⟨_, rfl⟩ (f_X9_state _ hI.1) (fun x2 h1 ph1 => ?_)
  obtain ⟨rfl, m_x2⟩ := ph1
  have hx2m := m_x2
  obtain ⟨Sx20, Sx21, Sx22, bx2⟩ := s_St x2 hx2m
  have Bx20 : x2 < NH := show x2 < 290 by omega
  have Bx21 : x2 + 1 < NH := show x2 + 1 < 290 by omega
  have Bx22 : x2 + 2 < NH := show x2 + 2 < 290 by omega
  have zq_x2 := Zh0 _ hx2m
  refine sx_getI (k := 1) cl_8 fl_X11_163 dX11_clear_7 Sx20 Bx20 rfl (by decide) ?_
  have r3 : (0 : Int) ≤ h0 (x2) 1 ∧ h0 (x2) 1 ≤ 24 := (okc_of (St_ok1 x2 hx2m).1) ▸ hI.1.1 (x2) 1
  refine sx_aload_n dX11_clear_10 rfl ?_
  refine sx_getS (k := 5) (t := 48) cl_11 fl_X11_36 dX11_clear_11 s_0 (by decide) rfl (by decide) ?_
  refine sx_callVr lk_X11_147 cl_9 s_48 (by decide) dX11_clear_14 (vs := []) rfl rfl (Nat.le_of_ble_eq_true rfl) (Nat.le_of_ble_eq_true rfl) ⟨_, rfl⟩ (f_X9_state _ hI.1) (fun x5 h4 ph4 => ?_)
  obtain ⟨rfl, m_x5⟩ := ph4
  have hx5m := m_x5
  obtain ⟨Sx50, Sx51, Sx52, bx5⟩ := s_St x5 hx5m
  have Bx50 : x5 < NH := show x5 < 290 by omega
  have Bx51 : x5 + 1 < NH := show x5 + 1 < 290 by omega
  have Bx52 : x5 + 2 < NH := show x5 + 2 < 290 by omega
  have zq_x5 := Zh0 _ hx5m
  refine sx_getI (k := 3) cl_8 fl_X11_181 dX11_clear_17 Sx50 Bx50 rfl (by decide) ?_
  have r6 : (0 : Int) ≤ h0 (x5) 3 ∧ h0 (x5) 3 ≤ 42 := (okc_of (St_ok1 x5 hx5m).2.1) ▸ hI.1.1 (x5) 3
  refine sx_iadd dX11_clear_20 ?_
  refine sy_topw (by omega) ?_
  refine sy_top (fun v7 ev7 => ?_)
  refine sx_istore_n dX11_clear_21 (by decide) ?_
  refine sx_iload_n dX11_clear_22 rfl ?_
  refine sx_if_ne (tgt := 28) dX11_clear_23 (by decide) (fun c8 => ?_) (fun c8 => ?_)
  ·
    exfalso; omega
  ·
    refine sx_iconst dX11_clear_26 ⟨by decide, by decide⟩ ?_
    refine sx_ireturn dX11_clear_27 ?_
    exact ⟨_, rfl, ⟨hI, by first | omega | (exfalso; omega)⟩⟩
set_option maxRecDepth 20000 in
set_option maxHeartbeats 4000000 in
theorem f_X11_flip {G : sw_G} (d : Nat) {h0 : sw_H} (hJ : cJ h0) (hF : FC h0) : sw_E G NH SH (d + 3) mX11_flip 0 [some (sw_r 0)] [] h0 (sw_Qi (fun z h' => cK pr1 h0 h' ∧ z = (-1))) := by
  have hI : cK pr1 h0 h0 := cK.refl hJ
  obtain ⟨hc, f0, f7, f12, f13, f14, w0, i0, u0, l0, d1, d2, d3, b7, s8, zs, tk⟩ := hF
  have Zh0 : ZS h0 := zs
  have rw : (0 : Int) ≤ h0 1 0 ∧ h0 1 0 ≤ 6 := hI.1.1 1 0
  refine sx_aload_n dX11_flip_0 rfl ?_
  refine sx_getS (k := 5) (t := 48) cl_11 fl_X11_36 dX11_flip_1 s_0 (by decide) rfl (by decide) ?_
  refine sx_callVr lk_X11_166 cl_9 s_48 (by decide) dX11_flip_4 (vs := []) rfl rfl (Nat.le_of_ble_eq_true rfl) (Nat.le_of_ble_eq_true rfl) ⟨_, rfl⟩ (f_X9_begin _ hI.1 Zh0) (fun x2 h1 ph1 => ?_)
  obtain ⟨Kh1, m_h1, z_h1⟩ := ph1
  have Ih1 := hI.tr Kh1 sb_pr1_prL
  have th1_0_1 := Kh1.2 (0) 1 rfl
  have th1_0_2 := Kh1.2 (0) 2 rfl
  have th1_1_0 := Kh1.2 (1) 0 rfl
  have hx2m := m_h1
  have Zh1 := z_h1
  obtain ⟨Sx20, Sx21, Sx22, bx2⟩ := s_St x2 hx2m
  have Bx20 : x2 < NH := show x2 < 290 by omega
  have Bx21 : x2 + 1 < NH := show x2 + 1 < 290 by omega
  have Bx22 : x2 + 2 < NH := show x2 + 2 < 290 by omega
  have zq_x2 := Zh1 _ hx2m
  refine sx_aload_n dX11_flip_7 rfl ?_
  refine sx_getR (k := 1) (t := 1) cl_11 fl_X11_10 dX11_flip_8 s_0 (by decide) rfl (by decide) (by omega) ?_
  refine sx_getI (k := 3) cl_0 fl_X11_187 dX11_flip_11 s_1 (by decide) rfl (by decide) ?_
  refine sx_callVi lk_X11_190 cl_8 Sx20 Bx20 dX11_flip_14 (vs := [_]) rfl rfl (Nat.le_of_ble_eq_true rfl) (Nat.le_of_ble_eq_true rfl) rfl (f_X8_turnBit _ Ih1.1 (x2) hx2m _) (fun x4 h3 ph3 => ?_)
  obtain ⟨Kh3, b_h3⟩ := ph3
  have Ih3 := Ih1.tr Kh3 sb_pr1_prS
  have th3_0_1 := Kh3.2 (0) 1 rfl
  have th3_0_2 := Kh3.2 (0) 2 rfl
  have th3_1_0 := Kh3.2 (1) 0 rfl
  have k_x4 := b_h3 zq_x2.1
  refine sx_ireturn dX11_flip_17 ?_
  exact ⟨_, rfl, ⟨Ih3, by first | omega | (exfalso; omega)⟩⟩
set_option maxRecDepth 20000 in
set_option maxHeartbeats 4000000 in
theorem f_X11_undo {G : sw_G} (d : Nat) {h0 : sw_H} (hJ : cJ h0) (hF : FC h0) : sw_E G NH SH (d + 1) mX11_undo 0 [some (sw_r 0)] [] h0 (sw_Qz (fun z h' => cK pr1 h0 h' ∧ z = (0))) := by
  have hI : cK pr1 h0 h0 := cK.refl hJ
  obtain ⟨hc, f0, f7, f12, f13, f14, w0, i0, u0, l0, d1, d2, d3, b7, s8, zs, tk⟩ := hF
  have Zh0 : ZS h0 := zs
  have rw : (0 : Int) ≤ h0 1 0 ∧ h0 1 0 ≤ 6 := hI.1.1 1 0
  refine sx_aload_n dX11_undo_0 rfl ?_
  refine sx_getS (k := 5) (t := 48) cl_11 fl_X11_36 dX11_undo_1 s_0 (by decide) rfl (by decide) ?_
  refine sx_callVz lk_X11_194 cl_9 s_48 (by decide) dX11_undo_4 (vs := []) rfl rfl (Nat.le_of_ble_eq_true rfl) (Nat.le_of_ble_eq_true rfl) rfl (f_X9_stepBack _ hI.1 d2) (fun x2 h1 zx2 ph1 => ?_)
  obtain ⟨Kh1, k_h1⟩ := ph1
  have Ih1 := hI.tr Kh1 sb_pr1_prL
  have th1_0_1 := Kh1.2 (0) 1 rfl
  have th1_0_2 := Kh1.2 (0) 2 rfl
  have th1_1_0 := Kh1.2 (1) 0 rfl
  refine sx_ireturn dX11_undo_7 ?_
  exact ⟨_, rfl, by omega, ⟨Ih1, by first | omega | (exfalso; omega)⟩⟩
set_option maxRecDepth 20000 in
set_option maxHeartbeats 4000000 in
theorem f_X11_redo {G : sw_G} (d : Nat) {h0 : sw_H} (hJ : cJ h0) (hF : FC h0) : sw_E G NH SH (d + 1) mX11_redo 0 [some (sw_r 0)] [] h0 (sw_Qz (fun z h' => cK pr1 h0 h' ∧ z = (0))) := by
  have hI : cK pr1 h0 h0 := cK.refl hJ
  obtain ⟨hc, f0, f7, f12, f13, f14, w0, i0, u0, l0, d1, d2, d3, b7, s8, zs, tk⟩ := hF
  have Zh0 : ZS h0 := zs
  have rw : (0 : Int) ≤ h0 1 0 ∧ h0 1 0 ≤ 6 := hI.1.1 1 0
  refine sx_aload_n dX11_redo_0 rfl ?_
  refine sx_getS (k := 5) (t := 48) cl_11 fl_X11_36 dX11_redo_1 s_0 (by decide) rfl (by decide) ?_
  refine sx_callVz lk_X11_198 cl_9 s_48 (by decide) dX11_redo_4 (vs := []) rfl rfl (Nat.le_of_ble_eq_true rfl) (Nat.le_of_ble_eq_true rfl) rfl (f_X9_stepOn _ hI.1 ⟨d2, d3⟩) (fun x2 h1 zx2 ph1 => ?_)
  obtain ⟨Kh1, k_h1⟩ := ph1
  have Ih1 := hI.tr Kh1 sb_pr1_prL
  have th1_0_1 := Kh1.2 (0) 1 rfl
  have th1_0_2 := Kh1.2 (0) 2 rfl
  have th1_1_0 := Kh1.2 (1) 0 rfl
  refine sx_ireturn dX11_redo_7 ?_
  exact ⟨_, rfl, by omega, ⟨Ih1, by first | omega | (exfalso; omega)⟩⟩
set_option maxRecDepth 20000 in
set_option maxHeartbeats 4000000 in
theorem f_X11_cell {G : sw_G} (d : Nat) {h0 : sw_H} (hJ : cJ h0) (y1 : Int) (hF : FC h0) : sw_E G NH SH (d + 1) mX11_cell 0 [some (sw_r 0), some (sw_i y1)] [] h0 (sw_Qi (fun z h' => cK pr1 h0 h' ∧ z = (0))) := by
  have hI : cK pr1 h0 h0 := cK.refl hJ
  obtain ⟨hc, f0, f7, f12, f13, f14, w0, i0, u0, l0, d1, d2, d3, b7, s8, zs, tk⟩ := hF
  have Zh0 : ZS h0 := zs
  have rw : (0 : Int) ≤ h0 1 0 ∧ h0 1 0 ≤ 6 := hI.1.1 1 0
  refine sx_aload_n dX11_cell_0 rfl ?_
  refine sx_getS (k := 5) (t := 48) cl_11 fl_X11_36 dX11_cell_1 s_0 (by decide) rfl (by decide) ?_
  refine sx_callVr lk_X11_147 cl_9 s_48 (by decide) dX11_cell_4 (vs := []) rfl rfl (Nat.le_of_ble_eq_true rfl) (Nat.le_of_ble_eq_true rfl) ⟨_, rfl⟩ (f_X9_state _ hI.1) (fun x2 h1 ph1 => ?_)
  obtain ⟨rfl, m_x2⟩ := ph1
  have hx2m := m_x2
  obtain ⟨Sx20, Sx21, Sx22, bx2⟩ := s_St x2 hx2m
  have Bx20 : x2 < NH := show x2 < 290 by omega
  have Bx21 : x2 + 1 < NH := show x2 + 1 < 290 by omega
  have Bx22 : x2 + 2 < NH := show x2 + 2 < 290 by omega
  have zq_x2 := Zh0 _ hx2m
  refine sx_iload_n dX11_cell_7 rfl ?_
  refine sx_callVi lk_X11_201 cl_8 Sx20 Bx20 dX11_cell_8 (vs := [_]) rfl rfl (Nat.le_of_ble_eq_true rfl) (Nat.le_of_ble_eq_true rfl) rfl (f_X8_cellAt _ hI.1 (x2) hx2m _) (fun x4 h3 ph3 => ?_)
  obtain ⟨rfl, c_x4⟩ := ph3
  have k_x4 := c_x4 zq_x2.1
  refine sx_ireturn dX11_cell_11 ?_
  exact ⟨_, rfl, ⟨hI, by first | omega | (exfalso; omega)⟩⟩
set_option maxRecDepth 20000 in
set_option maxHeartbeats 4000000 in
theorem f_X11_put {G : sw_G} (d : Nat) {h0 : sw_H} (hJ : cJ h0) (y1 : Int) (hF : FC h0) : sw_E G NH SH (d + 1) mX11_put 0 [some (sw_r 0), some (sw_i y1)] [] h0 (sw_Qi (fun z h' => cK pr1 h0 h' ∧ z = (0))) := by
  have hI : cK pr1 h0 h0 := cK.refl hJ
  obtain ⟨hc, f0, f7, f12, f13, f14, w0, i0, u0, l0, d1, d2, d3, b7, s8, zs, tk⟩ := hF
  have Zh0 : ZS h0 := zs
  have rw : (0 : Int) ≤ h0 1 0 ∧ h0 1 0 ≤ 6 := hI.1.1 1 0
  refine sx_aload_n dX11_put_0 rfl ?_
  refine sx_getS (k := 5) (t := 48) cl_11 fl_X11_36 dX11_put_1 s_0 (by decide) rfl (by decide) ?_
  refine sx_callVr lk_X11_147 cl_9 s_48 (by decide) dX11_put_4 (vs := []) rfl rfl (Nat.le_of_ble_eq_true rfl) (Nat.le_of_ble_eq_true rfl) ⟨_, rfl⟩ (f_X9_state _ hI.1) (fun x2 h1 ph1 => ?_)
  obtain ⟨rfl, m_x2⟩ := ph1
  have hx2m := m_x2
  obtain ⟨Sx20, Sx21, Sx22, bx2⟩ := s_St x2 hx2m
  have Bx20 : x2 < NH := show x2 < 290 by omega
  have Bx21 : x2 + 1 < NH := show x2 + 1 < 290 by omega
  have Bx22 : x2 + 2 < NH := show x2 + 2 < 290 by omega
  have zq_x2 := Zh0 _ hx2m
  refine sx_iload_n dX11_put_7 rfl ?_
  refine sx_callVi lk_X11_204 cl_8 Sx20 Bx20 dX11_put_8 (vs := [_]) rfl rfl (Nat.le_of_ble_eq_true rfl) (Nat.le_of_ble_eq_true rfl) rfl (f_X8_putAt _ hI.1 (x2) hx2m _) (fun x4 h3 ph3 => ?_)
  obtain ⟨rfl, c_x4⟩ := ph3
  have k_x4 := c_x4 zq_x2.2.1
  refine sx_ireturn dX11_put_11 ?_
  exact ⟨_, rfl, ⟨hI, by first | omega | (exfalso; omega)⟩⟩
set_option maxRecDepth 20000 in
set_option maxHeartbeats 4000000 in
theorem f_X11_untell {G : sw_G} (d : Nat) {h0 : sw_H} (hJ : cJ h0) (y1 : Int) (hF : FC h0) : sw_E G NH SH (d + 1) mX11_untell 0 [some (sw_r 0), some (sw_i y1)] [] h0 (sw_Qz (fun z h' => cK pr1 h0 h' ∧ z = (0))) := by
  have hI : cK pr1 h0 h0 := cK.refl hJ
  obtain ⟨hc, f0, f7, f12, f13, f14, w0, i0, u0, l0, d1, d2, d3, b7, s8, zs, tk⟩ := hF
  have Zh0 : ZS h0 := zs
  have rw : (0 : Int) ≤ h0 1 0 ∧ h0 1 0 ≤ 6 := hI.1.1 1 0
  refine sx_aload_n dX11_untell_0 rfl ?_
  refine sx_getS (k := 11) (t := 189) cl_11 fl_X11_68 dX11_untell_1 s_0 (by decide) rfl (by decide) ?_
  refine sx_iload_n dX11_untell_4 rfl ?_
  refine sx_aload_n dX11_untell_5 rfl ?_
  refine sx_getI (k := 12) cl_11 fl_X11_291 dX11_untell_6 s_0 (by decide) rfl (by decide) ?_
  have r1 : (0 : Int) ≤ h0 0 12 ∧ h0 0 12 ≤ 100000 := hI.1.1 0 12
  refine sx_callVz lk_X11_298 cl_7 s_189 (by decide) dX11_untell_9 (vs := [_, _]) rfl rfl (Nat.le_of_ble_eq_true rfl) (Nat.le_of_ble_eq_true rfl) rfl (f_X7_takeBack _ hI.1 _ _ s8) (fun x3 h2 zx3 ph2 => ?_)
  obtain ⟨Kh2, k_h2⟩ := ph2
  have Ih2 := hI.tr Kh2 sb_pr1_prG
  have th2_0_1 := Kh2.2 (0) 1 rfl
  have th2_0_2 := Kh2.2 (0) 2 rfl
  have th2_1_0 := Kh2.2 (1) 0 rfl
  refine sx_ireturn dX11_untell_12 ?_
  exact ⟨_, rfl, by omega, ⟨Ih2, by first | omega | (exfalso; omega)⟩⟩
set_option maxRecDepth 20000 in
set_option maxHeartbeats 4000000 in
theorem f_X11_takes {G : sw_G} (d : Nat) {h0 : sw_H} (hJ : cJ h0) (y1 y2 : Int) (hF : FC h0) : sw_E G NH SH (d + 1) mX11_takes 0 [some (sw_r 0), some (sw_i y1), some (sw_i y2)] [] h0 (sw_Qi (fun z h' => cK pr1 h0 h' ∧ z = (if (0 ≤ y1 ∧ y1 ≤ 2) ∧ (0 ≤ y2 ∧ y2 ≤ 18) then 1 + y1 else -1))) := by
  have hI : cK pr1 h0 h0 := cK.refl hJ
  obtain ⟨hc, f0, f7, f12, f13, f14, w0, i0, u0, l0, d1, d2, d3, b7, s8, zs, tk⟩ := hF
  have Zh0 : ZS h0 := zs
  have rw : (0 : Int) ≤ h0 1 0 ∧ h0 1 0 ≤ 6 := hI.1.1 1 0
  refine sx_iload_n dX11_takes_0 rfl ?_
  refine sx_callSz lk_X11_241 dX11_takes_1 (vs := [_]) rfl rfl (Nat.le_of_ble_eq_true rfl) (Nat.le_of_ble_eq_true rfl) rfl (f_X11_isForm _ hI.1 _) (fun x2 h1 zx2 ph1 => ?_)
  obtain ⟨rfl, w_x2⟩ := ph1
  refine sx_if_eq (tgt := 17) dX11_takes_4 (by decide) (fun c3 => ?_) (fun c3 => ?_)
  ·
    refine sx_iconst dX11_takes_17 ⟨by decide, by decide⟩ ?_
    refine sx_ireturn dX11_takes_18 ?_
    exact ⟨_, rfl, ⟨hI, by (have q := tk (y1 * 19 + y2).toNat); split <;> omega⟩⟩
  ·
    refine sx_iload_n dX11_takes_7 rfl ?_
    refine sx_if_lt (tgt := 17) dX11_takes_8 (by decide) (fun c4 => ?_) (fun c4 => ?_)
    ·
      refine sx_iconst dX11_takes_17 ⟨by decide, by decide⟩ ?_
      refine sx_ireturn dX11_takes_18 ?_
      exact ⟨_, rfl, ⟨hI, by (have q := tk (y1 * 19 + y2).toNat); split <;> omega⟩⟩
    ·
      refine sx_iload_n dX11_takes_11 rfl ?_
      refine sx_bipush dX11_takes_12 ⟨by decide, by decide, by decide⟩ ?_
      refine sx_icmp_lt (tgt := 19) dX11_takes_14 (by decide) (fun c5 => ?_) (fun c5 => ?_)
      ·
        refine sx_aload_n dX11_takes_19 rfl ?_
        refine sx_getR (k := 1) (t := 1) cl_11 fl_X11_10 dX11_takes_20 s_0 (by decide) rfl (by decide) (by omega) ?_
        refine sx_getS (k := 15) (t := 12) cl_0 fl_X11_227 dX11_takes_23 s_1 (by decide) rfl (by decide) ?_
        refine sx_iload_n dX11_takes_26 rfl ?_
        refine sx_bipush dX11_takes_27 ⟨by decide, by decide, by decide⟩ ?_
        refine sx_imul dX11_takes_29 ?_
        refine sy_topw (by omega) ?_
        refine sx_iload_n dX11_takes_30 rfl ?_
        refine sx_iadd dX11_takes_31 ?_
        refine sy_topw (by omega) ?_
        refine sx_iaload dX11_takes_32 s_12 (by decide) (by decide) ⟨by omega, by omega⟩ ?_
        refine sx_ireturn dX11_takes_33 ?_
        exact ⟨_, rfl, ⟨hI, by (have q := tk (y1 * 19 + y2).toNat); split <;> omega⟩⟩
      ·
        refine sx_iconst dX11_takes_17 ⟨by decide, by decide⟩ ?_
        refine sx_ireturn dX11_takes_18 ?_
        exact ⟨_, rfl, ⟨hI, by (have q := tk (y1 * 19 + y2).toNat); split <;> omega⟩⟩
set_option maxRecDepth 20000 in
set_option maxHeartbeats 4000000 in
theorem f_X11_total {G : sw_G} (d : Nat) {h0 : sw_H} (hJ : cJ h0) (y1 : Int) (hF : FC h0) : sw_E G NH SH (d + 2) mX11_total 0 [some (sw_r 0), some (sw_i y1), none, none, none] [] h0 (sw_Qi (fun z h' => cK pr1 h0 h' ∧ z = (if 0 ≤ y1 ∧ y1 ≤ 2 then 0 else -1))) := by
  have hI : cK pr1 h0 h0 := cK.refl hJ
  obtain ⟨hc, f0, f7, f12, f13, f14, w0, i0, u0, l0, d1, d2, d3, b7, s8, zs, tk⟩ := hF
  have Zh0 : ZS h0 := zs
  have rw : (0 : Int) ≤ h0 1 0 ∧ h0 1 0 ≤ 6 := hI.1.1 1 0
  refine sx_iload_n dX11_total_0 rfl ?_
  refine sx_callSz lk_X11_241 dX11_total_1 (vs := [_]) rfl rfl (Nat.le_of_ble_eq_true rfl) (Nat.le_of_ble_eq_true rfl) rfl (f_X11_isForm _ hI.1 _) (fun x2 h1 zx2 ph1 => ?_)
  obtain ⟨rfl, w_x2⟩ := ph1
  refine sx_if_ne (tgt := 9) dX11_total_4 (by decide) (fun c3 => ?_) (fun c3 => ?_)
  ·
    refine sx_iconst dX11_total_9 ⟨by decide, by decide⟩ ?_
    refine sx_istore_n dX11_total_10 (by decide) ?_
    refine sx_aload_n dX11_total_11 rfl ?_
    refine sx_getS (k := 5) (t := 48) cl_11 fl_X11_36 dX11_total_12 s_0 (by decide) rfl (by decide) ?_
    refine sx_callVr lk_X11_147 cl_9 s_48 (by decide) dX11_total_15 (vs := []) rfl rfl (Nat.le_of_ble_eq_true rfl) (Nat.le_of_ble_eq_true rfl) ⟨_, rfl⟩ (f_X9_state _ hI.1) (fun x5 h4 ph4 => ?_)
    obtain ⟨rfl, m_x5⟩ := ph4
    have hx5m := m_x5
    obtain ⟨Sx50, Sx51, Sx52, bx5⟩ := s_St x5 hx5m
    have Bx50 : x5 < NH := show x5 < 290 by omega
    have Bx51 : x5 + 1 < NH := show x5 + 1 < 290 by omega
    have Bx52 : x5 + 2 < NH := show x5 + 2 < 290 by omega
    have zq_x5 := Zh0 _ hx5m
    refine sx_getI (k := 4) cl_8 fl_X11_150 dX11_total_18 Sx50 Bx50 rfl (by decide) ?_
    refine sy_top (fun v6 ev6 => ?_)
    refine sx_istore_n dX11_total_21 (by decide) ?_
    refine sx_iconst dX11_total_22 ⟨by decide, by decide⟩ ?_
    refine sx_istore dX11_total_23 (by decide) ?_
    refine sx_loop2 (fun (h : sw_H) (s : Int) (i : Int) => (cK pr1 h0 h) ∧ (h 0 1 = h0 0 1) ∧ (i = 0) ∧ (s = 0) ∧ (h 1 0 = h0 1 0)) (fun (h : sw_H) (s : Int) (i : Int) => (6 - i).toNat) (fun (h : sw_H) (s : Int) (i : Int) => sw_E G NH SH (d + 2) mX11_total 25 [some (sw_r 0), some (sw_i y1), some (sw_i s), some (sw_i v6), some (sw_i i)] [] h (sw_Qi (fun z h' => cK pr1 h0 h' ∧ z = (if 0 ≤ y1 ∧ y1 ≤ 2 then 0 else -1)))) ?_ _ _ _ ?_
    · rintro h7 s_8 i_9 ⟨Ih7, j10, j11, j12, j13⟩ ihh7
      try dsimp only at ihh7
      refine sx_iload dX11_total_25 rfl ?_
      refine sx_aload_n dX11_total_27 rfl ?_
      refine sx_getR (k := 1) (t := 1) cl_11 fl_X11_10 dX11_total_28 s_0 (by decide) rfl (by decide) (by omega) ?_
      refine sx_getI (k := 0) cl_0 fl_X11_121 dX11_total_31 s_1 (by decide) rfl (by decide) ?_
      have r14 : (0 : Int) ≤ h7 1 0 ∧ h7 1 0 ≤ 6 := Ih7.1.1 1 0
      refine sx_icmp_ge (tgt := 70) dX11_total_34 (by decide) (fun c15 => ?_) (fun c15 => ?_)
      ·
        refine sx_iload_n dX11_total_70 rfl ?_
        refine sx_ireturn dX11_total_71 ?_
        exact ⟨_, rfl, ⟨Ih7, by split <;> omega⟩⟩
      ·
        exfalso; omega
    · exact ⟨hI, by omega, by omega, by omega, by omega⟩
  ·
    refine sx_iconst dX11_total_7 ⟨by decide, by decide⟩ ?_
    refine sx_ireturn dX11_total_8 ?_
    exact ⟨_, rfl, ⟨hI, by split <;> omega⟩⟩
set_option maxRecDepth 20000 in
set_option maxHeartbeats 4000000 in
theorem f_X11_commonest {G : sw_G} (d : Nat) {h0 : sw_H} (hJ : cJ h0) (hF : FC h0) : sw_E G NH SH (d + 1) mX11_commonest 0 [some (sw_r 0), none, none, none, none] [] h0 (sw_Qi (fun z h' => cK pr1 h0 h' ∧ z = (-1))) := by
  have hI : cK pr1 h0 h0 := cK.refl hJ
  obtain ⟨hc, f0, f7, f12, f13, f14, w0, i0, u0, l0, d1, d2, d3, b7, s8, zs, tk⟩ := hF
  have Zh0 : ZS h0 := zs
  have rw : (0 : Int) ≤ h0 1 0 ∧ h0 1 0 ≤ 6 := hI.1.1 1 0
  refine sx_iconst dX11_commonest_0 ⟨by decide, by decide⟩ ?_
  refine sx_istore_n dX11_commonest_1 (by decide) ?_
  refine sx_iconst dX11_commonest_2 ⟨by decide, by decide⟩ ?_
  refine sx_istore_n dX11_commonest_3 (by decide) ?_
  refine sx_iconst dX11_commonest_4 ⟨by decide, by decide⟩ ?_
  refine sx_istore_n dX11_commonest_5 (by decide) ?_
  refine sx_loop3 (fun (h : sw_H) (a : Int) (b : Int) (i : Int) => (h0 = h) ∧ (0 ≤ i) ∧ (a = -1) ∧ (b = 0)) (fun (h : sw_H) (a : Int) (b : Int) (i : Int) => (15 - i).toNat) (fun (h : sw_H) (a : Int) (b : Int) (i : Int) => sw_E G NH SH (d + 1) mX11_commonest 6 [some (sw_r 0), some (sw_i a), some (sw_i b), some (sw_i i), none] [] h (sw_Qi (fun z h' => cK pr1 h0 h' ∧ z = (-1)))) ?_ _ _ _ _ ?_
  · rintro h1 a_2 b_3 i_4 ⟨rfl, j5, j6, j7⟩ ihh1
    try dsimp only at ihh1
    refine sx_iload_n dX11_commonest_6 rfl ?_
    refine sx_bipush dX11_commonest_7 ⟨by decide, by decide, by decide⟩ ?_
    refine sx_icmp_ge (tgt := 39) dX11_commonest_9 (by decide) (fun c8 => ?_) (fun c8 => ?_)
    ·
      refine sx_iload_n dX11_commonest_39 rfl ?_
      refine sx_ireturn dX11_commonest_40 ?_
      exact ⟨_, rfl, ⟨hI, by first | omega | (exfalso; omega)⟩⟩
    ·
      refine sx_aload_n dX11_commonest_12 rfl ?_
      refine sx_getR (k := 1) (t := 1) cl_11 fl_X11_10 dX11_commonest_13 s_0 (by decide) rfl (by decide) (by omega) ?_
      refine sx_iload_n dX11_commonest_16 rfl ?_
      refine sx_callVi lk_X11_270 cl_0 s_1 (by decide) dX11_commonest_17 (vs := [_]) rfl rfl (Nat.le_of_ble_eq_true rfl) (Nat.le_of_ble_eq_true rfl) rfl (f_X0_countOf_1 _ hI.1 _ i0) (fun x10 h9 ph9 => ?_)
      obtain ⟨rfl, k_x10⟩ := ph9
      refine sx_istore dX11_commonest_20 (by decide) ?_
      refine sx_iload dX11_commonest_22 rfl ?_
      refine sx_iload_n dX11_commonest_24 rfl ?_
      refine sx_icmp_le (tgt := 33) dX11_commonest_25 (by decide) (fun c11 => ?_) (fun c11 => ?_)
      ·
        refine sx_iinc dX11_commonest_33 (by decide) rfl ?_
        rw [sw_w_id (by omega) (by omega)]
        refine sx_goto (tgt := 6) dX11_commonest_36 (by decide) ?_
        refine sx_kill 4 ?_
        exact ihh1 _ _ _ _ ⟨rfl, by omega, by omega, by omega⟩ (by exact sy_dec (by omega) (by omega))
      ·
        refine sx_iload dX11_commonest_28 rfl ?_
        refine sx_istore_n dX11_commonest_30 (by decide) ?_
        refine sx_iload_n dX11_commonest_31 rfl ?_
        refine sx_istore_n dX11_commonest_32 (by decide) ?_
        refine sx_iinc dX11_commonest_33 (by decide) rfl ?_
        rw [sw_w_id (by omega) (by omega)]
        refine sx_goto (tgt := 6) dX11_commonest_36 (by decide) ?_
        refine sx_kill 4 ?_
        exact ihh1 _ _ _ _ ⟨rfl, by omega, by omega, by omega⟩ (by exact sy_dec (by omega) (by omega))
  · exact ⟨rfl, by omega, by omega, by omega⟩
set_option maxRecDepth 20000 in
set_option maxHeartbeats 4000000 in
theorem f_X11_pure {G : sw_G} (d : Nat) {h0 : sw_H} (hJ : cJ h0) (hF : FC h0) : sw_E G NH SH (d + 2) mX11_pure 0 [some (sw_r 0), none, none] [] h0 (sw_Qi (fun z h' => cK pr1 h0 h' ∧ z = (0))) := by
  have hI : cK pr1 h0 h0 := cK.refl hJ
  obtain ⟨hc, f0, f7, f12, f13, f14, w0, i0, u0, l0, d1, d2, d3, b7, s8, zs, tk⟩ := hF
  have Zh0 : ZS h0 := zs
  have rw : (0 : Int) ≤ h0 1 0 ∧ h0 1 0 ≤ 6 := hI.1.1 1 0
  refine sx_iconst dX11_pure_0 ⟨by decide, by decide⟩ ?_
  refine sx_istore_n dX11_pure_1 (by decide) ?_
  refine sx_iconst dX11_pure_2 ⟨by decide, by decide⟩ ?_
  refine sx_istore_n dX11_pure_3 (by decide) ?_
  refine sx_loop2 (fun (h : sw_H) (b : Int) (i : Int) => (h0 = h) ∧ (i = 0) ∧ (b = 0)) (fun (h : sw_H) (b : Int) (i : Int) => (6 - i).toNat) (fun (h : sw_H) (b : Int) (i : Int) => sw_E G NH SH (d + 2) mX11_pure 4 [some (sw_r 0), some (sw_i b), some (sw_i i)] [] h (sw_Qi (fun z h' => cK pr1 h0 h' ∧ z = (0)))) ?_ _ _ _ ?_
  · rintro h1 b_2 i_3 ⟨rfl, j4, j5⟩ ihh1
    try dsimp only at ihh1
    refine sx_iload_n dX11_pure_4 rfl ?_
    refine sx_aload_n dX11_pure_5 rfl ?_
    refine sx_getR (k := 1) (t := 1) cl_11 fl_X11_10 dX11_pure_6 s_0 (by decide) rfl (by decide) (by omega) ?_
    refine sx_getI (k := 0) cl_0 fl_X11_121 dX11_pure_9 s_1 (by decide) rfl (by decide) ?_
    have r6 : (0 : Int) ≤ h0 1 0 ∧ h0 1 0 ≤ 6 := hI.1.1 1 0
    refine sx_icmp_ge (tgt := 38) dX11_pure_12 (by decide) (fun c7 => ?_) (fun c7 => ?_)
    ·
      refine sx_iload_n dX11_pure_38 rfl ?_
      refine sx_ireturn dX11_pure_39 ?_
      exact ⟨_, rfl, ⟨hI, by first | omega | (exfalso; omega)⟩⟩
    ·
      exfalso; omega
  · exact ⟨rfl, by omega, by omega⟩
set_option maxRecDepth 20000 in
set_option maxHeartbeats 4000000 in
theorem f_X11_odds {G : sw_G} (d : Nat) {h0 : sw_H} (hJ : cJ h0) (y1 y2 : Int) (hF : FC h0) : sw_E G NH SH (d + 2) mX11_odds 0 [some (sw_r 0), some (sw_i y1), some (sw_i y2), none, none, none, none] [] h0 (sw_Qi (fun z h' => cK pr1 h0 h' ∧ z = (if (0 ≤ y1 ∧ y1 ≤ 4) ∧ (0 ≤ y2 ∧ y2 ≤ 1) then 1 else -1))) := by
  have hI : cK pr1 h0 h0 := cK.refl hJ
  obtain ⟨hc, f0, f7, f12, f13, f14, w0, i0, u0, l0, d1, d2, d3, b7, s8, zs, tk⟩ := hF
  have Zh0 : ZS h0 := zs
  have rw : (0 : Int) ≤ h0 1 0 ∧ h0 1 0 ≤ 6 := hI.1.1 1 0
  refine sx_iload_n dX11_odds_0 rfl ?_
  refine sx_if_lt (tgt := 18) dX11_odds_1 (by decide) (fun c1 => ?_) (fun c1 => ?_)
  ·
    refine sx_iconst dX11_odds_18 ⟨by decide, by decide⟩ ?_
    refine sx_ireturn dX11_odds_19 ?_
    exact ⟨_, rfl, ⟨hI, by split <;> omega⟩⟩
  ·
    refine sx_iload_n dX11_odds_4 rfl ?_
    refine sx_iconst dX11_odds_5 ⟨by decide, by decide⟩ ?_
    refine sx_icmp_gt (tgt := 18) dX11_odds_6 (by decide) (fun c2 => ?_) (fun c2 => ?_)
    ·
      refine sx_iconst dX11_odds_18 ⟨by decide, by decide⟩ ?_
      refine sx_ireturn dX11_odds_19 ?_
      exact ⟨_, rfl, ⟨hI, by split <;> omega⟩⟩
    ·
      refine sx_iload_n dX11_odds_9 rfl ?_
      refine sx_if_lt (tgt := 18) dX11_odds_10 (by decide) (fun c3 => ?_) (fun c3 => ?_)
      ·
        refine sx_iconst dX11_odds_18 ⟨by decide, by decide⟩ ?_
        refine sx_ireturn dX11_odds_19 ?_
        exact ⟨_, rfl, ⟨hI, by split <;> omega⟩⟩
      ·
        refine sx_iload_n dX11_odds_13 rfl ?_
        refine sx_iconst dX11_odds_14 ⟨by decide, by decide⟩ ?_
        refine sx_icmp_le (tgt := 20) dX11_odds_15 (by decide) (fun c4 => ?_) (fun c4 => ?_)
        ·
          refine sx_iload_n dX11_odds_20 rfl ?_
          refine sx_if_ne (tgt := 37) dX11_odds_21 (by decide) (fun c5 => ?_) (fun c5 => ?_)
          ·
            refine sx_bipush dX11_odds_37 ⟨by decide, by decide, by decide⟩ ?_
            refine sx_istore_n dX11_odds_39 (by decide) ?_
            refine sx_iload_n dX11_odds_40 rfl ?_
            refine sx_bipush dX11_odds_41 ⟨by decide, by decide, by decide⟩ ?_
            refine sx_bipush dX11_odds_43 ⟨by decide, by decide, by decide⟩ ?_
            refine sx_aload_n dX11_odds_45 rfl ?_
            refine sx_getR (k := 1) (t := 1) cl_11 fl_X11_10 dX11_odds_46 s_0 (by decide) rfl (by decide) (by omega) ?_
            refine sx_getI (k := 3) cl_0 fl_X11_187 dX11_odds_49 s_1 (by decide) rfl (by decide) ?_
            refine sx_isub dX11_odds_52 ?_
            refine sy_topw (by omega) ?_
            refine sx_callSi lk_X11_282 dX11_odds_53 (vs := [_, _]) rfl rfl (Nat.le_of_ble_eq_true rfl) (Nat.le_of_ble_eq_true rfl) rfl (f_X11_commonDivisor _ hI.1 _ _ (by omega) (by omega)) (fun x7 h6 ph6 => ?_)
            obtain ⟨rfl, w_x7⟩ := ph6
            refine sx_idiv dX11_odds_56 (by omega) ?_
            refine sy_top (fun v8 ev8 => ?_)
            refine sx_istore dX11_odds_57 (by decide) ?_
            have v1 : v8 = 1 := by rw [ev8, w_x7]; first | decide | (rw [show (100 : Int) = 100 by omega]; decide)
            refine sx_iconst dX11_odds_59 ⟨by decide, by decide⟩ ?_
            refine sx_istore dX11_odds_60 (by decide) ?_
            refine sx_iconst dX11_odds_62 ⟨by decide, by decide⟩ ?_
            refine sx_istore dX11_odds_63 (by decide) ?_
            refine sx_loop2 (fun (h : sw_H) (p : Int) (i : Int) => (h0 = h) ∧ (0 ≤ i) ∧ (p = 1)) (fun (h : sw_H) (p : Int) (i : Int) => (4 - i).toNat) (fun (h : sw_H) (p : Int) (i : Int) => sw_E G NH SH (d + 2) mX11_odds 65 [some (sw_r 0), some (sw_i y1), some (sw_i y2), some (sw_i 100), some (sw_i v8), some (sw_i p), some (sw_i i)] [] h (sw_Qi (fun z h' => cK pr1 h0 h' ∧ z = (if (0 ≤ y1 ∧ y1 ≤ 4) ∧ (0 ≤ y2 ∧ y2 ≤ 1) then 1 else -1)))) ?_ _ _ _ ?_
            · rintro h9 p_10 i_11 ⟨rfl, ji, jp⟩ ihh9
              try dsimp only at ihh9
              refine sx_iload dX11_odds_65 rfl ?_
              refine sx_iload_n dX11_odds_67 rfl ?_
              refine sx_icmp_ge (tgt := 84) dX11_odds_68 (by decide) (fun c12 => ?_) (fun c12 => ?_)
              ·
                refine sx_iload dX11_odds_84 rfl ?_
                refine sx_ireturn dX11_odds_86 ?_
                exact ⟨_, rfl, ⟨hI, by split <;> omega⟩⟩
              ·
                have pv : p_10 * v8 = 1 := by rw [jp, v1]; rfl
                refine sx_iload dX11_odds_71 rfl ?_
                refine sx_iload dX11_odds_73 rfl ?_
                refine sx_imul dX11_odds_75 ?_
                refine sy_topw (by omega) ?_
                refine sy_top (fun v13 ev13 => ?_)
                refine sx_istore dX11_odds_76 (by decide) ?_
                refine sx_iinc dX11_odds_78 (by decide) rfl ?_
                rw [sw_w_id (by omega) (by omega)]
                refine sx_goto (tgt := 65) dX11_odds_81 (by decide) ?_
                exact ihh9 _ _ _ ⟨rfl, by omega, by omega⟩ (by exact sy_dec (by omega) (by omega))
            · exact ⟨rfl, by omega, by omega⟩
          ·
            refine sx_bipush dX11_odds_24 ⟨by decide, by decide, by decide⟩ ?_
            refine sx_aload_n dX11_odds_26 rfl ?_
            refine sx_getR (k := 1) (t := 1) cl_11 fl_X11_10 dX11_odds_27 s_0 (by decide) rfl (by decide) (by omega) ?_
            refine sx_getI (k := 3) cl_0 fl_X11_187 dX11_odds_30 s_1 (by decide) rfl (by decide) ?_
            refine sx_isub dX11_odds_33 ?_
            refine sy_topw (by omega) ?_
            refine sx_goto (tgt := 39) dX11_odds_34 (by decide) ?_
            refine sy_top (fun v14 ev14 => ?_)
            refine sx_istore_n dX11_odds_39 (by decide) ?_
            refine sx_iload_n dX11_odds_40 rfl ?_
            refine sx_bipush dX11_odds_41 ⟨by decide, by decide, by decide⟩ ?_
            refine sx_bipush dX11_odds_43 ⟨by decide, by decide, by decide⟩ ?_
            refine sx_aload_n dX11_odds_45 rfl ?_
            refine sx_getR (k := 1) (t := 1) cl_11 fl_X11_10 dX11_odds_46 s_0 (by decide) rfl (by decide) (by omega) ?_
            refine sx_getI (k := 3) cl_0 fl_X11_187 dX11_odds_49 s_1 (by decide) rfl (by decide) ?_
            refine sx_isub dX11_odds_52 ?_
            refine sy_topw (by omega) ?_
            refine sx_callSi lk_X11_282 dX11_odds_53 (vs := [_, _]) rfl rfl (Nat.le_of_ble_eq_true rfl) (Nat.le_of_ble_eq_true rfl) rfl (f_X11_commonDivisor _ hI.1 _ _ (by omega) (by omega)) (fun x16 h15 ph15 => ?_)
            obtain ⟨rfl, w_x16⟩ := ph15
            refine sx_idiv dX11_odds_56 (by omega) ?_
            refine sy_top (fun v17 ev17 => ?_)
            refine sx_istore dX11_odds_57 (by decide) ?_
            have v1 : v17 = 1 := by rw [ev17, w_x16]; first | decide | (rw [show (v14 : Int) = 100 by omega]; decide)
            refine sx_iconst dX11_odds_59 ⟨by decide, by decide⟩ ?_
            refine sx_istore dX11_odds_60 (by decide) ?_
            refine sx_iconst dX11_odds_62 ⟨by decide, by decide⟩ ?_
            refine sx_istore dX11_odds_63 (by decide) ?_
            refine sx_loop2 (fun (h : sw_H) (p : Int) (i : Int) => (h0 = h) ∧ (0 ≤ i) ∧ (p = 1)) (fun (h : sw_H) (p : Int) (i : Int) => (4 - i).toNat) (fun (h : sw_H) (p : Int) (i : Int) => sw_E G NH SH (d + 2) mX11_odds 65 [some (sw_r 0), some (sw_i y1), some (sw_i y2), some (sw_i v14), some (sw_i v17), some (sw_i p), some (sw_i i)] [] h (sw_Qi (fun z h' => cK pr1 h0 h' ∧ z = (if (0 ≤ y1 ∧ y1 ≤ 4) ∧ (0 ≤ y2 ∧ y2 ≤ 1) then 1 else -1)))) ?_ _ _ _ ?_
            · rintro h18 p_19 i_20 ⟨rfl, ji, jp⟩ ihh18
              try dsimp only at ihh18
              refine sx_iload dX11_odds_65 rfl ?_
              refine sx_iload_n dX11_odds_67 rfl ?_
              refine sx_icmp_ge (tgt := 84) dX11_odds_68 (by decide) (fun c21 => ?_) (fun c21 => ?_)
              ·
                refine sx_iload dX11_odds_84 rfl ?_
                refine sx_ireturn dX11_odds_86 ?_
                exact ⟨_, rfl, ⟨hI, by split <;> omega⟩⟩
              ·
                have pv : p_19 * v17 = 1 := by rw [jp, v1]; rfl
                refine sx_iload dX11_odds_71 rfl ?_
                refine sx_iload dX11_odds_73 rfl ?_
                refine sx_imul dX11_odds_75 ?_
                refine sy_topw (by omega) ?_
                refine sy_top (fun v22 ev22 => ?_)
                refine sx_istore dX11_odds_76 (by decide) ?_
                refine sx_iinc dX11_odds_78 (by decide) rfl ?_
                rw [sw_w_id (by omega) (by omega)]
                refine sx_goto (tgt := 65) dX11_odds_81 (by decide) ?_
                exact ihh18 _ _ _ ⟨rfl, by omega, by omega⟩ (by exact sy_dec (by omega) (by omega))
            · exact ⟨rfl, by omega, by omega⟩
        ·
          refine sx_iconst dX11_odds_18 ⟨by decide, by decide⟩ ?_
          refine sx_ireturn dX11_odds_19 ?_
          exact ⟨_, rfl, ⟨hI, by split <;> omega⟩⟩
set_option maxRecDepth 20000 in
set_option maxHeartbeats 4000000 in
theorem f_X11_image {G : sw_G} (d : Nat) {h0 : sw_H} (hJ : cJ h0) (y1 : Int) (hF : FC h0) : sw_E G NH SH (d + 2) mX11_image 0 [some (sw_r 0), some (sw_i y1)] [] h0 (sw_Qi (fun z h' => cK pr1 h0 h' ∧ z = (if 0 ≤ y1 ∧ y1 ≤ 2 then 0 else -1))) := by
  have hI : cK pr1 h0 h0 := cK.refl hJ
  obtain ⟨hc, f0, f7, f12, f13, f14, w0, i0, u0, l0, d1, d2, d3, b7, s8, zs, tk⟩ := hF
  have Zh0 : ZS h0 := zs
  have rw : (0 : Int) ≤ h0 1 0 ∧ h0 1 0 ≤ 6 := hI.1.1 1 0
  refine sx_iload_n dX11_image_0 rfl ?_
  refine sx_if_lt (tgt := 9) dX11_image_1 (by decide) (fun c1 => ?_) (fun c1 => ?_)
  ·
    refine sx_iconst dX11_image_9 ⟨by decide, by decide⟩ ?_
    refine sx_ireturn dX11_image_10 ?_
    exact ⟨_, rfl, ⟨hI, by split <;> omega⟩⟩
  ·
    refine sx_iload_n dX11_image_4 rfl ?_
    refine sx_iconst dX11_image_5 ⟨by decide, by decide⟩ ?_
    refine sx_icmp_lt (tgt := 11) dX11_image_6 (by decide) (fun c2 => ?_) (fun c2 => ?_)
    ·
      refine sx_aload_n dX11_image_11 rfl ?_
      refine sx_dupr dX11_image_12 ?_
      refine sx_getI (k := 7) cl_11 fl_X11_112 dX11_image_13 s_0 (by decide) rfl (by decide) ?_
      refine sx_iconst dX11_image_16 ⟨by decide, by decide⟩ ?_
      refine sx_iload_n dX11_image_17 rfl ?_
      refine sx_ishl dX11_image_18 ?_
      refine sx_ior dX11_image_19 ?_
      refine sy_putI (k := 7) cl_11 fl_X11_112 dX11_image_20 s_0 (by decide) rfl (by decide) rfl rfl (fun h3 eh3 => ?_)
      have Ih3 := hI.up eh3 trivial rfl rfl
      have Zh3 : ZS h3 := ZS_off Zh0 eh3 ZS_0
      have th3_0_1 := eh3.2 (0) 1 (by decide)
      have th3_0_2 := eh3.2 (0) 2 (by decide)
      have th3_1_0 := eh3.2 (1) 0 (by decide)
      refine sx_aload_n dX11_image_23 rfl ?_
      refine sx_getS (k := 6) (t := 173) cl_11 fl_X11_42 dX11_image_24 s_0 (by decide) rfl (by decide) ?_
      refine sx_iload_n dX11_image_27 rfl ?_
      refine sx_aaload dX11_image_28 s_173 (by decide) (by decide) ⟨by omega, by omega⟩ ?_
      refine sy_refn (fun b4 eb4 => ?_)
      have hb4m : b4 ∈ stL := by rw [eb4]; exact box_mem (by omega) (by omega)
      obtain ⟨Sb40, Sb41, Sb42, bb4⟩ := s_St b4 hb4m
      have Bb40 : b4 < NH := show b4 < 290 by omega
      have Bb41 : b4 + 1 < NH := show b4 + 1 < 290 by omega
      have Bb42 : b4 + 2 < NH := show b4 + 2 < 290 by omega
      have zq_b4 := Zh3 _ hb4m
      refine sx_aload_n dX11_image_29 rfl ?_
      refine sx_getS (k := 5) (t := 48) cl_11 fl_X11_36 dX11_image_30 s_0 (by decide) rfl (by decide) ?_
      refine sx_callVr lk_X11_147 cl_9 s_48 (by decide) dX11_image_33 (vs := []) rfl rfl (Nat.le_of_ble_eq_true rfl) (Nat.le_of_ble_eq_true rfl) ⟨_, rfl⟩ (f_X9_state _ Ih3.1) (fun x6 h5 ph5 => ?_)
      obtain ⟨rfl, m_x6⟩ := ph5
      have hx6m := m_x6
      obtain ⟨Sx60, Sx61, Sx62, bx6⟩ := s_St x6 hx6m
      have Bx60 : x6 < NH := show x6 < 290 by omega
      have Bx61 : x6 + 1 < NH := show x6 + 1 < 290 by omega
      have Bx62 : x6 + 2 < NH := show x6 + 2 < 290 by omega
      have zq_x6 := Zh3 _ hx6m
      refine sx_callVv lk_X11_314 cl_8 Sb40 Bb40 dX11_image_36 (vs := [_]) rfl rfl (Nat.le_of_ble_eq_true rfl) (Nat.le_of_ble_eq_true rfl) rfl (f_X8_copyFrom _ Ih3.1 (b4) hb4m (x6) hx6m Zh3) (fun h7 ph7 => ?_)
      obtain ⟨Kh7, z_h7⟩ := ph7
      have Ih7 := Ih3.tr Kh7 sb_pr1_prS
      have th7_0_1 := Kh7.2 (0) 1 rfl
      have th7_0_2 := Kh7.2 (0) 2 rfl
      have th7_1_0 := Kh7.2 (1) 0 rfl
      have Zh7 := z_h7
      refine sx_aload_n dX11_image_39 rfl ?_
      refine sx_getS (k := 6) (t := 173) cl_11 fl_X11_42 dX11_image_40 s_0 (by decide) rfl (by decide) ?_
      refine sx_iload_n dX11_image_43 rfl ?_
      refine sx_aaload dX11_image_44 s_173 (by decide) (by decide) ⟨by omega, by omega⟩ ?_
      refine sy_refn (fun b9 eb9 => ?_)
      have hb9m : b9 ∈ stL := by rw [eb9]; exact box_mem (by omega) (by omega)
      obtain ⟨Sb90, Sb91, Sb92, bb9⟩ := s_St b9 hb9m
      have Bb90 : b9 < NH := show b9 < 290 by omega
      have Bb91 : b9 + 1 < NH := show b9 + 1 < 290 by omega
      have Bb92 : b9 + 2 < NH := show b9 + 2 < 290 by omega
      have zq_b9 := Zh7 _ hb9m
      refine sx_getI (k := 1) cl_8 fl_X11_163 dX11_image_45 Sb90 Bb90 rfl (by decide) ?_
      have r10 : (0 : Int) ≤ h7 (b9) 1 ∧ h7 (b9) 1 ≤ 24 := (okc_of (St_ok1 b9 hb9m).1) ▸ Ih7.1.1 (b9) 1
      refine sx_ireturn dX11_image_48 ?_
      exact ⟨_, rfl, ⟨Ih7, by split <;> omega⟩⟩
    ·
      refine sx_iconst dX11_image_9 ⟨by decide, by decide⟩ ?_
      refine sx_ireturn dX11_image_10 ?_
      exact ⟨_, rfl, ⟨hI, by split <;> omega⟩⟩
set_option maxRecDepth 20000 in
set_option maxHeartbeats 4000000 in
theorem f_X11_back {G : sw_G} (d : Nat) {h0 : sw_H} (hJ : cJ h0) (y1 : Int) (hF : FC h0) : sw_E G NH SH (d + 2) mX11_back 0 [some (sw_r 0), some (sw_i y1)] [] h0 (sw_Qi (fun z h' => cK pr1 h0 h' ∧ z = (-1))) := by
  have hI : cK pr1 h0 h0 := cK.refl hJ
  obtain ⟨hc, f0, f7, f12, f13, f14, w0, i0, u0, l0, d1, d2, d3, b7, s8, zs, tk⟩ := hF
  have Zh0 : ZS h0 := zs
  have rw : (0 : Int) ≤ h0 1 0 ∧ h0 1 0 ≤ 6 := hI.1.1 1 0
  refine sx_iload_n dX11_back_0 rfl ?_
  refine sx_if_lt (tgt := 20) dX11_back_1 (by decide) (fun c1 => ?_) (fun c1 => ?_)
  ·
    refine sx_iconst dX11_back_20 ⟨by decide, by decide⟩ ?_
    refine sx_ireturn dX11_back_21 ?_
    exact ⟨_, rfl, ⟨hI, by first | omega | (exfalso; omega)⟩⟩
  ·
    refine sx_iload_n dX11_back_4 rfl ?_
    refine sx_iconst dX11_back_5 ⟨by decide, by decide⟩ ?_
    refine sx_icmp_ge (tgt := 20) dX11_back_6 (by decide) (fun c2 => ?_) (fun c2 => ?_)
    ·
      refine sx_iconst dX11_back_20 ⟨by decide, by decide⟩ ?_
      refine sx_ireturn dX11_back_21 ?_
      exact ⟨_, rfl, ⟨hI, by first | omega | (exfalso; omega)⟩⟩
    ·
      refine sx_aload_n dX11_back_9 rfl ?_
      refine sx_getI (k := 7) cl_11 fl_X11_112 dX11_back_10 s_0 (by decide) rfl (by decide) ?_
      refine sx_iload_n dX11_back_13 rfl ?_
      refine sx_ishr dX11_back_14 ?_
      refine sx_iconst dX11_back_15 ⟨by decide, by decide⟩ ?_
      refine sx_iand dX11_back_16 ?_
      refine sx_if_ne (tgt := 22) dX11_back_17 (by decide) (fun c3 => ?_) (fun c3 => ?_)
      ·
        exact absurd (shr0 f7 (by omega)) c3
      ·
        refine sx_iconst dX11_back_20 ⟨by decide, by decide⟩ ?_
        refine sx_ireturn dX11_back_21 ?_
        exact ⟨_, rfl, ⟨hI, by first | omega | (exfalso; omega)⟩⟩
set_option maxRecDepth 20000 in
set_option maxHeartbeats 4000000 in
theorem f_X11_about {G : sw_G} (d : Nat) {h0 : sw_H} (hJ : cJ h0) (y1 : Int) (hF : FC h0) : sw_E G NH SH (d + 1) mX11_about 0 [some (sw_r 0), some (sw_i y1)] [] h0 (sw_Qi (fun z h' => cK pr1 h0 h' ∧ z = (if 0 ≤ y1 ∧ y1 ≤ 13 then 0 else -1))) := by
  have hI : cK pr1 h0 h0 := cK.refl hJ
  obtain ⟨hc, f0, f7, f12, f13, f14, w0, i0, u0, l0, d1, d2, d3, b7, s8, zs, tk⟩ := hF
  have Zh0 : ZS h0 := zs
  have rw : (0 : Int) ≤ h0 1 0 ∧ h0 1 0 ≤ 6 := hI.1.1 1 0
  refine sx_iload_n dX11_about_0 rfl ?_
  refine sx_tsw (dt := 198) (ts := [72, 80, 88, 99, 110, 121, 132, 140, 156, 164, 169, 174, 182, 190]) dX11_about_1 (by decide) (by decide) (by decide) (fun c1 => ?_) (And.intro (fun c1 => ?_) (And.intro (fun c1 => ?_) (And.intro (fun c1 => ?_) (And.intro (fun c1 => ?_) (And.intro (fun c1 => ?_) (And.intro (fun c1 => ?_) (And.intro (fun c1 => ?_) (And.intro (fun c1 => ?_) (And.intro (fun c1 => ?_) (And.intro (fun c1 => ?_) (And.intro (fun c1 => ?_) (And.intro (fun c1 => ?_) (And.intro (fun c1 => ?_) (And.intro (fun c1 => ?_) trivial))))))))))))))
  ·
    refine sx_iconst dX11_about_198 ⟨by decide, by decide⟩ ?_
    refine sx_ireturn dX11_about_199 ?_
    exact ⟨_, rfl, ⟨hI, by split <;> omega⟩⟩
  ·
    refine sx_aload_n dX11_about_72 rfl ?_
    refine sx_getR (k := 1) (t := 1) cl_11 fl_X11_10 dX11_about_73 s_0 (by decide) rfl (by decide) (by omega) ?_
    refine sx_getI (k := 0) cl_0 fl_X11_121 dX11_about_76 s_1 (by decide) rfl (by decide) ?_
    have r2 : (0 : Int) ≤ h0 1 0 ∧ h0 1 0 ≤ 6 := hI.1.1 1 0
    refine sx_ireturn dX11_about_79 ?_
    exact ⟨_, rfl, ⟨hI, by split <;> omega⟩⟩
  ·
    refine sx_aload_n dX11_about_80 rfl ?_
    refine sx_getR (k := 1) (t := 1) cl_11 fl_X11_10 dX11_about_81 s_0 (by decide) rfl (by decide) (by omega) ?_
    refine sx_getI (k := 1) cl_0 fl_X11_318 dX11_about_84 s_1 (by decide) rfl (by decide) ?_
    have r3 : (0 : Int) ≤ h0 1 1 ∧ h0 1 1 ≤ 60 := hI.1.1 1 1
    refine sx_ireturn dX11_about_87 ?_
    exact ⟨_, rfl, ⟨hI, by split <;> omega⟩⟩
  ·
    refine sx_aload_n dX11_about_88 rfl ?_
    refine sx_getS (k := 5) (t := 48) cl_11 fl_X11_36 dX11_about_89 s_0 (by decide) rfl (by decide) ?_
    refine sx_callVr lk_X11_147 cl_9 s_48 (by decide) dX11_about_92 (vs := []) rfl rfl (Nat.le_of_ble_eq_true rfl) (Nat.le_of_ble_eq_true rfl) ⟨_, rfl⟩ (f_X9_state _ hI.1) (fun x5 h4 ph4 => ?_)
    obtain ⟨rfl, m_x5⟩ := ph4
    have hx5m := m_x5
    obtain ⟨Sx50, Sx51, Sx52, bx5⟩ := s_St x5 hx5m
    have Bx50 : x5 < NH := show x5 < 290 by omega
    have Bx51 : x5 + 1 < NH := show x5 + 1 < 290 by omega
    have Bx52 : x5 + 2 < NH := show x5 + 2 < 290 by omega
    have zq_x5 := Zh0 _ hx5m
    refine sx_getI (k := 1) cl_8 fl_X11_163 dX11_about_95 Sx50 Bx50 rfl (by decide) ?_
    have r6 : (0 : Int) ≤ h0 (x5) 1 ∧ h0 (x5) 1 ≤ 24 := (okc_of (St_ok1 x5 hx5m).1) ▸ hI.1.1 (x5) 1
    refine sx_ireturn dX11_about_98 ?_
    exact ⟨_, rfl, ⟨hI, by split <;> omega⟩⟩
  ·
    refine sx_aload_n dX11_about_99 rfl ?_
    refine sx_getS (k := 5) (t := 48) cl_11 fl_X11_36 dX11_about_100 s_0 (by decide) rfl (by decide) ?_
    refine sx_callVr lk_X11_147 cl_9 s_48 (by decide) dX11_about_103 (vs := []) rfl rfl (Nat.le_of_ble_eq_true rfl) (Nat.le_of_ble_eq_true rfl) ⟨_, rfl⟩ (f_X9_state _ hI.1) (fun x8 h7 ph7 => ?_)
    obtain ⟨rfl, m_x8⟩ := ph7
    have hx8m := m_x8
    obtain ⟨Sx80, Sx81, Sx82, bx8⟩ := s_St x8 hx8m
    have Bx80 : x8 < NH := show x8 < 290 by omega
    have Bx81 : x8 + 1 < NH := show x8 + 1 < 290 by omega
    have Bx82 : x8 + 2 < NH := show x8 + 2 < 290 by omega
    have zq_x8 := Zh0 _ hx8m
    refine sx_getI (k := 3) cl_8 fl_X11_181 dX11_about_106 Sx80 Bx80 rfl (by decide) ?_
    have r9 : (0 : Int) ≤ h0 (x8) 3 ∧ h0 (x8) 3 ≤ 42 := (okc_of (St_ok1 x8 hx8m).2.1) ▸ hI.1.1 (x8) 3
    refine sx_ireturn dX11_about_109 ?_
    exact ⟨_, rfl, ⟨hI, by split <;> omega⟩⟩
  ·
    refine sx_aload_n dX11_about_110 rfl ?_
    refine sx_getS (k := 5) (t := 48) cl_11 fl_X11_36 dX11_about_111 s_0 (by decide) rfl (by decide) ?_
    refine sx_callVr lk_X11_147 cl_9 s_48 (by decide) dX11_about_114 (vs := []) rfl rfl (Nat.le_of_ble_eq_true rfl) (Nat.le_of_ble_eq_true rfl) ⟨_, rfl⟩ (f_X9_state _ hI.1) (fun x11 h10 ph10 => ?_)
    obtain ⟨rfl, m_x11⟩ := ph10
    have hx11m := m_x11
    obtain ⟨Sx110, Sx111, Sx112, bx11⟩ := s_St x11 hx11m
    have Bx110 : x11 < NH := show x11 < 290 by omega
    have Bx111 : x11 + 1 < NH := show x11 + 1 < 290 by omega
    have Bx112 : x11 + 2 < NH := show x11 + 2 < 290 by omega
    have zq_x11 := Zh0 _ hx11m
    refine sx_getI (k := 4) cl_8 fl_X11_150 dX11_about_117 Sx110 Bx110 rfl (by decide) ?_
    refine sx_ireturn dX11_about_120 ?_
    exact ⟨_, rfl, ⟨hI, by split <;> omega⟩⟩
  ·
    refine sx_aload_n dX11_about_121 rfl ?_
    refine sx_getS (k := 5) (t := 48) cl_11 fl_X11_36 dX11_about_122 s_0 (by decide) rfl (by decide) ?_
    refine sx_callVr lk_X11_147 cl_9 s_48 (by decide) dX11_about_125 (vs := []) rfl rfl (Nat.le_of_ble_eq_true rfl) (Nat.le_of_ble_eq_true rfl) ⟨_, rfl⟩ (f_X9_state _ hI.1) (fun x13 h12 ph12 => ?_)
    obtain ⟨rfl, m_x13⟩ := ph12
    have hx13m := m_x13
    obtain ⟨Sx130, Sx131, Sx132, bx13⟩ := s_St x13 hx13m
    have Bx130 : x13 < NH := show x13 < 290 by omega
    have Bx131 : x13 + 1 < NH := show x13 + 1 < 290 by omega
    have Bx132 : x13 + 2 < NH := show x13 + 2 < 290 by omega
    have zq_x13 := Zh0 _ hx13m
    refine sx_getI (k := 5) cl_8 fl_X11_321 dX11_about_128 Sx130 Bx130 rfl (by decide) ?_
    refine sx_ireturn dX11_about_131 ?_
    exact ⟨_, rfl, ⟨hI, by split <;> omega⟩⟩
  ·
    refine sx_aload_n dX11_about_132 rfl ?_
    refine sx_getS (k := 5) (t := 48) cl_11 fl_X11_36 dX11_about_133 s_0 (by decide) rfl (by decide) ?_
    refine sx_getI (k := 2) cl_9 fl_X11_324 dX11_about_136 s_48 (by decide) rfl (by decide) ?_
    have r14 : (0 : Int) ≤ h0 48 2 ∧ h0 48 2 ≤ 40 := hI.1.1 48 2
    refine sx_ireturn dX11_about_139 ?_
    exact ⟨_, rfl, ⟨hI, by split <;> omega⟩⟩
  ·
    refine sx_aload_n dX11_about_140 rfl ?_
    refine sx_getS (k := 5) (t := 48) cl_11 fl_X11_36 dX11_about_141 s_0 (by decide) rfl (by decide) ?_
    refine sx_getI (k := 3) cl_9 fl_X11_327 dX11_about_144 s_48 (by decide) rfl (by decide) ?_
    have r15 : (0 : Int) ≤ h0 48 3 ∧ h0 48 3 ≤ 40 := hI.1.1 48 3
    refine sx_aload_n dX11_about_147 rfl ?_
    refine sx_getS (k := 5) (t := 48) cl_11 fl_X11_36 dX11_about_148 s_0 (by decide) rfl (by decide) ?_
    refine sx_getI (k := 2) cl_9 fl_X11_324 dX11_about_151 s_48 (by decide) rfl (by decide) ?_
    have r16 : (0 : Int) ≤ h0 48 2 ∧ h0 48 2 ≤ 40 := hI.1.1 48 2
    refine sx_isub dX11_about_154 ?_
    refine sy_topw (by omega) ?_
    refine sx_ireturn dX11_about_155 ?_
    exact ⟨_, rfl, ⟨hI, by split <;> omega⟩⟩
  ·
    refine sx_aload_n dX11_about_156 rfl ?_
    refine sx_getS (k := 11) (t := 189) cl_11 fl_X11_68 dX11_about_157 s_0 (by decide) rfl (by decide) ?_
    refine sx_getI (k := 8) cl_7 fl_X11_330 dX11_about_160 s_189 (by decide) rfl (by decide) ?_
    have r17 : (0 : Int) ≤ h0 189 8 ∧ h0 189 8 ≤ 30 := hI.1.1 189 8
    refine sx_ireturn dX11_about_163 ?_
    exact ⟨_, rfl, ⟨hI, by split <;> omega⟩⟩
  ·
    refine sx_aload_n dX11_about_164 rfl ?_
    refine sx_getI (k := 12) cl_11 fl_X11_291 dX11_about_165 s_0 (by decide) rfl (by decide) ?_
    have r18 : (0 : Int) ≤ h0 0 12 ∧ h0 0 12 ≤ 100000 := hI.1.1 0 12
    refine sx_ireturn dX11_about_168 ?_
    exact ⟨_, rfl, ⟨hI, by split <;> omega⟩⟩
  ·
    refine sx_aload_n dX11_about_169 rfl ?_
    refine sx_getI (k := 0) cl_11 fl_X11_76 dX11_about_170 s_0 (by decide) rfl (by decide) ?_
    have r19 : (0 : Int) ≤ h0 0 0 ∧ h0 0 0 ≤ 1600 := hI.1.1 0 0
    refine sx_ireturn dX11_about_173 ?_
    exact ⟨_, rfl, ⟨hI, by split <;> omega⟩⟩
  ·
    refine sx_aload_n dX11_about_174 rfl ?_
    refine sx_getR (k := 1) (t := 1) cl_11 fl_X11_10 dX11_about_175 s_0 (by decide) rfl (by decide) (by omega) ?_
    refine sx_getI (k := 2) cl_0 fl_X11_333 dX11_about_178 s_1 (by decide) rfl (by decide) ?_
    refine sx_ireturn dX11_about_181 ?_
    exact ⟨_, rfl, ⟨hI, by split <;> omega⟩⟩
  ·
    refine sx_aload_n dX11_about_182 rfl ?_
    refine sx_getS (k := 10) (t := 182) cl_11 fl_X11_61 dX11_about_183 s_0 (by decide) rfl (by decide) ?_
    refine sx_getI (k := 7) cl_6 fl_X11_118 dX11_about_186 s_182 (by decide) rfl (by decide) ?_
    have r20 : (0 : Int) ≤ h0 182 7 ∧ h0 182 7 ≤ 364 := hI.1.1 182 7
    refine sx_ireturn dX11_about_189 ?_
    exact ⟨_, rfl, ⟨hI, by split <;> omega⟩⟩
  ·
    refine sx_aload_n dX11_about_190 rfl ?_
    refine sx_getR (k := 1) (t := 1) cl_11 fl_X11_10 dX11_about_191 s_0 (by decide) rfl (by decide) (by omega) ?_
    refine sx_getI (k := 3) cl_0 fl_X11_187 dX11_about_194 s_1 (by decide) rfl (by decide) ?_
    refine sx_ireturn dX11_about_197 ?_
    exact ⟨_, rfl, ⟨hI, by split <;> omega⟩⟩
set_option maxRecDepth 20000 in
set_option maxHeartbeats 4000000 in
theorem f_X11_fits {G : sw_G} (d : Nat) {h0 : sw_H} (hJ : cJ h0) (y1 : Int)  (hF : FC h0) : sw_E G NH SH (d + 20) mX11_fits 0 [some (sw_r 0), some (sw_i y1)] [] h0 (sw_Qi (fun z h' => cK pr1 h0 h' ∧ (z = 0))) := by
  obtain ⟨hc, f0, f7, f12, f13, f14, w0, i0, u0, l0, d1, d2, d3, b7, s8, zs, tk⟩ := hF
  have hI : cK pr1 h0 h0 := cK.refl hJ
  have rw : (0 : Int) ≤ h0 1 0 ∧ h0 1 0 ≤ 6 := hI.1.1 1 0
  refine sx_aload_n dX11_fits_0 rfl ?_
  refine sx_getS (k := 11) (t := 189) cl_11 fl_X11_68 dX11_fits_1 s_0 (by decide) rfl (by decide) ?_
  refine sx_aload_n dX11_fits_4 rfl ?_
  refine sx_getR (k := 1) (t := 1) cl_11 fl_X11_10 dX11_fits_5 s_0 (by decide) rfl (by decide) (by omega) ?_
  refine sx_iload_n dX11_fits_8 rfl ?_
  refine sx_callVi lk_X11_302 cl_7 s_189 (by decide) dX11_fits_9 (vs := [_, _]) rfl rfl (Nat.le_of_ble_eq_true rfl) (Nat.le_of_ble_eq_true rfl) rfl (c_X7_collect_1 _ hI.1 _) (fun x2 h1 ph1 => ?_)
  obtain ⟨Kh1, n_h1, w_h1⟩ := ph1
  have Ih1 := hI.tr Kh1 sb_pr1_prG
  have th1_0_1 := Kh1.2 (0) 1 rfl
  have th1_0_2 := Kh1.2 (0) 2 rfl
  have th1_1_0 := Kh1.2 (1) 0 rfl
  refine sx_ireturn dX11_fits_12 ?_
  exact ⟨_, rfl, ⟨Ih1, by first | omega | (exfalso; omega)⟩⟩
set_option maxRecDepth 20000 in
set_option maxHeartbeats 4000000 in
theorem f_X11_fit {G : sw_G} (d : Nat) {h0 : sw_H} (hJ : cJ h0) (y1 y2 : Int)  (hF : FC h0) : sw_E G NH SH (d + 20) mX11_fit 0 [some (sw_r 0), some (sw_i y1), some (sw_i y2), none] [] h0 (sw_Qi (fun z h' => cK pr1 h0 h' ∧ (z = -1))) := by
  obtain ⟨hc, f0, f7, f12, f13, f14, w0, i0, u0, l0, d1, d2, d3, b7, s8, zs, tk⟩ := hF
  have hI : cK pr1 h0 h0 := cK.refl hJ
  have rw : (0 : Int) ≤ h0 1 0 ∧ h0 1 0 ≤ 6 := hI.1.1 1 0
  refine sx_aload_n dX11_fit_0 rfl ?_
  refine sx_getS (k := 11) (t := 189) cl_11 fl_X11_68 dX11_fit_1 s_0 (by decide) rfl (by decide) ?_
  refine sx_aload_n dX11_fit_4 rfl ?_
  refine sx_getR (k := 1) (t := 1) cl_11 fl_X11_10 dX11_fit_5 s_0 (by decide) rfl (by decide) (by omega) ?_
  refine sx_iload_n dX11_fit_8 rfl ?_
  refine sx_callVi lk_X11_302 cl_7 s_189 (by decide) dX11_fit_9 (vs := [_, _]) rfl rfl (Nat.le_of_ble_eq_true rfl) (Nat.le_of_ble_eq_true rfl) rfl (c_X7_collect_1 _ hI.1 _) (fun x2 h1 ph1 => ?_)
  obtain ⟨Kh1, n_h1, w_h1⟩ := ph1
  have Ih1 := hI.tr Kh1 sb_pr1_prG
  have th1_0_1 := Kh1.2 (0) 1 rfl
  have th1_0_2 := Kh1.2 (0) 2 rfl
  have th1_1_0 := Kh1.2 (1) 0 rfl
  refine sx_istore_n dX11_fit_12 (by decide) ?_
  refine sx_iload_n dX11_fit_13 rfl ?_
  refine sx_if_lt (tgt := 34) dX11_fit_14 (by decide) (fun c3 => ?_) (fun c3 => ?_)
  ·
    refine sx_iconst dX11_fit_34 ⟨by decide, by decide⟩ ?_
    refine sx_ireturn dX11_fit_35 ?_
    exact ⟨_, rfl, ⟨Ih1, by first | omega | (exfalso; omega)⟩⟩
  ·
    refine sx_iload_n dX11_fit_17 rfl ?_
    refine sx_iload_n dX11_fit_18 rfl ?_
    refine sx_icmp_ge (tgt := 34) dX11_fit_19 (by decide) (fun c4 => ?_) (fun c4 => ?_)
    ·
      refine sx_iconst dX11_fit_34 ⟨by decide, by decide⟩ ?_
      refine sx_ireturn dX11_fit_35 ?_
      exact ⟨_, rfl, ⟨Ih1, by first | omega | (exfalso; omega)⟩⟩
    ·
      refine sx_aload_n dX11_fit_22 rfl ?_
      refine sx_getS (k := 11) (t := 189) cl_11 fl_X11_68 dX11_fit_23 s_0 (by decide) rfl (by decide) ?_
      refine sx_getS (k := 9) (t := 213) cl_7 fl_X11_305 dX11_fit_26 s_189 (by decide) rfl (by decide) ?_
      refine sx_iload_n dX11_fit_29 rfl ?_
      refine sy_iaF (F := fun z => (0 : Int) ≤ z ∧ z ≤ 14) dX11_fit_30 s_213 (by decide) (by decide) ⟨by omega, by omega⟩ (Ih1.1.1 213 _) (fun r5 => ?_)
      refine sx_goto (tgt := 35) dX11_fit_31 (by decide) ?_
      refine sx_ireturn dX11_fit_35 ?_
      exact ⟨_, rfl, ⟨Ih1, by first | omega | (exfalso; omega)⟩⟩
set_option maxRecDepth 20000 in
set_option maxHeartbeats 4000000 in
theorem f_X11_ask {G : sw_G} (d : Nat) {h0 : sw_H} (hJ : cJ h0) (y1 y2 y3 y4 : Int)  (hF : FC h0) : sw_E G NH SH (d + 20) mX11_ask 0 [some (sw_r 0), some (sw_i y1), some (sw_i y2), some (sw_i y3), some (sw_i y4), none] [] h0 (sw_Qi (fun z h' => cK pr1 h0 h' ∧ (z = -1))) := by
  obtain ⟨hc, f0, f7, f12, f13, f14, w0, i0, u0, l0, d1, d2, d3, b7, s8, zs, tk⟩ := hF
  have hI : cK pr1 h0 h0 := cK.refl hJ
  have rw : (0 : Int) ≤ h0 1 0 ∧ h0 1 0 ≤ 6 := hI.1.1 1 0
  refine sx_iload_n dX11_ask_0 rfl ?_
  refine sx_callSz lk_X11_288 dX11_ask_1 (vs := [_]) rfl rfl (Nat.le_of_ble_eq_true rfl) (Nat.le_of_ble_eq_true rfl) rfl (c_X11_isDigit _ hI.1 _) (fun x2 h1 zx2 ph1 => ?_)
  obtain ⟨rfl, w_x2⟩ := ph1
  refine sx_if_eq (tgt := 23) dX11_ask_4 (by decide) (fun c3 => ?_) (fun c3 => ?_)
  ·
    refine sx_iconst dX11_ask_23 ⟨by decide, by decide⟩ ?_
    refine sx_ireturn dX11_ask_24 ?_
    exact ⟨_, rfl, ⟨hI, by first | omega | (exfalso; omega)⟩⟩
  ·
    refine sx_iload_n dX11_ask_7 rfl ?_
    refine sx_callSz lk_X11_288 dX11_ask_8 (vs := [_]) rfl rfl (Nat.le_of_ble_eq_true rfl) (Nat.le_of_ble_eq_true rfl) rfl (c_X11_isDigit _ hI.1 _) (fun x5 h4 zx5 ph4 => ?_)
    obtain ⟨rfl, w_x5⟩ := ph4
    refine sx_if_eq (tgt := 23) dX11_ask_11 (by decide) (fun c6 => ?_) (fun c6 => ?_)
    ·
      refine sx_iconst dX11_ask_23 ⟨by decide, by decide⟩ ?_
      refine sx_ireturn dX11_ask_24 ?_
      exact ⟨_, rfl, ⟨hI, by first | omega | (exfalso; omega)⟩⟩
    ·
      refine sx_iload_n dX11_ask_14 rfl ?_
      refine sx_if_lt (tgt := 23) dX11_ask_15 (by decide) (fun c7 => ?_) (fun c7 => ?_)
      ·
        refine sx_iconst dX11_ask_23 ⟨by decide, by decide⟩ ?_
        refine sx_ireturn dX11_ask_24 ?_
        exact ⟨_, rfl, ⟨hI, by first | omega | (exfalso; omega)⟩⟩
      ·
        refine sx_iload_n dX11_ask_18 rfl ?_
        refine sx_iconst dX11_ask_19 ⟨by decide, by decide⟩ ?_
        refine sx_icmp_le (tgt := 25) dX11_ask_20 (by decide) (fun c8 => ?_) (fun c8 => ?_)
        ·
          refine sx_aload_n dX11_ask_25 rfl ?_
          refine sx_getS (k := 11) (t := 189) cl_11 fl_X11_68 dX11_ask_26 s_0 (by decide) rfl (by decide) ?_
          refine sx_aload_n dX11_ask_29 rfl ?_
          refine sx_getR (k := 1) (t := 1) cl_11 fl_X11_10 dX11_ask_30 s_0 (by decide) rfl (by decide) (by omega) ?_
          refine sx_iload dX11_ask_33 rfl ?_
          refine sx_callVi lk_X11_302 cl_7 s_189 (by decide) dX11_ask_35 (vs := [_, _]) rfl rfl (Nat.le_of_ble_eq_true rfl) (Nat.le_of_ble_eq_true rfl) rfl (c_X7_collect_1 _ hI.1 _) (fun x10 h9 ph9 => ?_)
          obtain ⟨Kh9, n_h9, w_h9⟩ := ph9
          have Ih9 := hI.tr Kh9 sb_pr1_prG
          have th9_0_1 := Kh9.2 (0) 1 rfl
          have th9_0_2 := Kh9.2 (0) 2 rfl
          have th9_1_0 := Kh9.2 (1) 0 rfl
          refine sx_if_ne (tgt := 43) dX11_ask_38 (by decide) (fun c11 => ?_) (fun c11 => ?_)
          ·
            refine sx_aload_n dX11_ask_43 rfl ?_
            refine sx_getS (k := 11) (t := 189) cl_11 fl_X11_68 dX11_ask_44 s_0 (by decide) rfl (by decide) ?_
            refine sx_aload_n dX11_ask_47 rfl ?_
            refine sx_getR (k := 1) (t := 1) cl_11 fl_X11_10 dX11_ask_48 s_0 (by decide) rfl (by decide) (by omega) ?_
            refine sx_iload_n dX11_ask_51 rfl ?_
            refine sx_bipush dX11_ask_52 ⟨by decide, by decide, by decide⟩ ?_
            refine sx_imul dX11_ask_54 ?_
            refine sy_topw (by omega) ?_
            refine sx_iload_n dX11_ask_55 rfl ?_
            refine sx_iadd dX11_ask_56 ?_
            refine sy_topw (by omega) ?_
            refine sx_callVi lk_X11_308 cl_7 s_189 (by decide) dX11_ask_57 (vs := [_, _]) rfl rfl (Nat.le_of_ble_eq_true rfl) (Nat.le_of_ble_eq_true rfl) rfl (c_X7_nextToTry_1 _ Ih9.1 _ (by omega)) (fun x13 h12 ph12 => ?_)
            have Kh12 := ph12
            have Ih12 := Ih9.tr Kh12 sb_pr1_prG
            have th12_0_1 := Kh12.2 (0) 1 rfl
            have th12_0_2 := Kh12.2 (0) 2 rfl
            have th12_1_0 := Kh12.2 (1) 0 rfl
            refine sx_istore dX11_ask_60 (by decide) ?_
            refine sx_iload_n dX11_ask_62 rfl ?_
            refine sx_if_ne (tgt := 71) dX11_ask_63 (by decide) (fun c14 => ?_) (fun c14 => ?_)
            ·
              refine sx_aload_n dX11_ask_71 rfl ?_
              refine sx_getS (k := 11) (t := 189) cl_11 fl_X11_68 dX11_ask_72 s_0 (by decide) rfl (by decide) ?_
              refine sx_aload_n dX11_ask_75 rfl ?_
              refine sx_getR (k := 1) (t := 1) cl_11 fl_X11_10 dX11_ask_76 s_0 (by decide) rfl (by decide) (by omega) ?_
              refine sx_iload_n dX11_ask_79 rfl ?_
              refine sx_bipush dX11_ask_80 ⟨by decide, by decide, by decide⟩ ?_
              refine sx_imul dX11_ask_82 ?_
              refine sy_topw (by omega) ?_
              refine sx_iload_n dX11_ask_83 rfl ?_
              refine sx_bipush dX11_ask_84 ⟨by decide, by decide, by decide⟩ ?_
              refine sx_imul dX11_ask_86 ?_
              refine sy_topw (by omega) ?_
              refine sx_iadd dX11_ask_87 ?_
              refine sy_topw (by omega) ?_
              refine sx_iload dX11_ask_88 rfl ?_
              refine sx_iadd dX11_ask_90 ?_
              refine sx_callVi lk_X11_311 cl_7 s_189 (by decide) dX11_ask_91 (vs := [_, _]) rfl rfl (Nat.le_of_ble_eq_true rfl) (Nat.le_of_ble_eq_true rfl) rfl (c_X7_leftAtMost_1 _ Ih12.1 _ (by omega)) (fun x16 h15 ph15 => ?_)
              have Kh15 := ph15
              have Ih15 := Ih12.tr Kh15 sb_pr1_prG
              have th15_0_1 := Kh15.2 (0) 1 rfl
              have th15_0_2 := Kh15.2 (0) 2 rfl
              have th15_1_0 := Kh15.2 (1) 0 rfl
              refine sx_ireturn dX11_ask_94 ?_
              exact ⟨_, rfl, ⟨Ih15, by first | omega | (exfalso; omega)⟩⟩
            ·
              refine sx_iload dX11_ask_66 rfl ?_
              refine sx_goto (tgt := 94) dX11_ask_68 (by decide) ?_
              refine sx_ireturn dX11_ask_94 ?_
              exact ⟨_, rfl, ⟨Ih12, by first | omega | (exfalso; omega)⟩⟩
          ·
            refine sx_iconst dX11_ask_41 ⟨by decide, by decide⟩ ?_
            refine sx_ireturn dX11_ask_42 ?_
            exact ⟨_, rfl, ⟨Ih9, by first | omega | (exfalso; omega)⟩⟩
        ·
          refine sx_iconst dX11_ask_23 ⟨by decide, by decide⟩ ?_
          refine sx_ireturn dX11_ask_24 ?_
          exact ⟨_, rfl, ⟨hI, by first | omega | (exfalso; omega)⟩⟩

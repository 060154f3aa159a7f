set_option maxRecDepth 20000 in
set_option maxHeartbeats 4000000 in
theorem c_X12_couldBe {G : sw_G} (d : Nat) {h0 : sw_H} (hJ : mI h0) (b : Nat) (y1 : Int) (hb : h0 224 36 = 1 - (b : Int) ∧ b ≤ 1) (hB : mB h0) (ht : 0 ≤ y1 ∧ y1 ≤ 14)  : sw_E G NH SH (d + 3) mX12_couldBe 0 [some (sw_r 224), some (sw_i y1), none, none, none] [] h0 (sw_Qz (fun z h' => mK (prW [51, 52, 53, 54, 55, 56, 57, 58, 71] [243, 252, 253, 254, 255, 256, 257, 258, 259, 260]) h0 h' ∧ (∀ k, h' 243 k = h0 243 k) ∧ ((h' 224 71 = -1 ∧ h' 224 73 = h0 224 73 ∧ h' 224 74 = h0 224 74 ∧ h' 224 85 = h0 224 85)) ∧ (imp (z = 1) (CB h0 y1)))) := by
  have hI : mK (prW [51, 52, 53, 54, 55, 56, 57, 58, 71] [243, 252, 253, 254, 255, 256, 257, 258, 259, 260]) h0 h0 := mK.refl hJ
  have hB2 := hB.2
  have bb : 0 ≤ (b : Int) ∧ (b : Int) ≤ 1 := by omega
  refine sx_aload_n dX12_couldBe_0 rfl ?_
  refine sx_callVi lk_X12_497 cl_12 s_224 (by decide) dX12_couldBe_1 (vs := []) rfl rfl (Nat.le_of_ble_eq_true rfl) (Nat.le_of_ble_eq_true rfl) rfl (c_X12_lots _ hI.1) (fun x2 h1 ph1 => ?_)
  obtain ⟨rfl, p_x2⟩ := ph1
  refine sx_iconst dX12_couldBe_4 ⟨by decide, by decide⟩ ?_
  refine sx_isub dX12_couldBe_5 ?_
  refine sy_topw (by omega) ?_
  refine sy_top (fun v3 ev3 => ?_)
  refine sx_istore_n dX12_couldBe_6 (by decide) ?_
  have el : v3 = lst h0 := by unfold lst; omega
  refine sx_iload_n dX12_couldBe_7 rfl ?_
  refine sx_if_lt (tgt := 34) dX12_couldBe_8 (by decide) (fun c4 => ?_) (fun c4 => ?_)
  ·
    refine sx_iconst dX12_couldBe_34 ⟨by decide, by decide⟩ ?_
    refine sx_ireturn dX12_couldBe_35 ?_
    exact ⟨_, rfl, by omega, ⟨hI, fun k => rfl, by omega, fun q => absurd q (by decide)⟩⟩
  ·
    obtain ⟨wr1, wr2, wr3, wr4⟩ := mC_w hB.1 hJ (w := v3) (by omega) (by have q : lst h0 = h0 227 (h0 224 36).toNat - 1 := rfl; omega)
    rw [el] at wr2 wr3 wr4
    refine sx_aload_n dX12_couldBe_11 rfl ?_
    refine sx_iload_n dX12_couldBe_12 rfl ?_
    refine sx_callVi lk_X12_546 cl_12 s_224 (by decide) dX12_couldBe_13 (vs := [_]) rfl rfl (Nat.le_of_ble_eq_true rfl) (Nat.le_of_ble_eq_true rfl) rfl (c_X12_manyIn _ hI.1 _ (by first | omega | (rw [Int.tmod_eq_emod_of_nonneg (by omega)]; omega) | (rw [Int.tdiv_eq_ediv_of_nonneg (by omega)]; omega))) (fun x6 h5 ph5 => ?_)
    obtain ⟨rfl, p_x6⟩ := ph5
    rw [el] at p_x6
    refine sx_if_eq (tgt := 34) dX12_couldBe_16 (by decide) (fun c7 => ?_) (fun c7 => ?_)
    ·
      refine sx_iconst dX12_couldBe_34 ⟨by decide, by decide⟩ ?_
      refine sx_ireturn dX12_couldBe_35 ?_
      exact ⟨_, rfl, by omega, ⟨hI, fun k => rfl, by omega, fun q => absurd q (by decide)⟩⟩
    ·
      refine sx_aload_n dX12_couldBe_19 rfl ?_
      refine sx_getS (k := 24) (t := 240) cl_12 fl_X12_60 dX12_couldBe_20 s_224 (by decide) rfl (by decide) ?_
      refine sx_aload_n dX12_couldBe_23 rfl ?_
      refine sx_iload_n dX12_couldBe_24 rfl ?_
      refine sx_iconst dX12_couldBe_25 ⟨by decide, by decide⟩ ?_
      refine sx_callVi lk_X12_519 cl_12 s_224 (by decide) dX12_couldBe_26 (vs := [_, _]) rfl rfl (Nat.le_of_ble_eq_true rfl) (Nat.le_of_ble_eq_true rfl) rfl (c_X12_itemOf _ hI.1 _ _ (by first | omega | (rw [Int.tmod_eq_emod_of_nonneg (by omega)]; omega) | (rw [Int.tdiv_eq_ediv_of_nonneg (by omega)]; omega)) (by first | omega | (rw [Int.tmod_eq_emod_of_nonneg (by omega)]; omega) | (rw [Int.tdiv_eq_ediv_of_nonneg (by omega)]; omega))) (fun x9 h8 ph8 => ?_)
      obtain ⟨rfl, p_x9⟩ := ph8
      obtain ⟨qn, qn1, qn2⟩ := p_x9
      rw [el] at qn qn1 qn2
      subst qn
      refine sy_iaF (F := fun z => (0 : Int) ≤ z ∧ z ≤ 7) dX12_couldBe_29 s_240 (by decide) (by decide) ⟨by omega, by omega⟩ (hI.1 240 _) (fun r10 => ?_)
      refine sx_iconst dX12_couldBe_30 ⟨by decide, by decide⟩ ?_
      refine sx_icmp_le (tgt := 36) dX12_couldBe_31 (by decide) (fun c11 => ?_) (fun c11 => ?_)
      ·
        have T := th_I hB.1 hJ ht (by omega) (by omega) (by omega)
        refine sx_aload_n dX12_couldBe_36 rfl ?_
        refine sx_aload_n dX12_couldBe_37 rfl ?_
        refine sx_getI (k := 36) cl_12 fl_X12_349 dX12_couldBe_38 s_224 (by decide) rfl (by decide) ?_
        have r12 : (0 : Int) ≤ h0 224 36 ∧ h0 224 36 ≤ 1 := hI.1 224 36
        refine sx_callVv lk_X12_390 cl_12 s_224 (by decide) dX12_couldBe_41 (vs := [_]) rfl rfl (Nat.le_of_ble_eq_true rfl) (Nat.le_of_ble_eq_true rfl) rfl (c_X12_beginLook _ hI.1 _ (by omega)) (fun h13 ph13 => ?_)
        obtain ⟨Kh13, b_h13⟩ := ph13
        have Ih13 := hI.tr Kh13 (prW_sub rfl rfl)
        have th13_224_51 := Kh13.2 224 51 rfl
        have th13_224_71 := Kh13.2 224 71 rfl
        have th13_224_73 := Kh13.2 224 73 rfl
        have th13_224_74 := Kh13.2 224 74 rfl
        have th13_224_85 := Kh13.2 224 85 rfl
        have th13_224_100 := Kh13.2 224 100 rfl
        refine sx_aload_n dX12_couldBe_44 rfl ?_
        refine sx_iconst dX12_couldBe_45 ⟨by decide, by decide⟩ ?_
        refine sy_putZ (k := 51) cl_12 fl_X12_424 dX12_couldBe_46 s_224 (by decide) rfl (by decide) rfl rfl (by omega) (fun h15 eh15 => ?_)
        have Ih15 := Ih13.up eh15 trivial rfl
        have th15_224_51 := eh15.1
        have th15_224_52 := eh15.2 (224) 52 (by decide)
        have th15_224_53 := eh15.2 (224) 53 (by decide)
        have th15_224_54 := eh15.2 (224) 54 (by decide)
        have th15_224_55 := eh15.2 (224) 55 (by decide)
        have th15_224_56 := eh15.2 (224) 56 (by decide)
        have th15_224_57 := eh15.2 (224) 57 (by decide)
        have th15_224_71 := eh15.2 (224) 71 (by decide)
        have th15_224_73 := eh15.2 (224) 73 (by decide)
        have th15_224_74 := eh15.2 (224) 74 (by decide)
        have th15_224_85 := eh15.2 (224) 85 (by decide)
        have th15_224_100 := eh15.2 (224) 100 (by decide)
        refine sx_aload_n dX12_couldBe_49 rfl ?_
        refine sx_iload_n dX12_couldBe_50 rfl ?_
        refine sy_putI (k := 71) cl_12 fl_X12_142 dX12_couldBe_51 s_224 (by decide) rfl (by decide) rfl rfl (fun h16 eh16 => ?_)
        have Ih16 := Ih15.up eh16 (show (-1 : Int) ≤ _ ∧ _ ≤ (14 : Int) from ⟨by omega, by omega⟩) rfl
        have th16_224_51 := eh16.2 (224) 51 (by decide)
        have th16_224_52 := eh16.2 (224) 52 (by decide)
        have th16_224_53 := eh16.2 (224) 53 (by decide)
        have th16_224_54 := eh16.2 (224) 54 (by decide)
        have th16_224_55 := eh16.2 (224) 55 (by decide)
        have th16_224_56 := eh16.2 (224) 56 (by decide)
        have th16_224_57 := eh16.2 (224) 57 (by decide)
        have th16_224_71 := eh16.1
        have th16_224_73 := eh16.2 (224) 73 (by decide)
        have th16_224_74 := eh16.2 (224) 74 (by decide)
        have th16_224_85 := eh16.2 (224) 85 (by decide)
        have th16_224_100 := eh16.2 (224) 100 (by decide)
        refine sx_iconst dX12_couldBe_54 ⟨by decide, by decide⟩ ?_
        refine sx_istore_n dX12_couldBe_55 (by decide) ?_
        refine sx_iconst dX12_couldBe_56 ⟨by decide, by decide⟩ ?_
        refine sx_istore dX12_couldBe_57 (by decide) ?_
        have L0 : LI h16 (60 * h0 224 36 + h0 233 (6 * h0 224 36 + lst h0).toNat) (fS (hT h0 y1) (lst h0)) (fV (hT h0 y1) (lst h0)) 0 (fun _ => 0) (fun _ => 0) := LI_0 (by omega) (by omega) (by omega) (by omega) (by omega)
        have g0 : ∀ k, h16 243 k = h0 243 k := fun k => by rw [eh16.2 243 k (fun q => absurd q.1 (by decide)), eh15.2 243 k (fun q => absurd q.1 (by decide)), show h13 243 k = _ from Kh13.2 243 k rfl]
        refine sx_loop2 (fun (h : sw_H) (fault : Int) (i : Int) => (mK (prW [51, 52, 53, 54, 55, 56, 57, 58, 71] [243, 252, 253, 254, 255, 256, 257, 258, 259, 260]) h0 h) ∧ (0 ≤ i) ∧ (i ≤ h0 234 (6 * h0 224 36 + lst h0).toNat) ∧ (imp (fault = 0) (∃ H U, LI h (60 * h0 224 36 + h0 233 (6 * h0 224 36 + lst h0).toNat) (fS (hT h0 y1) (lst h0)) (fV (hT h0 y1) (lst h0)) i.toNat H U)) ∧ (∀ k, h 243 k = h0 243 k) ∧ (h 224 52 = h0 224 36) ∧ (h 224 71 = y1) ∧ (h 224 51 = 1) ∧ (h 224 73 = h0 224 73) ∧ (h 224 74 = h0 224 74) ∧ (h 224 85 = h0 224 85)) (fun (h : sw_H) (fault : Int) (i : Int) => (60 - i).toNat) (fun (h : sw_H) (fault : Int) (i : Int) => sw_E G NH SH (d + 3) mX12_couldBe 59 [some (sw_r 224), some (sw_i y1), some (sw_i v3), some (sw_i fault), some (sw_i i)] [] h (sw_Qz (fun z h' => mK (prW [51, 52, 53, 54, 55, 56, 57, 58, 71] [243, 252, 253, 254, 255, 256, 257, 258, 259, 260]) h0 h' ∧ (∀ k, h' 243 k = h0 243 k) ∧ ((h' 224 71 = -1 ∧ h' 224 73 = h0 224 73 ∧ h' 224 74 = h0 224 74 ∧ h' 224 85 = h0 224 85)) ∧ (imp (z = 1) (CB h0 y1))))) ?_ _ _ _ ?_
        · rintro h17 fault_18 i_19 ⟨Ih17, ji, jm, jL, jg, j52, j71, j51, j73, j74, j85⟩ ihh17
          try dsimp only at ihh17
          have e34 : h17 234 (6 * h17 224 36 + v3).toNat = h0 234 (6 * h0 224 36 + lst h0).toNat := by rw [show h17 224 36 = h0 224 36 from Ih17.2 224 36 rfl, el]; exact Ih17.2 234 _ rfl
          have e36 : h17 224 36 = h0 224 36 := Ih17.2 224 36 rfl
          refine sx_iload dX12_couldBe_59 rfl ?_
          refine sx_aload_n dX12_couldBe_61 rfl ?_
          refine sx_iload_n dX12_couldBe_62 rfl ?_
          refine sx_callVi lk_X12_546 cl_12 s_224 (by decide) dX12_couldBe_63 (vs := [_]) rfl rfl (Nat.le_of_ble_eq_true rfl) (Nat.le_of_ble_eq_true rfl) rfl (c_X12_manyIn _ Ih17.1 _ (by first | omega | (rw [Int.tmod_eq_emod_of_nonneg (by omega)]; omega) | (rw [Int.tdiv_eq_ediv_of_nonneg (by omega)]; omega))) (fun x21 h20 ph20 => ?_)
          obtain ⟨rfl, p_x21⟩ := ph20
          refine sx_icmp_ge (tgt := 105) dX12_couldBe_66 (by decide) (fun c22 => ?_) (fun c22 => ?_)
          ·
            refine sx_aload_n dX12_couldBe_105 rfl ?_
            refine sx_iconst dX12_couldBe_106 ⟨by decide, by decide⟩ ?_
            refine sy_putI (k := 71) cl_12 fl_X12_142 dX12_couldBe_107 s_224 (by decide) rfl (by decide) rfl rfl (fun h23 eh23 => ?_)
            have Ih23 := Ih17.up eh23 (show (-1 : Int) ≤ _ ∧ _ ≤ (14 : Int) from ⟨by omega, by omega⟩) rfl
            have th23_224_51 := eh23.2 (224) 51 (by decide)
            have th23_224_52 := eh23.2 (224) 52 (by decide)
            have th23_224_53 := eh23.2 (224) 53 (by decide)
            have th23_224_54 := eh23.2 (224) 54 (by decide)
            have th23_224_55 := eh23.2 (224) 55 (by decide)
            have th23_224_56 := eh23.2 (224) 56 (by decide)
            have th23_224_57 := eh23.2 (224) 57 (by decide)
            have th23_224_71 := eh23.1
            have th23_224_73 := eh23.2 (224) 73 (by decide)
            have th23_224_74 := eh23.2 (224) 74 (by decide)
            have th23_224_85 := eh23.2 (224) 85 (by decide)
            have th23_224_100 := eh23.2 (224) 100 (by decide)
            refine sx_aload_n dX12_couldBe_110 rfl ?_
            refine sx_iconst dX12_couldBe_111 ⟨by decide, by decide⟩ ?_
            refine sy_putZ (k := 51) cl_12 fl_X12_424 dX12_couldBe_112 s_224 (by decide) rfl (by decide) rfl rfl (by omega) (fun h24 eh24 => ?_)
            have Ih24 := Ih23.up eh24 trivial rfl
            have th24_224_51 := eh24.1
            have th24_224_52 := eh24.2 (224) 52 (by decide)
            have th24_224_53 := eh24.2 (224) 53 (by decide)
            have th24_224_54 := eh24.2 (224) 54 (by decide)
            have th24_224_55 := eh24.2 (224) 55 (by decide)
            have th24_224_56 := eh24.2 (224) 56 (by decide)
            have th24_224_57 := eh24.2 (224) 57 (by decide)
            have th24_224_71 := eh24.2 (224) 71 (by decide)
            have th24_224_73 := eh24.2 (224) 73 (by decide)
            have th24_224_74 := eh24.2 (224) 74 (by decide)
            have th24_224_85 := eh24.2 (224) 85 (by decide)
            have th24_224_100 := eh24.2 (224) 100 (by decide)
            refine sx_iload_n dX12_couldBe_115 rfl ?_
            refine sx_if_ne (tgt := 159) dX12_couldBe_116 (by decide) (fun c25 => ?_) (fun c25 => ?_)
            ·
              refine sx_iconst dX12_couldBe_159 ⟨by decide, by decide⟩ ?_
              refine sx_ireturn dX12_couldBe_160 ?_
              exact ⟨_, rfl, by omega, ⟨Ih24, (fun k => by rw [eh24.2 243 k (fun q => absurd q.1 (by decide)), eh23.2 243 k (fun q => absurd q.1 (by decide))]; exact jg k), by omega, fun q => absurd q (by decide)⟩⟩
            ·
              obtain ⟨Hb, Ub, LIb⟩ := jL (by omega)
              have hb53 := LI_53 LIb
              refine sx_aload_n dX12_couldBe_119 rfl ?_
              refine sx_getI (k := 54) cl_12 fl_X12_400 dX12_couldBe_120 s_224 (by decide) rfl (by decide) ?_
              refine sx_if_ne (tgt := 159) dX12_couldBe_123 (by decide) (fun c26 => ?_) (fun c26 => ?_)
              ·
                refine sx_iconst dX12_couldBe_159 ⟨by decide, by decide⟩ ?_
                refine sx_ireturn dX12_couldBe_160 ?_
                exact ⟨_, rfl, by omega, ⟨Ih24, (fun k => by rw [eh24.2 243 k (fun q => absurd q.1 (by decide)), eh23.2 243 k (fun q => absurd q.1 (by decide))]; exact jg k), by omega, fun q => absurd q (by decide)⟩⟩
              ·
                refine sx_aload_n dX12_couldBe_126 rfl ?_
                refine sx_getS (k := 49) (t := 259) cl_12 fl_X12_118 dX12_couldBe_127 s_224 (by decide) rfl (by decide) ?_
                refine sx_iconst dX12_couldBe_130 ⟨by decide, by decide⟩ ?_
                refine sx_iaload dX12_couldBe_131 s_259 (by decide) (by decide) ⟨by omega, by omega⟩ ?_
                refine sx_sipush dX12_couldBe_132 ⟨by decide, by decide, by decide⟩ ?_
                refine sx_icmp_gt (tgt := 159) dX12_couldBe_135 (by decide) (fun c27 => ?_) (fun c27 => ?_)
                ·
                  refine sx_iconst dX12_couldBe_159 ⟨by decide, by decide⟩ ?_
                  refine sx_ireturn dX12_couldBe_160 ?_
                  exact ⟨_, rfl, by omega, ⟨Ih24, (fun k => by rw [eh24.2 243 k (fun q => absurd q.1 (by decide)), eh23.2 243 k (fun q => absurd q.1 (by decide))]; exact jg k), by omega, fun q => absurd q (by decide)⟩⟩
                ·
                  refine sx_aload_n dX12_couldBe_138 rfl ?_
                  refine sx_getI (k := 56) cl_12 fl_X12_403 dX12_couldBe_139 s_224 (by decide) rfl (by decide) ?_
                  refine sx_iconst dX12_couldBe_142 ⟨by decide, by decide⟩ ?_
                  refine sx_icmp_gt (tgt := 159) dX12_couldBe_143 (by decide) (fun c28 => ?_) (fun c28 => ?_)
                  ·
                    refine sx_iconst dX12_couldBe_159 ⟨by decide, by decide⟩ ?_
                    refine sx_ireturn dX12_couldBe_160 ?_
                    exact ⟨_, rfl, by omega, ⟨Ih24, (fun k => by rw [eh24.2 243 k (fun q => absurd q.1 (by decide)), eh23.2 243 k (fun q => absurd q.1 (by decide))]; exact jg k), by omega, fun q => absurd q (by decide)⟩⟩
                  ·
                    refine sx_iconst dX12_couldBe_146 ⟨by decide, by decide⟩ ?_
                    refine sx_aload_n dX12_couldBe_147 rfl ?_
                    refine sx_getI (k := 53) cl_12 fl_X12_406 dX12_couldBe_148 s_224 (by decide) rfl (by decide) ?_
                    refine sx_iadd dX12_couldBe_151 ?_
                    refine sy_topw (by omega) ?_
                    refine sx_if_le (tgt := 159) dX12_couldBe_152 (by decide) (fun c29 => ?_) (fun c29 => ?_)
                    ·
                      refine sx_iconst dX12_couldBe_159 ⟨by decide, by decide⟩ ?_
                      refine sx_ireturn dX12_couldBe_160 ?_
                      exact ⟨_, rfl, by omega, ⟨Ih24, (fun k => by rw [eh24.2 243 k (fun q => absurd q.1 (by decide)), eh23.2 243 k (fun q => absurd q.1 (by decide))]; exact jg k), by omega, fun q => absurd q (by decide)⟩⟩
                    ·
                      refine sx_iconst dX12_couldBe_155 ⟨by decide, by decide⟩ ?_
                      refine sx_goto (tgt := 160) dX12_couldBe_156 (by decide) ?_
                      refine sx_ireturn dX12_couldBe_160 ?_
                      exact ⟨_, rfl, by omega, ⟨Ih24, (fun k => by rw [eh24.2 243 k (fun q => absurd q.1 (by decide)), eh23.2 243 k (fun q => absurd q.1 (by decide))]; exact jg k), by omega, fun _ => by obtain ⟨Hc, Uc, LIc⟩ := jL (by omega); rw [show (i_19).toNat = (wn h0 (lst h0)).toNat by have q : wn h0 (lst h0) = h0 234 (6 * h0 224 36 + lst h0).toNat := rfl; omega] at LIc; exact CB_of hB.1 hJ T (cd_g Ih17 rfl rfl jg) (by omega) LIc (by omega) (by omega) (by omega)⟩⟩
          ·
            refine sx_iload_n dX12_couldBe_69 rfl ?_
            refine sx_if_ne (tgt := 105) dX12_couldBe_70 (by decide) (fun c30 => ?_) (fun c30 => ?_)
            ·
              refine sx_aload_n dX12_couldBe_105 rfl ?_
              refine sx_iconst dX12_couldBe_106 ⟨by decide, by decide⟩ ?_
              refine sy_putI (k := 71) cl_12 fl_X12_142 dX12_couldBe_107 s_224 (by decide) rfl (by decide) rfl rfl (fun h31 eh31 => ?_)
              have Ih31 := Ih17.up eh31 (show (-1 : Int) ≤ _ ∧ _ ≤ (14 : Int) from ⟨by omega, by omega⟩) rfl
              have th31_224_51 := eh31.2 (224) 51 (by decide)
              have th31_224_52 := eh31.2 (224) 52 (by decide)
              have th31_224_53 := eh31.2 (224) 53 (by decide)
              have th31_224_54 := eh31.2 (224) 54 (by decide)
              have th31_224_55 := eh31.2 (224) 55 (by decide)
              have th31_224_56 := eh31.2 (224) 56 (by decide)
              have th31_224_57 := eh31.2 (224) 57 (by decide)
              have th31_224_71 := eh31.1
              have th31_224_73 := eh31.2 (224) 73 (by decide)
              have th31_224_74 := eh31.2 (224) 74 (by decide)
              have th31_224_85 := eh31.2 (224) 85 (by decide)
              have th31_224_100 := eh31.2 (224) 100 (by decide)
              refine sx_aload_n dX12_couldBe_110 rfl ?_
              refine sx_iconst dX12_couldBe_111 ⟨by decide, by decide⟩ ?_
              refine sy_putZ (k := 51) cl_12 fl_X12_424 dX12_couldBe_112 s_224 (by decide) rfl (by decide) rfl rfl (by omega) (fun h32 eh32 => ?_)
              have Ih32 := Ih31.up eh32 trivial rfl
              have th32_224_51 := eh32.1
              have th32_224_52 := eh32.2 (224) 52 (by decide)
              have th32_224_53 := eh32.2 (224) 53 (by decide)
              have th32_224_54 := eh32.2 (224) 54 (by decide)
              have th32_224_55 := eh32.2 (224) 55 (by decide)
              have th32_224_56 := eh32.2 (224) 56 (by decide)
              have th32_224_57 := eh32.2 (224) 57 (by decide)
              have th32_224_71 := eh32.2 (224) 71 (by decide)
              have th32_224_73 := eh32.2 (224) 73 (by decide)
              have th32_224_74 := eh32.2 (224) 74 (by decide)
              have th32_224_85 := eh32.2 (224) 85 (by decide)
              have th32_224_100 := eh32.2 (224) 100 (by decide)
              refine sx_iload_n dX12_couldBe_115 rfl ?_
              refine sx_if_ne (tgt := 159) dX12_couldBe_116 (by decide) (fun c33 => ?_) (fun c33 => ?_)
              ·
                refine sx_iconst dX12_couldBe_159 ⟨by decide, by decide⟩ ?_
                refine sx_ireturn dX12_couldBe_160 ?_
                exact ⟨_, rfl, by omega, ⟨Ih32, (fun k => by rw [eh32.2 243 k (fun q => absurd q.1 (by decide)), eh31.2 243 k (fun q => absurd q.1 (by decide))]; exact jg k), by omega, fun q => absurd q (by decide)⟩⟩
              ·
                obtain ⟨Hb, Ub, LIb⟩ := jL (by omega)
                have hb53 := LI_53 LIb
                refine sx_aload_n dX12_couldBe_119 rfl ?_
                refine sx_getI (k := 54) cl_12 fl_X12_400 dX12_couldBe_120 s_224 (by decide) rfl (by decide) ?_
                refine sx_if_ne (tgt := 159) dX12_couldBe_123 (by decide) (fun c34 => ?_) (fun c34 => ?_)
                ·
                  refine sx_iconst dX12_couldBe_159 ⟨by decide, by decide⟩ ?_
                  refine sx_ireturn dX12_couldBe_160 ?_
                  exact ⟨_, rfl, by omega, ⟨Ih32, (fun k => by rw [eh32.2 243 k (fun q => absurd q.1 (by decide)), eh31.2 243 k (fun q => absurd q.1 (by decide))]; exact jg k), by omega, fun q => absurd q (by decide)⟩⟩
                ·
                  refine sx_aload_n dX12_couldBe_126 rfl ?_
                  refine sx_getS (k := 49) (t := 259) cl_12 fl_X12_118 dX12_couldBe_127 s_224 (by decide) rfl (by decide) ?_
                  refine sx_iconst dX12_couldBe_130 ⟨by decide, by decide⟩ ?_
                  refine sx_iaload dX12_couldBe_131 s_259 (by decide) (by decide) ⟨by omega, by omega⟩ ?_
                  refine sx_sipush dX12_couldBe_132 ⟨by decide, by decide, by decide⟩ ?_
                  refine sx_icmp_gt (tgt := 159) dX12_couldBe_135 (by decide) (fun c35 => ?_) (fun c35 => ?_)
                  ·
                    refine sx_iconst dX12_couldBe_159 ⟨by decide, by decide⟩ ?_
                    refine sx_ireturn dX12_couldBe_160 ?_
                    exact ⟨_, rfl, by omega, ⟨Ih32, (fun k => by rw [eh32.2 243 k (fun q => absurd q.1 (by decide)), eh31.2 243 k (fun q => absurd q.1 (by decide))]; exact jg k), by omega, fun q => absurd q (by decide)⟩⟩
                  ·
                    refine sx_aload_n dX12_couldBe_138 rfl ?_
                    refine sx_getI (k := 56) cl_12 fl_X12_403 dX12_couldBe_139 s_224 (by decide) rfl (by decide) ?_
                    refine sx_iconst dX12_couldBe_142 ⟨by decide, by decide⟩ ?_
                    refine sx_icmp_gt (tgt := 159) dX12_couldBe_143 (by decide) (fun c36 => ?_) (fun c36 => ?_)
                    ·
                      refine sx_iconst dX12_couldBe_159 ⟨by decide, by decide⟩ ?_
                      refine sx_ireturn dX12_couldBe_160 ?_
                      exact ⟨_, rfl, by omega, ⟨Ih32, (fun k => by rw [eh32.2 243 k (fun q => absurd q.1 (by decide)), eh31.2 243 k (fun q => absurd q.1 (by decide))]; exact jg k), by omega, fun q => absurd q (by decide)⟩⟩
                    ·
                      refine sx_iconst dX12_couldBe_146 ⟨by decide, by decide⟩ ?_
                      refine sx_aload_n dX12_couldBe_147 rfl ?_
                      refine sx_getI (k := 53) cl_12 fl_X12_406 dX12_couldBe_148 s_224 (by decide) rfl (by decide) ?_
                      refine sx_iadd dX12_couldBe_151 ?_
                      refine sy_topw (by omega) ?_
                      refine sx_if_le (tgt := 159) dX12_couldBe_152 (by decide) (fun c37 => ?_) (fun c37 => ?_)
                      ·
                        refine sx_iconst dX12_couldBe_159 ⟨by decide, by decide⟩ ?_
                        refine sx_ireturn dX12_couldBe_160 ?_
                        exact ⟨_, rfl, by omega, ⟨Ih32, (fun k => by rw [eh32.2 243 k (fun q => absurd q.1 (by decide)), eh31.2 243 k (fun q => absurd q.1 (by decide))]; exact jg k), by omega, fun q => absurd q (by decide)⟩⟩
                      ·
                        refine sx_iconst dX12_couldBe_155 ⟨by decide, by decide⟩ ?_
                        refine sx_goto (tgt := 160) dX12_couldBe_156 (by decide) ?_
                        refine sx_ireturn dX12_couldBe_160 ?_
                        exact ⟨_, rfl, by omega, ⟨Ih32, (fun k => by rw [eh32.2 243 k (fun q => absurd q.1 (by decide)), eh31.2 243 k (fun q => absurd q.1 (by decide))]; exact jg k), by omega, fun _ => by obtain ⟨Hc, Uc, LIc⟩ := jL (by omega); rw [show (i_19).toNat = (wn h0 (lst h0)).toNat by have q : wn h0 (lst h0) = h0 234 (6 * h0 224 36 + lst h0).toNat := rfl; omega] at LIc; exact CB_of hB.1 hJ T (cd_g Ih17 rfl rfl jg) (by omega) LIc (by omega) (by omega) (by omega)⟩⟩
            ·
              have CE := cd_g Ih17 rfl rfl jg
              have CD : cdK (hT h0 y1) h17 := cdK_T CE j71
              have ti := T.2.2.2.2.2.1 (i_19).toNat (by have q : wn h0 (lst h0) = h0 234 (6 * h0 224 36 + lst h0).toNat := rfl; omega)
              obtain ⟨Hc, Uc, LIc⟩ := jL (by omega)
              have lkc := lkC_T hB.1 hJ hB.2.1 T CE (by omega) (j := (i_19).toNat) (by have q : wn h0 (lst h0) = h0 234 (6 * h0 224 36 + lst h0).toNat := rfl; omega)
              have e33 : h17 233 (6 * h17 224 36 + v3).toNat = h0 233 (6 * h0 224 36 + lst h0).toNat := by rw [CE 224 36 (by omega), el]; exact CE 233 _ (by omega)
              refine sx_aload_n dX12_couldBe_73 rfl ?_
              refine sx_aload_n dX12_couldBe_74 rfl ?_
              refine sx_iload_n dX12_couldBe_75 rfl ?_
              refine sx_iload dX12_couldBe_76 rfl ?_
              refine sx_callVi lk_X12_549 cl_12 s_224 (by decide) dX12_couldBe_78 (vs := [_, _]) rfl rfl (Nat.le_of_ble_eq_true rfl) (Nat.le_of_ble_eq_true rfl) rfl (c_X12_sortOf _ Ih17.1 _ _ (by omega) (by omega)) (fun x39 h38 ph38 => ?_)
              obtain ⟨rfl, p_x39⟩ := ph38
              obtain ⟨qs, -, -⟩ := p_x39
              have es : x39 = (fS (hT h0 y1) (lst h0)) ((i_19).toNat) := by rw [qs, sO_cd CD, el]; show _ = sO (hT h0 y1) (lst h0) (((i_19).toNat : Nat) : Int); rw [show (((i_19).toNat : Nat) : Int) = i_19 by omega]
              refine sx_aload_n dX12_couldBe_81 rfl ?_
              refine sx_iload_n dX12_couldBe_82 rfl ?_
              refine sx_iload dX12_couldBe_83 rfl ?_
              refine sx_callVi lk_X12_552 cl_12 s_224 (by decide) dX12_couldBe_85 (vs := [_, _]) rfl rfl (Nat.le_of_ble_eq_true rfl) (Nat.le_of_ble_eq_true rfl) rfl (c_X12_whatOf _ Ih17.1 _ _ (by omega) (by omega)) (fun x41 h40 ph40 => ?_)
              obtain ⟨rfl, p_x41⟩ := ph40
              obtain ⟨qv, -, -⟩ := p_x41
              have ev : x41 = (fV (hT h0 y1) (lst h0)) ((i_19).toNat) := by rw [qv, wO_cd CD, el]; show _ = wO (hT h0 y1) (lst h0) (((i_19).toNat : Nat) : Int); rw [show (((i_19).toNat : Nat) : Int) = i_19 by omega]
              refine sx_aload_n dX12_couldBe_88 rfl ?_
              refine sx_iload_n dX12_couldBe_89 rfl ?_
              refine sx_iload dX12_couldBe_90 rfl ?_
              refine sx_callVi lk_X12_519 cl_12 s_224 (by decide) dX12_couldBe_92 (vs := [_, _]) rfl rfl (Nat.le_of_ble_eq_true rfl) (Nat.le_of_ble_eq_true rfl) rfl (c_X12_itemOf _ Ih17.1 _ _ (by omega) (by omega)) (fun x43 h42 ph42 => ?_)
              obtain ⟨rfl, p_x43⟩ := ph42
              obtain ⟨qm, -, -⟩ := p_x43
              have en : x43 = (60 * h0 224 36 + h0 233 (6 * h0 224 36 + lst h0).toNat) + (((i_19).toNat : Nat) : Int) := by rw [e36, el] at qm; rw [Ih17.2 233 _ rfl] at qm; omega
              refine sx_callVi lk_X12_418 cl_12 s_224 (by decide) dX12_couldBe_95 (vs := [_, _, _]) rfl rfl (Nat.le_of_ble_eq_true rfl) (Nat.le_of_ble_eq_true rfl) rfl (c_X12_look _ Ih17.1 b (60 * h0 224 36 + h0 233 (6 * h0 224 36 + lst h0).toNat) (fS (hT h0 y1) (lst h0)) (fV (hT h0 y1) (lst h0)) (i_19).toNat Hc Uc _ _ _ es ev en LIc (ti.2.2.1) lkc (by omega)) (fun x45 h44 ph44 => ?_)
              obtain ⟨Kh44, zc_h44, zl_h44, gp_h44⟩ := ph44
              have Ih44 := Ih17.tr Kh44 (prWB_sub rfl rfl)
              have th44_224_51 := Kh44.2 224 51 rfl
              have th44_224_52 := Kh44.2 224 52 rfl
              have th44_224_71 := Kh44.2 224 71 rfl
              have th44_224_73 := Kh44.2 224 73 rfl
              have th44_224_74 := Kh44.2 224 74 rfl
              have th44_224_85 := Kh44.2 224 85 rfl
              have th44_224_100 := Kh44.2 224 100 rfl
              refine sx_istore_n dX12_couldBe_98 (by decide) ?_
              have gs := GP_same (h := h0) (g := fG h0 (lst h0)) (by omega) ti.2.2.2 (fun j => rfl) gp_h44 jg (by omega) ti.2.2.1
              have zl2 : imp (x45 = 0) (∃ H U, LI h44 (60 * h0 224 36 + h0 233 (6 * h0 224 36 + lst h0).toNat) (fS (hT h0 y1) (lst h0)) (fV (hT h0 y1) (lst h0)) (i_19 + 1).toNat H U) := by rw [show (i_19 + 1).toNat = (i_19).toNat + 1 by omega]; exact zl_h44
              clear zl_h44 gp_h44
              refine sx_iinc dX12_couldBe_99 (by decide) rfl ?_
              rw [sw_w_id (by omega) (by omega)]
              refine sx_goto (tgt := 59) dX12_couldBe_102 (by decide) ?_
              exact ihh17 _ _ _ ⟨Ih44, by omega, by omega, by exact zl2, by exact gs, by omega, by omega, by omega, by omega, by omega, by omega⟩ (by exact sy_dec (by omega) (by omega))
        · exact ⟨Ih16, by omega, by omega, by exact fun _ => ⟨_, _, L0⟩, by exact g0, by omega, by omega, by omega, by omega, by omega, by omega⟩
      ·
        refine sx_iconst dX12_couldBe_34 ⟨by decide, by decide⟩ ?_
        refine sx_ireturn dX12_couldBe_35 ?_
        exact ⟨_, rfl, by omega, ⟨hI, fun k => rfl, by omega, fun q => absurd q (by decide)⟩⟩
theorem prW_cd {fs as : List Nat} {a k : Nat} (hf : fs.all (fun x => !(x == 36)) = true) (ha : as.all (fun x => decide (x ≠ 224 ∧ (x < 227 ∨ 248 < x))) = true) (q1 : 227 ≤ a) (q2 : a ≤ 248) : prW fs as a k = true := by
  rw [List.all_eq_true] at ha
  simp only [prW, Bool.not_eq_true', Bool.or_eq_false_iff, Bool.and_eq_false_iff, beq_eq_false_iff_ne, ne_eq]
  refine ⟨Or.inl (by omega), ?_⟩
  cases c : as.contains a with
  | false => rfl
  | true => have := of_decide_eq_true (ha a (List.contains_iff_mem.mp c)); omega
set_option maxRecDepth 20000 in
set_option maxHeartbeats 4000000 in
theorem c_X12_topFor {G : sw_G} (d : Nat) {h0 : sw_H} (hJ : mI h0) (y1 y2 y3 y4 : Int) (hB : mB h0) (ht : 0 ≤ y1 ∧ y1 ≤ 14) (hc : CB h0 y1)  : sw_E G NH SH (d + 5) mX12_topFor 0 [some (sw_r 224), some (sw_i y1), some (sw_i y2), some (sw_i y3), some (sw_i y4)] [] h0 (sw_Qi (fun z h' => mK (prW [67, 68, 69, 70, 71] [262, 263, 264, 265, 266]) h0 h' ∧ (h' 224 71 = -1 ∧ h' 224 73 = h0 224 73 ∧ h' 224 74 = h0 224 74 ∧ h' 224 85 = h0 224 85))) := by
  have hI : mK (prW [67, 68, 69, 70, 71] [262, 263, 264, 265, 266]) h0 h0 := mK.refl hJ
  have hB2 := hB.2
  obtain ⟨cl0, cl6, nd, la, hi, cb1, cb2, cb3, cb4, cb5⟩ := hc
  obtain ⟨wg1, wg2, wg3, wg4, wg5, wg6⟩ := Wd_rng cb4
  refine sx_aload_n dX12_topFor_0 rfl ?_
  refine sx_iload_n dX12_topFor_1 rfl ?_
  refine sx_iload_n dX12_topFor_2 rfl ?_
  refine sx_iload dX12_topFor_3 rfl ?_
  refine sx_callVv lk_X12_594 cl_12 s_224 (by decide) dX12_topFor_5 (vs := [_, _, _]) rfl rfl (Nat.le_of_ble_eq_true rfl) (Nat.le_of_ble_eq_true rfl) rfl (c_X12_threeCells _ hI.1 _ _ _) (fun h1 ph1 => ?_)
  obtain ⟨Kh1, c_h1⟩ := ph1
  have Ih1 := hI.tr Kh1 (prW_sub rfl rfl)
  have th1_224_71 := Kh1.2 224 71 rfl
  have th1_224_73 := Kh1.2 224 73 rfl
  have th1_224_74 := Kh1.2 224 74 rfl
  have th1_224_85 := Kh1.2 224 85 rfl
  refine sx_aload_n dX12_topFor_8 rfl ?_
  refine sx_iload_n dX12_topFor_9 rfl ?_
  refine sy_putI (k := 71) cl_12 fl_X12_142 dX12_topFor_10 s_224 (by decide) rfl (by decide) rfl rfl (fun h3 eh3 => ?_)
  have Ih3 := Ih1.up eh3 (show (-1 : Int) ≤ _ ∧ _ ≤ (14 : Int) from ⟨by omega, by omega⟩) rfl
  have th3_224_67 := eh3.2 (224) 67 (by decide)
  have th3_224_68 := eh3.2 (224) 68 (by decide)
  have th3_224_71 := eh3.1
  have th3_224_73 := eh3.2 (224) 73 (by decide)
  have th3_224_74 := eh3.2 (224) 74 (by decide)
  have th3_224_85 := eh3.2 (224) 85 (by decide)
  refine sx_aload_n dX12_topFor_13 rfl ?_
  refine sx_aload_n dX12_topFor_14 rfl ?_
  refine sx_callVi lk_X12_497 cl_12 s_224 (by decide) dX12_topFor_15 (vs := []) rfl rfl (Nat.le_of_ble_eq_true rfl) (Nat.le_of_ble_eq_true rfl) rfl (c_X12_lots _ Ih3.1) (fun x5 h4 ph4 => ?_)
  obtain ⟨rfl, p_x5⟩ := ph4
  have el : x5 - 1 = lst h0 := by have q := p_x5.1; rw [Ih3.2 224 36 rfl, Ih3.2 227 _ rfl] at q; unfold lst; omega
  refine sx_iconst dX12_topFor_18 ⟨by decide, by decide⟩ ?_
  have CE : ∀ a k, (a = 224 ∧ k = 36) ∨ (227 ≤ a ∧ a ≤ 248) → h3 a k = h0 a k := (fun a k q => Ih3.2 a k (by rcases q with ⟨rfl, rfl⟩ | ⟨q1, q2⟩; rfl; exact prW_cd rfl rfl q1 q2))
  have CD : cdK (hT h0 y1) h3 := cdK_T CE (by omega)
  refine sx_isub dX12_topFor_19 ?_
  refine sy_topw (by omega) ?_
  refine sx_callVv lk_X12_573 cl_12 s_224 (by decide) dX12_topFor_20 (vs := [_]) rfl rfl (Nat.le_of_ble_eq_true rfl) (Nat.le_of_ble_eq_true rfl) rfl (c_X12_runWord _ Ih3.1 nd la hi _ (by omega) (by rw [el]; exact Wds_cd CD cb5) (by rw [el]; exact Wd_cd CD cb4) (by omega)) (fun h6 ph6 => ?_)
  obtain ⟨Kh6, c_h6⟩ := ph6
  have Ih6 := Ih3.tr Kh6 (prW_sub rfl rfl)
  have th6_224_71 := Kh6.2 224 71 rfl
  have th6_224_73 := Kh6.2 224 73 rfl
  have th6_224_74 := Kh6.2 224 74 rfl
  have th6_224_85 := Kh6.2 224 85 rfl
  refine sx_aload_n dX12_topFor_23 rfl ?_
  refine sx_iconst dX12_topFor_24 ⟨by decide, by decide⟩ ?_
  refine sy_putI (k := 71) cl_12 fl_X12_142 dX12_topFor_25 s_224 (by decide) rfl (by decide) rfl rfl (fun h8 eh8 => ?_)
  have Ih8 := Ih6.up eh8 (show (-1 : Int) ≤ _ ∧ _ ≤ (14 : Int) from ⟨by omega, by omega⟩) rfl
  have th8_224_67 := eh8.2 (224) 67 (by decide)
  have th8_224_68 := eh8.2 (224) 68 (by decide)
  have th8_224_71 := eh8.1
  have th8_224_73 := eh8.2 (224) 73 (by decide)
  have th8_224_74 := eh8.2 (224) 74 (by decide)
  have th8_224_85 := eh8.2 (224) 85 (by decide)
  refine sx_aload_n dX12_topFor_28 rfl ?_
  refine sx_getS (k := 62) (t := 262) cl_12 fl_X12_127 dX12_topFor_29 s_224 (by decide) rfl (by decide) ?_
  refine sx_aload_n dX12_topFor_32 rfl ?_
  refine sx_getI (k := 67) cl_12 fl_X12_522 dX12_topFor_33 s_224 (by decide) rfl (by decide) ?_
  refine sx_iconst dX12_topFor_36 ⟨by decide, by decide⟩ ?_
  refine sx_isub dX12_topFor_37 ?_
  refine sy_topw (by omega) ?_
  refine sx_iaload dX12_topFor_38 s_262 (by decide) (by decide) ⟨by omega, by omega⟩ ?_
  refine sx_ireturn dX12_topFor_39 ?_
  exact ⟨_, rfl, ⟨Ih8, by omega⟩⟩
set_option maxRecDepth 20000 in
set_option maxHeartbeats 4000000 in
theorem c_X12_doesFit {G : sw_G} (d : Nat) {h0 : sw_H} (hJ : mI h0) (y1 y2 : Int) (hB : mB h0) (ht : 0 ≤ y1 ∧ y1 ≤ 14) (hc : CB h0 y1)  : sw_E G NH SH (d + 6) mX12_doesFit 0 [some (sw_r 224), some (sw_i y1), some (sw_i y2), none] [] h0 (sw_Qz (fun z h' => mK (prW [67, 68, 69, 70, 71] [262, 263, 264, 265, 266]) h0 h' ∧ (h' 224 71 = -1 ∧ h' 224 73 = h0 224 73 ∧ h' 224 74 = h0 224 74 ∧ h' 224 85 = h0 224 85))) := by
  have hI : mK (prW [67, 68, 69, 70, 71] [262, 263, 264, 265, 266]) h0 h0 := mK.refl hJ
  have hB2 := hB.2
  refine sx_iconst dX12_doesFit_0 ⟨by decide, by decide⟩ ?_
  refine sx_istore_n dX12_doesFit_1 (by decide) ?_
  refine sx_loop1 (fun (h : sw_H) (n : Int) => (mK (prW [67, 68, 69, 70, 71] [262, 263, 264, 265, 266]) h0 h) ∧ (0 ≤ n) ∧ (h 224 71 = -1) ∧ (h 224 73 = h0 224 73) ∧ (h 224 74 = h0 224 74) ∧ (h 224 85 = h0 224 85)) (fun (h : sw_H) (n : Int) => (60 - n).toNat) (fun (h : sw_H) (n : Int) => sw_E G NH SH (d + 6) mX12_doesFit 2 [some (sw_r 224), some (sw_i y1), some (sw_i y2), some (sw_i n)] [] h (sw_Qz (fun z h' => mK (prW [67, 68, 69, 70, 71] [262, 263, 264, 265, 266]) h0 h' ∧ (h' 224 71 = -1 ∧ h' 224 73 = h0 224 73 ∧ h' 224 74 = h0 224 74 ∧ h' 224 85 = h0 224 85)))) ?_ _ _ ?_
  · rintro h1 n_2 ⟨Ih1, j3, j4, j5, j6, j7⟩ ihh1
    try dsimp only at ihh1
    refine sx_iload_n dX12_doesFit_2 rfl ?_
    refine sx_aload_n dX12_doesFit_3 rfl ?_
    refine sx_getI (k := 99) cl_12 fl_X12_513 dX12_doesFit_4 s_224 (by decide) rfl (by decide) ?_
    have r8 : (0 : Int) ≤ h1 224 99 ∧ h1 224 99 ≤ 30 := Ih1.1 224 99
    refine sx_icmp_ge (tgt := 105) dX12_doesFit_7 (by decide) (fun c9 => ?_) (fun c9 => ?_)
    ·
      refine sx_iconst dX12_doesFit_105 ⟨by decide, by decide⟩ ?_
      refine sx_ireturn dX12_doesFit_106 ?_
      exact ⟨_, rfl, by omega, ⟨Ih1, by omega⟩⟩
    ·
      refine sx_aload_n dX12_doesFit_10 rfl ?_
      refine sx_getS (k := 95) (t := 284) cl_12 fl_X12_199 dX12_doesFit_11 s_224 (by decide) rfl (by decide) ?_
      refine sx_iload_n dX12_doesFit_14 rfl ?_
      refine sx_iaload dX12_doesFit_15 s_284 (by decide) (by decide) ⟨by omega, by omega⟩ ?_
      refine sx_iload_n dX12_doesFit_16 rfl ?_
      refine sx_icmp_gt (tgt := 99) dX12_doesFit_17 (by decide) (fun c10 => ?_) (fun c10 => ?_)
      ·
        refine sx_iinc dX12_doesFit_99 (by decide) rfl ?_
        rw [sw_w_id (by omega) (by omega)]
        refine sx_goto (tgt := 2) dX12_doesFit_102 (by decide) ?_
        exact ihh1 _ _ ⟨Ih1, by omega, by omega, by omega, by omega, by omega⟩ (by exact sy_dec (by omega) (by omega))
      ·
        refine sx_aload_n dX12_doesFit_20 rfl ?_
        refine sx_getS (k := 96) (t := 285) cl_12 fl_X12_202 dX12_doesFit_21 s_224 (by decide) rfl (by decide) ?_
        refine sx_iload_n dX12_doesFit_24 rfl ?_
        refine sx_iaload dX12_doesFit_25 s_285 (by decide) (by decide) ⟨by omega, by omega⟩ ?_
        refine sx_if_lt (tgt := 42) dX12_doesFit_26 (by decide) (fun c11 => ?_) (fun c11 => ?_)
        ·
          refine sx_aload_n dX12_doesFit_42 rfl ?_
          refine sx_iload_n dX12_doesFit_43 rfl ?_
          refine sx_aload_n dX12_doesFit_44 rfl ?_
          refine sx_getS (k := 90) (t := 279) cl_12 fl_X12_184 dX12_doesFit_45 s_224 (by decide) rfl (by decide) ?_
          refine sx_iload_n dX12_doesFit_48 rfl ?_
          refine sx_iaload dX12_doesFit_49 s_279 (by decide) (by decide) ⟨by omega, by omega⟩ ?_
          refine sx_aload_n dX12_doesFit_50 rfl ?_
          refine sx_getS (k := 91) (t := 280) cl_12 fl_X12_187 dX12_doesFit_51 s_224 (by decide) rfl (by decide) ?_
          refine sx_iload_n dX12_doesFit_54 rfl ?_
          refine sx_iaload dX12_doesFit_55 s_280 (by decide) (by decide) ⟨by omega, by omega⟩ ?_
          refine sx_aload_n dX12_doesFit_56 rfl ?_
          refine sx_getS (k := 92) (t := 281) cl_12 fl_X12_190 dX12_doesFit_57 s_224 (by decide) rfl (by decide) ?_
          refine sx_iload_n dX12_doesFit_60 rfl ?_
          refine sx_iaload dX12_doesFit_61 s_281 (by decide) (by decide) ⟨by omega, by omega⟩ ?_
          refine sx_callVi lk_X12_683 cl_12 s_224 (by decide) dX12_doesFit_62 (vs := [_, _, _, _]) rfl rfl (Nat.le_of_ble_eq_true rfl) (Nat.le_of_ble_eq_true rfl) rfl (c_X12_topFor _ Ih1.1 _ _ _ _ (⟨mC_mK Ih1 rfl rfl hJ hB.1, by omega, by omega, by omega⟩) (by omega) (CB_cd (fun a k q => Ih1.2 a k (by rcases q with ⟨rfl, rfl⟩ | ⟨q1, q2⟩; rfl; exact prW_cd rfl rfl q1 q2)) hc)) (fun x13 h12 ph12 => ?_)
          obtain ⟨Kh12, r_h12⟩ := ph12
          have Ih12 := Ih1.tr Kh12 (prW_sub rfl rfl)
          have th12_224_73 := Kh12.2 224 73 rfl
          have th12_224_74 := Kh12.2 224 74 rfl
          have th12_224_85 := Kh12.2 224 85 rfl
          refine sx_aload_n dX12_doesFit_65 rfl ?_
          refine sx_getS (k := 93) (t := 282) cl_12 fl_X12_193 dX12_doesFit_66 s_224 (by decide) rfl (by decide) ?_
          refine sx_iload_n dX12_doesFit_69 rfl ?_
          refine sx_iaload dX12_doesFit_70 s_282 (by decide) (by decide) ⟨by omega, by omega⟩ ?_
          refine sx_icmp_ne (tgt := 78) dX12_doesFit_71 (by decide) (fun c14 => ?_) (fun c14 => ?_)
          ·
            refine sx_iconst dX12_doesFit_78 ⟨by decide, by decide⟩ ?_
            refine sx_aload_n dX12_doesFit_79 rfl ?_
            refine sx_getS (k := 94) (t := 283) cl_12 fl_X12_196 dX12_doesFit_80 s_224 (by decide) rfl (by decide) ?_
            refine sx_iload_n dX12_doesFit_83 rfl ?_
            refine sx_iaload dX12_doesFit_84 s_283 (by decide) (by decide) ⟨by omega, by omega⟩ ?_
            refine sx_iconst dX12_doesFit_85 ⟨by decide, by decide⟩ ?_
            refine sx_icmp_ne (tgt := 93) dX12_doesFit_86 (by decide) (fun c15 => ?_) (fun c15 => ?_)
            ·
              refine sx_iconst dX12_doesFit_93 ⟨by decide, by decide⟩ ?_
              refine sx_icmp_eq (tgt := 99) dX12_doesFit_94 (by decide) (fun c16 => ?_) (fun c16 => ?_)
              ·
                refine sx_iinc dX12_doesFit_99 (by decide) rfl ?_
                rw [sw_w_id (by omega) (by omega)]
                refine sx_goto (tgt := 2) dX12_doesFit_102 (by decide) ?_
                exact ihh1 _ _ ⟨Ih12, by omega, by omega, by omega, by omega, by omega⟩ (by exact sy_dec (by omega) (by omega))
              ·
                exact absurd c16 (by decide)
            ·
              refine sx_iconst dX12_doesFit_89 ⟨by decide, by decide⟩ ?_
              refine sx_goto (tgt := 94) dX12_doesFit_90 (by decide) ?_
              refine sx_icmp_eq (tgt := 99) dX12_doesFit_94 (by decide) (fun c17 => ?_) (fun c17 => ?_)
              ·
                exact absurd c17 (by decide)
              ·
                refine sx_iconst dX12_doesFit_97 ⟨by decide, by decide⟩ ?_
                refine sx_ireturn dX12_doesFit_98 ?_
                exact ⟨_, rfl, by omega, ⟨Ih12, by omega⟩⟩
          ·
            refine sx_iconst dX12_doesFit_74 ⟨by decide, by decide⟩ ?_
            refine sx_goto (tgt := 79) dX12_doesFit_75 (by decide) ?_
            refine sx_aload_n dX12_doesFit_79 rfl ?_
            refine sx_getS (k := 94) (t := 283) cl_12 fl_X12_196 dX12_doesFit_80 s_224 (by decide) rfl (by decide) ?_
            refine sx_iload_n dX12_doesFit_83 rfl ?_
            refine sx_iaload dX12_doesFit_84 s_283 (by decide) (by decide) ⟨by omega, by omega⟩ ?_
            refine sx_iconst dX12_doesFit_85 ⟨by decide, by decide⟩ ?_
            refine sx_icmp_ne (tgt := 93) dX12_doesFit_86 (by decide) (fun c18 => ?_) (fun c18 => ?_)
            ·
              refine sx_iconst dX12_doesFit_93 ⟨by decide, by decide⟩ ?_
              refine sx_icmp_eq (tgt := 99) dX12_doesFit_94 (by decide) (fun c19 => ?_) (fun c19 => ?_)
              ·
                exact absurd c19 (by decide)
              ·
                refine sx_iconst dX12_doesFit_97 ⟨by decide, by decide⟩ ?_
                refine sx_ireturn dX12_doesFit_98 ?_
                exact ⟨_, rfl, by omega, ⟨Ih12, by omega⟩⟩
            ·
              refine sx_iconst dX12_doesFit_89 ⟨by decide, by decide⟩ ?_
              refine sx_goto (tgt := 94) dX12_doesFit_90 (by decide) ?_
              refine sx_icmp_eq (tgt := 99) dX12_doesFit_94 (by decide) (fun c20 => ?_) (fun c20 => ?_)
              ·
                refine sx_iinc dX12_doesFit_99 (by decide) rfl ?_
                rw [sw_w_id (by omega) (by omega)]
                refine sx_goto (tgt := 2) dX12_doesFit_102 (by decide) ?_
                exact ihh1 _ _ ⟨Ih12, by omega, by omega, by omega, by omega, by omega⟩ (by exact sy_dec (by omega) (by omega))
              ·
                exact absurd c20 (by decide)
        ·
          refine sx_aload_n dX12_doesFit_29 rfl ?_
          refine sx_getS (k := 96) (t := 285) cl_12 fl_X12_202 dX12_doesFit_30 s_224 (by decide) rfl (by decide) ?_
          refine sx_iload_n dX12_doesFit_33 rfl ?_
          refine sx_iaload dX12_doesFit_34 s_285 (by decide) (by decide) ⟨by omega, by omega⟩ ?_
          refine sx_iload_n dX12_doesFit_35 rfl ?_
          refine sx_icmp_gt (tgt := 42) dX12_doesFit_36 (by decide) (fun c21 => ?_) (fun c21 => ?_)
          ·
            refine sx_aload_n dX12_doesFit_42 rfl ?_
            refine sx_iload_n dX12_doesFit_43 rfl ?_
            refine sx_aload_n dX12_doesFit_44 rfl ?_
            refine sx_getS (k := 90) (t := 279) cl_12 fl_X12_184 dX12_doesFit_45 s_224 (by decide) rfl (by decide) ?_
            refine sx_iload_n dX12_doesFit_48 rfl ?_
            refine sx_iaload dX12_doesFit_49 s_279 (by decide) (by decide) ⟨by omega, by omega⟩ ?_
            refine sx_aload_n dX12_doesFit_50 rfl ?_
            refine sx_getS (k := 91) (t := 280) cl_12 fl_X12_187 dX12_doesFit_51 s_224 (by decide) rfl (by decide) ?_
            refine sx_iload_n dX12_doesFit_54 rfl ?_
            refine sx_iaload dX12_doesFit_55 s_280 (by decide) (by decide) ⟨by omega, by omega⟩ ?_
            refine sx_aload_n dX12_doesFit_56 rfl ?_
            refine sx_getS (k := 92) (t := 281) cl_12 fl_X12_190 dX12_doesFit_57 s_224 (by decide) rfl (by decide) ?_
            refine sx_iload_n dX12_doesFit_60 rfl ?_
            refine sx_iaload dX12_doesFit_61 s_281 (by decide) (by decide) ⟨by omega, by omega⟩ ?_
            refine sx_callVi lk_X12_683 cl_12 s_224 (by decide) dX12_doesFit_62 (vs := [_, _, _, _]) rfl rfl (Nat.le_of_ble_eq_true rfl) (Nat.le_of_ble_eq_true rfl) rfl (c_X12_topFor _ Ih1.1 _ _ _ _ (⟨mC_mK Ih1 rfl rfl hJ hB.1, by omega, by omega, by omega⟩) (by omega) (CB_cd (fun a k q => Ih1.2 a k (by rcases q with ⟨rfl, rfl⟩ | ⟨q1, q2⟩; rfl; exact prW_cd rfl rfl q1 q2)) hc)) (fun x23 h22 ph22 => ?_)
            obtain ⟨Kh22, r_h22⟩ := ph22
            have Ih22 := Ih1.tr Kh22 (prW_sub rfl rfl)
            have th22_224_73 := Kh22.2 224 73 rfl
            have th22_224_74 := Kh22.2 224 74 rfl
            have th22_224_85 := Kh22.2 224 85 rfl
            refine sx_aload_n dX12_doesFit_65 rfl ?_
            refine sx_getS (k := 93) (t := 282) cl_12 fl_X12_193 dX12_doesFit_66 s_224 (by decide) rfl (by decide) ?_
            refine sx_iload_n dX12_doesFit_69 rfl ?_
            refine sx_iaload dX12_doesFit_70 s_282 (by decide) (by decide) ⟨by omega, by omega⟩ ?_
            refine sx_icmp_ne (tgt := 78) dX12_doesFit_71 (by decide) (fun c24 => ?_) (fun c24 => ?_)
            ·
              refine sx_iconst dX12_doesFit_78 ⟨by decide, by decide⟩ ?_
              refine sx_aload_n dX12_doesFit_79 rfl ?_
              refine sx_getS (k := 94) (t := 283) cl_12 fl_X12_196 dX12_doesFit_80 s_224 (by decide) rfl (by decide) ?_
              refine sx_iload_n dX12_doesFit_83 rfl ?_
              refine sx_iaload dX12_doesFit_84 s_283 (by decide) (by decide) ⟨by omega, by omega⟩ ?_
              refine sx_iconst dX12_doesFit_85 ⟨by decide, by decide⟩ ?_
              refine sx_icmp_ne (tgt := 93) dX12_doesFit_86 (by decide) (fun c25 => ?_) (fun c25 => ?_)
              ·
                refine sx_iconst dX12_doesFit_93 ⟨by decide, by decide⟩ ?_
                refine sx_icmp_eq (tgt := 99) dX12_doesFit_94 (by decide) (fun c26 => ?_) (fun c26 => ?_)
                ·
                  refine sx_iinc dX12_doesFit_99 (by decide) rfl ?_
                  rw [sw_w_id (by omega) (by omega)]
                  refine sx_goto (tgt := 2) dX12_doesFit_102 (by decide) ?_
                  exact ihh1 _ _ ⟨Ih22, by omega, by omega, by omega, by omega, by omega⟩ (by exact sy_dec (by omega) (by omega))
                ·
                  exact absurd c26 (by decide)
              ·
                refine sx_iconst dX12_doesFit_89 ⟨by decide, by decide⟩ ?_
                refine sx_goto (tgt := 94) dX12_doesFit_90 (by decide) ?_
                refine sx_icmp_eq (tgt := 99) dX12_doesFit_94 (by decide) (fun c27 => ?_) (fun c27 => ?_)
                ·
                  exact absurd c27 (by decide)
                ·
                  refine sx_iconst dX12_doesFit_97 ⟨by decide, by decide⟩ ?_
                  refine sx_ireturn dX12_doesFit_98 ?_
                  exact ⟨_, rfl, by omega, ⟨Ih22, by omega⟩⟩
            ·
              refine sx_iconst dX12_doesFit_74 ⟨by decide, by decide⟩ ?_
              refine sx_goto (tgt := 79) dX12_doesFit_75 (by decide) ?_
              refine sx_aload_n dX12_doesFit_79 rfl ?_
              refine sx_getS (k := 94) (t := 283) cl_12 fl_X12_196 dX12_doesFit_80 s_224 (by decide) rfl (by decide) ?_
              refine sx_iload_n dX12_doesFit_83 rfl ?_
              refine sx_iaload dX12_doesFit_84 s_283 (by decide) (by decide) ⟨by omega, by omega⟩ ?_
              refine sx_iconst dX12_doesFit_85 ⟨by decide, by decide⟩ ?_
              refine sx_icmp_ne (tgt := 93) dX12_doesFit_86 (by decide) (fun c28 => ?_) (fun c28 => ?_)
              ·
                refine sx_iconst dX12_doesFit_93 ⟨by decide, by decide⟩ ?_
                refine sx_icmp_eq (tgt := 99) dX12_doesFit_94 (by decide) (fun c29 => ?_) (fun c29 => ?_)
                ·
                  exact absurd c29 (by decide)
                ·
                  refine sx_iconst dX12_doesFit_97 ⟨by decide, by decide⟩ ?_
                  refine sx_ireturn dX12_doesFit_98 ?_
                  exact ⟨_, rfl, by omega, ⟨Ih22, by omega⟩⟩
              ·
                refine sx_iconst dX12_doesFit_89 ⟨by decide, by decide⟩ ?_
                refine sx_goto (tgt := 94) dX12_doesFit_90 (by decide) ?_
                refine sx_icmp_eq (tgt := 99) dX12_doesFit_94 (by decide) (fun c30 => ?_) (fun c30 => ?_)
                ·
                  refine sx_iinc dX12_doesFit_99 (by decide) rfl ?_
                  rw [sw_w_id (by omega) (by omega)]
                  refine sx_goto (tgt := 2) dX12_doesFit_102 (by decide) ?_
                  exact ihh1 _ _ ⟨Ih22, by omega, by omega, by omega, by omega, by omega⟩ (by exact sy_dec (by omega) (by omega))
                ·
                  exact absurd c30 (by decide)
          ·
            refine sx_goto (tgt := 99) dX12_doesFit_39 (by decide) ?_
            refine sx_iinc dX12_doesFit_99 (by decide) rfl ?_
            rw [sw_w_id (by omega) (by omega)]
            refine sx_goto (tgt := 2) dX12_doesFit_102 (by decide) ?_
            exact ihh1 _ _ ⟨Ih1, by omega, by omega, by omega, by omega, by omega⟩ (by exact sy_dec (by omega) (by omega))
  · exact ⟨hI, by omega, by omega, by omega, by omega, by omega⟩
set_option maxRecDepth 20000 in
set_option maxHeartbeats 4000000 in
theorem c_X12_layFits {G : sw_G} (d : Nat) {h0 : sw_H} (hJ : mI h0) (b : Nat) (y1 : Int) (hb : h0 224 36 = 1 - (b : Int) ∧ b ≤ 1) (hB : mB h0)  : sw_E G NH SH (d + 7) mX12_layFits 0 [some (sw_r 224), some (sw_i y1), none, none] [] h0 (sw_Qi (fun z h' => mK (prW [51, 52, 53, 54, 55, 56, 57, 58, 67, 68, 69, 70, 71] [243, 252, 253, 254, 255, 256, 257, 258, 259, 260, 262, 263, 264, 265, 266, 287]) h0 h' ∧ (∀ k, h' 243 k = h0 243 k) ∧ (h' 224 71 = -1 ∧ h' 224 73 = h0 224 73 ∧ h' 224 74 = h0 224 74 ∧ h' 224 85 = h0 224 85) ∧ (∀ j : Nat, j < 15 → h' 287 j ≠ 0 → CB h0 j) ∧ (0 ≤ z ∧ z ≤ 15))) := by
  have hI : mK (prW [51, 52, 53, 54, 55, 56, 57, 58, 67, 68, 69, 70, 71] [243, 252, 253, 254, 255, 256, 257, 258, 259, 260, 262, 263, 264, 265, 266, 287]) h0 h0 := mK.refl hJ
  have hB2 := hB.2
  refine sx_iconst dX12_layFits_0 ⟨by decide, by decide⟩ ?_
  refine sx_istore_n dX12_layFits_1 (by decide) ?_
  refine sx_iconst dX12_layFits_2 ⟨by decide, by decide⟩ ?_
  refine sx_istore_n dX12_layFits_3 (by decide) ?_
  refine sx_loop2 (fun (h : sw_H) (n : Int) (t : Int) => (mK (prW [51, 52, 53, 54, 55, 56, 57, 58, 67, 68, 69, 70, 71] [243, 252, 253, 254, 255, 256, 257, 258, 259, 260, 262, 263, 264, 265, 266, 287]) h0 h) ∧ (0 ≤ t ∧ t ≤ 15) ∧ (0 ≤ n) ∧ (n ≤ t) ∧ (∀ k, h 243 k = h0 243 k) ∧ (∀ j : Nat, (j : Int) < t → h 287 j ≠ 0 → CB h0 j) ∧ (h 224 71 = -1) ∧ (h 224 73 = h0 224 73) ∧ (h 224 74 = h0 224 74) ∧ (h 224 85 = h0 224 85)) (fun (h : sw_H) (n : Int) (t : Int) => (20 - t).toNat) (fun (h : sw_H) (n : Int) (t : Int) => sw_E G NH SH (d + 7) mX12_layFits 4 [some (sw_r 224), some (sw_i y1), some (sw_i n), some (sw_i t)] [] h (sw_Qi (fun z h' => mK (prW [51, 52, 53, 54, 55, 56, 57, 58, 67, 68, 69, 70, 71] [243, 252, 253, 254, 255, 256, 257, 258, 259, 260, 262, 263, 264, 265, 266, 287]) h0 h' ∧ (∀ k, h' 243 k = h0 243 k) ∧ (h' 224 71 = -1 ∧ h' 224 73 = h0 224 73 ∧ h' 224 74 = h0 224 74 ∧ h' 224 85 = h0 224 85) ∧ (∀ j : Nat, j < 15 → h' 287 j ≠ 0 → CB h0 j) ∧ (0 ≤ z ∧ z ≤ 15)))) ?_ _ _ _ ?_
  · rintro h1 n_2 t_3 ⟨Ih1, jt, jn, jn2, jg, jf, j71, j73, j74, j85⟩ ihh1
    try dsimp only at ihh1
    refine sx_iload_n dX12_layFits_4 rfl ?_
    refine sx_bipush dX12_layFits_5 ⟨by decide, by decide, by decide⟩ ?_
    refine sx_icmp_ge (tgt := 61) dX12_layFits_7 (by decide) (fun c4 => ?_) (fun c4 => ?_)
    ·
      refine sx_iload_n dX12_layFits_61 rfl ?_
      refine sx_ireturn dX12_layFits_62 ?_
      exact ⟨_, rfl, ⟨Ih1, jg, by omega, fun j hj hz => jf j (by omega) hz, by omega⟩⟩
    ·
      have HBt : mB h1 := ⟨mC_cd (cd_g Ih1 rfl rfl jg) hJ hB.1, by omega, by omega, by omega⟩
      refine sx_aload_n dX12_layFits_10 rfl ?_
      refine sx_getS (k := 98) (t := 287) cl_12 fl_X12_208 dX12_layFits_11 s_224 (by decide) rfl (by decide) ?_
      refine sx_iload_n dX12_layFits_14 rfl ?_
      refine sx_aload_n dX12_layFits_15 rfl ?_
      refine sx_iload_n dX12_layFits_16 rfl ?_
      refine sx_callVz lk_X12_686 cl_12 s_224 (by decide) dX12_layFits_17 (vs := [_]) rfl rfl (Nat.le_of_ble_eq_true rfl) (Nat.le_of_ble_eq_true rfl) rfl (c_X12_couldBe _ Ih1.1 b _ (by rw [Ih1.2 224 36 rfl]; omega) (HBt) (by omega)) (fun x6 h5 zx6 ph5 => ?_)
      obtain ⟨Kh5, g_h5, r_h5, c_h5⟩ := ph5
      have Ih5 := Ih1.tr Kh5 (prW_sub rfl rfl)
      have th5_224_67 := Kh5.2 224 67 rfl
      have th5_224_68 := Kh5.2 224 68 rfl
      have th5_224_73 := Kh5.2 224 73 rfl
      have th5_224_74 := Kh5.2 224 74 rfl
      have th5_224_85 := Kh5.2 224 85 rfl
      have HBc : mB h5 := ⟨mC_cd (cd_g ((Ih1).tr Kh5 (prW_sub rfl rfl)) rfl rfl (fun k => (g_h5 k).trans (jg k))) hJ hB.1, by omega, by omega, by omega⟩
      refine sx_if_eq (tgt := 36) dX12_layFits_20 (by decide) (fun c7 => ?_) (fun c7 => ?_)
      ·
        clear zx6
        refine sx_iconst dX12_layFits_36 ⟨by decide, by decide⟩ ?_
        refine sy_zastore dX12_layFits_37 s_287 (by decide) (by decide) ⟨by omega, by omega⟩ (by first | exact Or.inr rfl | exact Or.inl rfl) (fun h8 eh8 => ?_)
        have Ih8 := Ih5.up eh8 trivial rfl
        have th8_224_67 := eh8.2 (224) 67 (fun q => absurd q.1 (by decide))
        have th8_224_68 := eh8.2 (224) 68 (fun q => absurd q.1 (by decide))
        have th8_224_71 := eh8.2 (224) 71 (fun q => absurd q.1 (by decide))
        have th8_224_73 := eh8.2 (224) 73 (fun q => absurd q.1 (by decide))
        have th8_224_74 := eh8.2 (224) 74 (fun q => absurd q.1 (by decide))
        have th8_224_85 := eh8.2 (224) 85 (fun q => absurd q.1 (by decide))
        have jg2 : ∀ k, h8 243 k = h0 243 k := fun k => by rw [eh8.2 243 k (fun q => absurd q.1 (by decide)), g_h5 k]; exact jg k
        have jf2 : ∀ j : Nat, (j : Int) < t_3 + 1 → h8 287 j ≠ 0 → CB h0 j := fun j hj hz => by rw [eh8.at 287 j] at hz; simp only [true_and] at hz; by_cases q : j = (t_3).toNat; (rw [if_pos q] at hz; rw [show ((j : Nat) : Int) = t_3 by omega]; first | (exact absurd rfl hz) | (exact CB_cd (fun a k q => (cd_g Ih1 rfl rfl jg a k q).symm) (c_h5 (by omega)))); (rw [if_neg q] at hz; exact jf j (by omega) (by rw [show h5 287 j = _ from Kh5.2 287 j rfl] at hz; exact hz))
        refine sx_iload_n dX12_layFits_38 rfl ?_
        refine sx_aload_n dX12_layFits_39 rfl ?_
        refine sx_getS (k := 98) (t := 287) cl_12 fl_X12_208 dX12_layFits_40 s_224 (by decide) rfl (by decide) ?_
        refine sx_iload_n dX12_layFits_43 rfl ?_
        refine sx_zaload dX12_layFits_44 s_287 (by decide) (by decide) ⟨by omega, by omega⟩ (fun b9 b10 => ?_)
        refine sx_if_eq (tgt := 52) dX12_layFits_45 (by decide) (fun c11 => ?_) (fun c11 => ?_)
        ·
          refine sx_iconst dX12_layFits_52 ⟨by decide, by decide⟩ ?_
          refine sx_iadd dX12_layFits_53 ?_
          refine sy_topw (by omega) ?_
          refine sy_top (fun v12 ev12 => ?_)
          refine sx_istore_n dX12_layFits_54 (by decide) ?_
          refine sx_iinc dX12_layFits_55 (by decide) rfl ?_
          rw [sw_w_id (by omega) (by omega)]
          refine sx_goto (tgt := 4) dX12_layFits_58 (by decide) ?_
          exact ihh1 _ _ _ ⟨Ih8, by omega, by omega, by omega, by exact jg2, by exact jf2, by omega, by omega, by omega, by omega⟩ (by exact sy_dec (by omega) (by omega))
        ·
          refine sx_iconst dX12_layFits_48 ⟨by decide, by decide⟩ ?_
          refine sx_goto (tgt := 53) dX12_layFits_49 (by decide) ?_
          refine sx_iadd dX12_layFits_53 ?_
          refine sy_topw (by omega) ?_
          refine sy_top (fun v13 ev13 => ?_)
          refine sx_istore_n dX12_layFits_54 (by decide) ?_
          refine sx_iinc dX12_layFits_55 (by decide) rfl ?_
          rw [sw_w_id (by omega) (by omega)]
          refine sx_goto (tgt := 4) dX12_layFits_58 (by decide) ?_
          exact ihh1 _ _ _ ⟨Ih8, by omega, by omega, by omega, by exact jg2, by exact jf2, by omega, by omega, by omega, by omega⟩ (by exact sy_dec (by omega) (by omega))
      ·
        have vx6 : x6 = 1 := by rcases zx6 with q | q; (exact absurd q c7); exact q
        clear zx6
        refine sx_aload_n dX12_layFits_23 rfl ?_
        refine sx_iload_n dX12_layFits_24 rfl ?_
        refine sx_iload_n dX12_layFits_25 rfl ?_
        refine sx_callVz lk_X12_689 cl_12 s_224 (by decide) dX12_layFits_26 (vs := [_, _]) rfl rfl (Nat.le_of_ble_eq_true rfl) (Nat.le_of_ble_eq_true rfl) rfl (c_X12_doesFit _ Ih5.1 _ _ (HBc) (by omega) (CB_cd (cd_g Kh5 rfl rfl g_h5) (c_h5 (by omega)))) (fun x15 h14 zx15 ph14 => ?_)
        obtain ⟨Kh14, r_h14⟩ := ph14
        have Ih14 := Ih5.tr Kh14 (prW_sub rfl rfl)
        have th14_224_73 := Kh14.2 224 73 rfl
        have th14_224_74 := Kh14.2 224 74 rfl
        have th14_224_85 := Kh14.2 224 85 rfl
        refine sx_if_eq (tgt := 36) dX12_layFits_29 (by decide) (fun c16 => ?_) (fun c16 => ?_)
        ·
          clear zx15
          refine sx_iconst dX12_layFits_36 ⟨by decide, by decide⟩ ?_
          refine sy_zastore dX12_layFits_37 s_287 (by decide) (by decide) ⟨by omega, by omega⟩ (by first | exact Or.inr rfl | exact Or.inl rfl) (fun h17 eh17 => ?_)
          have Ih17 := Ih14.up eh17 trivial rfl
          have th17_224_67 := eh17.2 (224) 67 (fun q => absurd q.1 (by decide))
          have th17_224_68 := eh17.2 (224) 68 (fun q => absurd q.1 (by decide))
          have th17_224_71 := eh17.2 (224) 71 (fun q => absurd q.1 (by decide))
          have th17_224_73 := eh17.2 (224) 73 (fun q => absurd q.1 (by decide))
          have th17_224_74 := eh17.2 (224) 74 (fun q => absurd q.1 (by decide))
          have th17_224_85 := eh17.2 (224) 85 (fun q => absurd q.1 (by decide))
          have jg2 : ∀ k, h17 243 k = h0 243 k := fun k => by rw [eh17.2 243 k (fun q => absurd q.1 (by decide)), show h14 243 k = _ from Kh14.2 243 k rfl, g_h5 k]; exact jg k
          have jf2 : ∀ j : Nat, (j : Int) < t_3 + 1 → h17 287 j ≠ 0 → CB h0 j := fun j hj hz => by rw [eh17.at 287 j] at hz; simp only [true_and] at hz; by_cases q : j = (t_3).toNat; (rw [if_pos q] at hz; rw [show ((j : Nat) : Int) = t_3 by omega]; first | (exact absurd rfl hz) | (exact CB_cd (fun a k q => (cd_g Ih1 rfl rfl jg a k q).symm) (c_h5 (by omega)))); (rw [if_neg q] at hz; exact jf j (by omega) (by rw [show h14 287 j = _ from Kh14.2 287 j rfl, show h5 287 j = _ from Kh5.2 287 j rfl] at hz; exact hz))
          refine sx_iload_n dX12_layFits_38 rfl ?_
          refine sx_aload_n dX12_layFits_39 rfl ?_
          refine sx_getS (k := 98) (t := 287) cl_12 fl_X12_208 dX12_layFits_40 s_224 (by decide) rfl (by decide) ?_
          refine sx_iload_n dX12_layFits_43 rfl ?_
          refine sx_zaload dX12_layFits_44 s_287 (by decide) (by decide) ⟨by omega, by omega⟩ (fun b18 b19 => ?_)
          refine sx_if_eq (tgt := 52) dX12_layFits_45 (by decide) (fun c20 => ?_) (fun c20 => ?_)
          ·
            refine sx_iconst dX12_layFits_52 ⟨by decide, by decide⟩ ?_
            refine sx_iadd dX12_layFits_53 ?_
            refine sy_topw (by omega) ?_
            refine sy_top (fun v21 ev21 => ?_)
            refine sx_istore_n dX12_layFits_54 (by decide) ?_
            refine sx_iinc dX12_layFits_55 (by decide) rfl ?_
            rw [sw_w_id (by omega) (by omega)]
            refine sx_goto (tgt := 4) dX12_layFits_58 (by decide) ?_
            exact ihh1 _ _ _ ⟨Ih17, by omega, by omega, by omega, by exact jg2, by exact jf2, by omega, by omega, by omega, by omega⟩ (by exact sy_dec (by omega) (by omega))
          ·
            refine sx_iconst dX12_layFits_48 ⟨by decide, by decide⟩ ?_
            refine sx_goto (tgt := 53) dX12_layFits_49 (by decide) ?_
            refine sx_iadd dX12_layFits_53 ?_
            refine sy_topw (by omega) ?_
            refine sy_top (fun v22 ev22 => ?_)
            refine sx_istore_n dX12_layFits_54 (by decide) ?_
            refine sx_iinc dX12_layFits_55 (by decide) rfl ?_
            rw [sw_w_id (by omega) (by omega)]
            refine sx_goto (tgt := 4) dX12_layFits_58 (by decide) ?_
            exact ihh1 _ _ _ ⟨Ih17, by omega, by omega, by omega, by exact jg2, by exact jf2, by omega, by omega, by omega, by omega⟩ (by exact sy_dec (by omega) (by omega))
        ·
          have vx15 : x15 = 1 := by rcases zx15 with q | q; (exact absurd q c16); exact q
          clear zx15
          refine sx_iconst dX12_layFits_32 ⟨by decide, by decide⟩ ?_
          refine sx_goto (tgt := 37) dX12_layFits_33 (by decide) ?_
          refine sy_zastore dX12_layFits_37 s_287 (by decide) (by decide) ⟨by omega, by omega⟩ (by first | exact Or.inr rfl | exact Or.inl rfl) (fun h23 eh23 => ?_)
          have Ih23 := Ih14.up eh23 trivial rfl
          have th23_224_67 := eh23.2 (224) 67 (fun q => absurd q.1 (by decide))
          have th23_224_68 := eh23.2 (224) 68 (fun q => absurd q.1 (by decide))
          have th23_224_71 := eh23.2 (224) 71 (fun q => absurd q.1 (by decide))
          have th23_224_73 := eh23.2 (224) 73 (fun q => absurd q.1 (by decide))
          have th23_224_74 := eh23.2 (224) 74 (fun q => absurd q.1 (by decide))
          have th23_224_85 := eh23.2 (224) 85 (fun q => absurd q.1 (by decide))
          have jg2 : ∀ k, h23 243 k = h0 243 k := fun k => by rw [eh23.2 243 k (fun q => absurd q.1 (by decide)), show h14 243 k = _ from Kh14.2 243 k rfl, g_h5 k]; exact jg k
          have jf2 : ∀ j : Nat, (j : Int) < t_3 + 1 → h23 287 j ≠ 0 → CB h0 j := fun j hj hz => by rw [eh23.at 287 j] at hz; simp only [true_and] at hz; by_cases q : j = (t_3).toNat; (rw [if_pos q] at hz; rw [show ((j : Nat) : Int) = t_3 by omega]; first | (exact absurd rfl hz) | (exact CB_cd (fun a k q => (cd_g Ih1 rfl rfl jg a k q).symm) (c_h5 (by omega)))); (rw [if_neg q] at hz; exact jf j (by omega) (by rw [show h14 287 j = _ from Kh14.2 287 j rfl, show h5 287 j = _ from Kh5.2 287 j rfl] at hz; exact hz))
          refine sx_iload_n dX12_layFits_38 rfl ?_
          refine sx_aload_n dX12_layFits_39 rfl ?_
          refine sx_getS (k := 98) (t := 287) cl_12 fl_X12_208 dX12_layFits_40 s_224 (by decide) rfl (by decide) ?_
          refine sx_iload_n dX12_layFits_43 rfl ?_
          refine sx_zaload dX12_layFits_44 s_287 (by decide) (by decide) ⟨by omega, by omega⟩ (fun b24 b25 => ?_)
          refine sx_if_eq (tgt := 52) dX12_layFits_45 (by decide) (fun c26 => ?_) (fun c26 => ?_)
          ·
            refine sx_iconst dX12_layFits_52 ⟨by decide, by decide⟩ ?_
            refine sx_iadd dX12_layFits_53 ?_
            refine sy_topw (by omega) ?_
            refine sy_top (fun v27 ev27 => ?_)
            refine sx_istore_n dX12_layFits_54 (by decide) ?_
            refine sx_iinc dX12_layFits_55 (by decide) rfl ?_
            rw [sw_w_id (by omega) (by omega)]
            refine sx_goto (tgt := 4) dX12_layFits_58 (by decide) ?_
            exact ihh1 _ _ _ ⟨Ih23, by omega, by omega, by omega, by exact jg2, by exact jf2, by omega, by omega, by omega, by omega⟩ (by exact sy_dec (by omega) (by omega))
          ·
            refine sx_iconst dX12_layFits_48 ⟨by decide, by decide⟩ ?_
            refine sx_goto (tgt := 53) dX12_layFits_49 (by decide) ?_
            refine sx_iadd dX12_layFits_53 ?_
            refine sy_topw (by omega) ?_
            refine sy_top (fun v28 ev28 => ?_)
            refine sx_istore_n dX12_layFits_54 (by decide) ?_
            refine sx_iinc dX12_layFits_55 (by decide) rfl ?_
            rw [sw_w_id (by omega) (by omega)]
            refine sx_goto (tgt := 4) dX12_layFits_58 (by decide) ?_
            exact ihh1 _ _ _ ⟨Ih23, by omega, by omega, by omega, by exact jg2, by exact jf2, by omega, by omega, by omega, by omega⟩ (by exact sy_dec (by omega) (by omega))
  · exact ⟨hI, by omega, by omega, by omega, by (intro k; rfl), by (intro j hj; omega), by omega, by omega, by omega, by omega⟩
set_option maxRecDepth 20000 in
set_option maxHeartbeats 4000000 in
theorem c_X12_fits {G : sw_G} (d : Nat) {h0 : sw_H} (hJ : mI h0) (y1 : Int) (hB : mB h0)  : sw_E G NH SH (d + 8) mX12_fits 0 [some (sw_r 224), some (sw_i y1)] [] h0 (sw_Qi (fun z h' => mK (prW [51, 52, 53, 54, 55, 56, 57, 58, 67, 68, 69, 70, 71] [243, 252, 253, 254, 255, 256, 257, 258, 259, 260, 262, 263, 264, 265, 266, 287]) h0 h' ∧ (mB h') ∧ (h' 224 100 = h0 224 100))) := by
  have hI : mK (prW [51, 52, 53, 54, 55, 56, 57, 58, 67, 68, 69, 70, 71] [243, 252, 253, 254, 255, 256, 257, 258, 259, 260, 262, 263, 264, 265, 266, 287]) h0 h0 := mK.refl hJ
  obtain ⟨b, hbb⟩ : ∃ b : Nat, h0 224 36 = 1 - (b : Int) ∧ b ≤ 1 := ⟨(1 - h0 224 36).toNat, by have q : (0 : Int) ≤ h0 224 36 ∧ h0 224 36 ≤ 1 := hJ 224 36; omega⟩
  have hB2 := hB.2
  refine sx_aload_n dX12_fits_0 rfl ?_
  refine sx_iload_n dX12_fits_1 rfl ?_
  refine sx_callVi lk_X12_692 cl_12 s_224 (by decide) dX12_fits_2 (vs := [_]) rfl rfl (Nat.le_of_ble_eq_true rfl) (Nat.le_of_ble_eq_true rfl) rfl (c_X12_layFits _ hI.1 b _ (by omega) (hB)) (fun x2 h1 ph1 => ?_)
  obtain ⟨Kh1, g_h1, r_h1, f_h1, n_h1⟩ := ph1
  have Ih1 := hI.tr Kh1 (prW_sub rfl rfl)
  have th1_224_73 := Kh1.2 224 73 rfl
  have th1_224_74 := Kh1.2 224 74 rfl
  have th1_224_85 := Kh1.2 224 85 rfl
  refine sx_ireturn dX12_fits_5 ?_
  exact ⟨_, rfl, ⟨Ih1, ⟨mC_cd (cd_g Ih1 rfl rfl g_h1) hJ hB.1, by omega, by omega, by omega⟩, Ih1.2 224 100 rfl⟩⟩
set_option maxRecDepth 20000 in
set_option maxHeartbeats 4000000 in
theorem c_X12_fit {G : sw_G} (d : Nat) {h0 : sw_H} (hJ : mI h0) (y1 y2 : Int) (hB : mB h0)  : sw_E G NH SH (d + 8) mX12_fit 0 [some (sw_r 224), some (sw_i y1), some (sw_i y2), none, none, none] [] h0 (sw_Qi (fun z h' => mK (prW [51, 52, 53, 54, 55, 56, 57, 58, 67, 68, 69, 70, 71] [243, 252, 253, 254, 255, 256, 257, 258, 259, 260, 262, 263, 264, 265, 266, 287]) h0 h' ∧ (mB h') ∧ (h' 224 100 = h0 224 100))) := by
  have hI : mK (prW [51, 52, 53, 54, 55, 56, 57, 58, 67, 68, 69, 70, 71] [243, 252, 253, 254, 255, 256, 257, 258, 259, 260, 262, 263, 264, 265, 266, 287]) h0 h0 := mK.refl hJ
  obtain ⟨b, hbb⟩ : ∃ b : Nat, h0 224 36 = 1 - (b : Int) ∧ b ≤ 1 := ⟨(1 - h0 224 36).toNat, by have q : (0 : Int) ≤ h0 224 36 ∧ h0 224 36 ≤ 1 := hJ 224 36; omega⟩
  have hB2 := hB.2
  refine sx_aload_n dX12_fit_0 rfl ?_
  refine sx_iload_n dX12_fit_1 rfl ?_
  refine sx_callVi lk_X12_692 cl_12 s_224 (by decide) dX12_fit_2 (vs := [_]) rfl rfl (Nat.le_of_ble_eq_true rfl) (Nat.le_of_ble_eq_true rfl) rfl (c_X12_layFits _ hI.1 b _ (by omega) (hB)) (fun x2 h1 ph1 => ?_)
  obtain ⟨Kh1, g_h1, r_h1, f_h1, n_h1⟩ := ph1
  have Ih1 := hI.tr Kh1 (prW_sub rfl rfl)
  have th1_224_73 := Kh1.2 224 73 rfl
  have th1_224_74 := Kh1.2 224 74 rfl
  have th1_224_85 := Kh1.2 224 85 rfl
  refine sx_istore_n dX12_fit_5 (by decide) ?_
  refine sx_iload_n dX12_fit_6 rfl ?_
  refine sx_istore dX12_fit_7 (by decide) ?_
  refine sx_iconst dX12_fit_9 ⟨by decide, by decide⟩ ?_
  refine sx_istore dX12_fit_10 (by decide) ?_
  refine sx_loop2 (fun (h : sw_H) (left : Int) (t : Int) => (h1 = h) ∧ (0 ≤ t) ∧ (left ≤ y1) ∧ (0 ≤ y1 → 0 ≤ left)) (fun (h : sw_H) (left : Int) (t : Int) => (20 - t).toNat) (fun (h : sw_H) (left : Int) (t : Int) => sw_E G NH SH (d + 8) mX12_fit 12 [some (sw_r 224), some (sw_i y1), some (sw_i y2), some (sw_i x2), some (sw_i left), some (sw_i t)] [] h (sw_Qi (fun z h' => mK (prW [51, 52, 53, 54, 55, 56, 57, 58, 67, 68, 69, 70, 71] [243, 252, 253, 254, 255, 256, 257, 258, 259, 260, 262, 263, 264, 265, 266, 287]) h0 h' ∧ (mB h') ∧ (h' 224 100 = h0 224 100)))) ?_ _ _ _ ?_
  · rintro h3 left_4 t_5 ⟨rfl, j6, j7, j8⟩ ihh3
    try dsimp only at ihh3
    refine sx_iload dX12_fit_12 rfl ?_
    refine sx_bipush dX12_fit_14 ⟨by decide, by decide, by decide⟩ ?_
    refine sx_icmp_ge (tgt := 58) dX12_fit_16 (by decide) (fun c9 => ?_) (fun c9 => ?_)
    ·
      refine sx_iconst dX12_fit_58 ⟨by decide, by decide⟩ ?_
      refine sx_ireturn dX12_fit_59 ?_
      exact ⟨_, rfl, ⟨Ih1, ⟨mC_cd (cd_g Ih1 rfl rfl g_h1) hJ hB.1, by omega, by omega, by omega⟩, Ih1.2 224 100 rfl⟩⟩
    ·
      refine sx_iload_n dX12_fit_19 rfl ?_
      refine sx_if_lt (tgt := 58) dX12_fit_20 (by decide) (fun c10 => ?_) (fun c10 => ?_)
      ·
        refine sx_iconst dX12_fit_58 ⟨by decide, by decide⟩ ?_
        refine sx_ireturn dX12_fit_59 ?_
        exact ⟨_, rfl, ⟨Ih1, ⟨mC_cd (cd_g Ih1 rfl rfl g_h1) hJ hB.1, by omega, by omega, by omega⟩, Ih1.2 224 100 rfl⟩⟩
      ·
        refine sx_iload_n dX12_fit_23 rfl ?_
        refine sx_iload_n dX12_fit_24 rfl ?_
        refine sx_icmp_ge (tgt := 58) dX12_fit_25 (by decide) (fun c11 => ?_) (fun c11 => ?_)
        ·
          refine sx_iconst dX12_fit_58 ⟨by decide, by decide⟩ ?_
          refine sx_ireturn dX12_fit_59 ?_
          exact ⟨_, rfl, ⟨Ih1, ⟨mC_cd (cd_g Ih1 rfl rfl g_h1) hJ hB.1, by omega, by omega, by omega⟩, Ih1.2 224 100 rfl⟩⟩
        ·
          refine sx_aload_n dX12_fit_28 rfl ?_
          refine sx_getS (k := 98) (t := 287) cl_12 fl_X12_208 dX12_fit_29 s_224 (by decide) rfl (by decide) ?_
          refine sx_iload dX12_fit_32 rfl ?_
          refine sx_zaload dX12_fit_34 s_287 (by decide) (by decide) ⟨by omega, by omega⟩ (fun b12 b13 => ?_)
          refine sx_if_ne (tgt := 41) dX12_fit_35 (by decide) (fun c14 => ?_) (fun c14 => ?_)
          ·
            refine sx_iload dX12_fit_41 rfl ?_
            refine sx_if_ne (tgt := 49) dX12_fit_43 (by decide) (fun c15 => ?_) (fun c15 => ?_)
            ·
              refine sx_iinc dX12_fit_49 (by decide) rfl ?_
              rw [sw_w_id (by omega) (by omega)]
              refine sx_iinc dX12_fit_52 (by decide) rfl ?_
              rw [sw_w_id (by omega) (by omega)]
              refine sx_goto (tgt := 12) dX12_fit_55 (by decide) ?_
              exact ihh3 _ _ _ ⟨rfl, by omega, by omega, by omega⟩ (by exact sy_dec (by omega) (by omega))
            ·
              refine sx_iload dX12_fit_46 rfl ?_
              refine sx_ireturn dX12_fit_48 ?_
              exact ⟨_, rfl, ⟨Ih1, ⟨mC_cd (cd_g Ih1 rfl rfl g_h1) hJ hB.1, by omega, by omega, by omega⟩, Ih1.2 224 100 rfl⟩⟩
          ·
            refine sx_goto (tgt := 52) dX12_fit_38 (by decide) ?_
            refine sx_iinc dX12_fit_52 (by decide) rfl ?_
            rw [sw_w_id (by omega) (by omega)]
            refine sx_goto (tgt := 12) dX12_fit_55 (by decide) ?_
            exact ihh3 _ _ _ ⟨rfl, by omega, by omega, by omega⟩ (by exact sy_dec (by omega) (by omega))
  · exact ⟨rfl, by omega, by omega, by omega⟩
set_option maxRecDepth 20000 in
set_option maxHeartbeats 4000000 in
theorem c_X12_mostBy {G : sw_G} (d : Nat) {h0 : sw_H} (hJ : mI h0) (y1 y2 y3 : Int) (hB : mB h0) (hF : ∀ j : Nat, j < 15 → h0 287 j ≠ 0 → CB h0 j)  : sw_E G NH SH (d + 6) mX12_mostBy 0 [some (sw_r 224), some (sw_i y1), some (sw_i y2), some (sw_i y3), none, none, none, none] [] h0 (sw_Qi (fun z h' => mK (prW [67, 68, 69, 70, 71] [262, 263, 264, 265, 266, 286]) h0 h' ∧ (h' 224 71 = -1 ∧ h' 224 73 = h0 224 73 ∧ h' 224 74 = h0 224 74 ∧ h' 224 85 = h0 224 85))) := by
  have hI : mK (prW [67, 68, 69, 70, 71] [262, 263, 264, 265, 266, 286]) h0 h0 := mK.refl hJ
  have hB2 := hB.2
  refine sx_iconst dX12_mostBy_0 ⟨by decide, by decide⟩ ?_
  refine sx_istore dX12_mostBy_1 (by decide) ?_
  refine sx_iconst dX12_mostBy_3 ⟨by decide, by decide⟩ ?_
  refine sx_istore dX12_mostBy_4 (by decide) ?_
  refine sx_loop2 (fun (h : sw_H) (most : Int) (t : Int) => (mK (prW [67, 68, 69, 70, 71] [262, 263, 264, 265, 266, 286]) h0 h) ∧ (0 ≤ t) ∧ (h 224 71 = -1) ∧ (h 224 73 = h0 224 73) ∧ (h 224 74 = h0 224 74) ∧ (h 224 85 = h0 224 85)) (fun (h : sw_H) (most : Int) (t : Int) => (20 - t).toNat) (fun (h : sw_H) (most : Int) (t : Int) => sw_E G NH SH (d + 6) mX12_mostBy 6 [some (sw_r 224), some (sw_i y1), some (sw_i y2), some (sw_i y3), some (sw_i most), some (sw_i t), none, none] [] h (sw_Qi (fun z h' => mK (prW [67, 68, 69, 70, 71] [262, 263, 264, 265, 266, 286]) h0 h' ∧ (h' 224 71 = -1 ∧ h' 224 73 = h0 224 73 ∧ h' 224 74 = h0 224 74 ∧ h' 224 85 = h0 224 85)))) ?_ _ _ _ ?_
  · rintro h1 most_2 t_3 ⟨Ih1, j4, j5, j6, j7, j8⟩ ihh1
    try dsimp only at ihh1
    refine sx_iload dX12_mostBy_6 rfl ?_
    refine sx_bipush dX12_mostBy_8 ⟨by decide, by decide, by decide⟩ ?_
    refine sx_icmp_ge (tgt := 113) dX12_mostBy_10 (by decide) (fun c9 => ?_) (fun c9 => ?_)
    ·
      refine sx_iload dX12_mostBy_113 rfl ?_
      refine sx_ireturn dX12_mostBy_115 ?_
      exact ⟨_, rfl, ⟨Ih1, by omega⟩⟩
    ·
      refine sx_aload_n dX12_mostBy_13 rfl ?_
      refine sx_getS (k := 98) (t := 287) cl_12 fl_X12_208 dX12_mostBy_14 s_224 (by decide) rfl (by decide) ?_
      refine sx_iload dX12_mostBy_17 rfl ?_
      refine sx_zaload dX12_mostBy_19 s_287 (by decide) (by decide) ⟨by omega, by omega⟩ (fun b10 b11 => ?_)
      refine sx_if_ne (tgt := 26) dX12_mostBy_20 (by decide) (fun c12 => ?_) (fun c12 => ?_)
      ·
        have hcT : CB h0 t_3 := by have q := hF (t_3).toNat (by omega) (by rw [← Ih1.2 287 _ rfl]; assumption); rw [show (((t_3).toNat : Nat) : Int) = t_3 by omega] at q; exact q
        refine sx_aload_n dX12_mostBy_26 rfl ?_
        refine sx_getS (k := 97) (t := 286) cl_12 fl_X12_205 dX12_mostBy_27 s_224 (by decide) rfl (by decide) ?_
        refine sx_iload dX12_mostBy_30 rfl ?_
        refine sx_aload_n dX12_mostBy_32 rfl ?_
        refine sx_iload dX12_mostBy_33 rfl ?_
        refine sx_iload_n dX12_mostBy_35 rfl ?_
        refine sx_iload_n dX12_mostBy_36 rfl ?_
        refine sx_iload_n dX12_mostBy_37 rfl ?_
        refine sx_callVi lk_X12_683 cl_12 s_224 (by decide) dX12_mostBy_38 (vs := [_, _, _, _]) rfl rfl (Nat.le_of_ble_eq_true rfl) (Nat.le_of_ble_eq_true rfl) rfl (c_X12_topFor _ Ih1.1 _ _ _ _ (⟨mC_mK Ih1 rfl rfl hJ hB.1, by omega, by omega, by omega⟩) (by omega) (CB_cd (fun a k q => Ih1.2 a k (by rcases q with ⟨rfl, rfl⟩ | ⟨q1, q2⟩; rfl; exact prW_cd rfl rfl q1 q2)) hcT)) (fun x14 h13 ph13 => ?_)
        obtain ⟨Kh13, r_h13⟩ := ph13
        have Ih13 := Ih1.tr Kh13 (prW_sub rfl rfl)
        have th13_224_73 := Kh13.2 224 73 rfl
        have th13_224_74 := Kh13.2 224 74 rfl
        have th13_224_85 := Kh13.2 224 85 rfl
        refine sy_iastore dX12_mostBy_41 s_286 (by decide) (by decide) ⟨by omega, by omega⟩ (fun h15 eh15 => ?_)
        have Ih15 := Ih13.up eh15 trivial rfl
        have th15_224_67 := eh15.2 (224) 67 (fun q => absurd q.1 (by decide))
        have th15_224_68 := eh15.2 (224) 68 (fun q => absurd q.1 (by decide))
        have th15_224_71 := eh15.2 (224) 71 (fun q => absurd q.1 (by decide))
        have th15_224_73 := eh15.2 (224) 73 (fun q => absurd q.1 (by decide))
        have th15_224_74 := eh15.2 (224) 74 (fun q => absurd q.1 (by decide))
        have th15_224_85 := eh15.2 (224) 85 (fun q => absurd q.1 (by decide))
        refine sx_iconst dX12_mostBy_42 ⟨by decide, by decide⟩ ?_
        refine sx_istore dX12_mostBy_43 (by decide) ?_
        refine sx_iconst dX12_mostBy_45 ⟨by decide, by decide⟩ ?_
        refine sx_istore dX12_mostBy_46 (by decide) ?_
        refine sx_loop2 (fun (h : sw_H) (n : Int) (e : Int) => (mK (prW [67, 68, 69, 70, 71] [262, 263, 264, 265, 266, 286]) h0 h) ∧ (0 ≤ e) ∧ (0 ≤ n) ∧ (n ≤ e) ∧ (h 224 71 = -1) ∧ (h 224 73 = h0 224 73) ∧ (h 224 74 = h0 224 74) ∧ (h 224 85 = h0 224 85)) (fun (h : sw_H) (n : Int) (e : Int) => (20 - e).toNat) (fun (h : sw_H) (n : Int) (e : Int) => sw_E G NH SH (d + 6) mX12_mostBy 48 [some (sw_r 224), some (sw_i y1), some (sw_i y2), some (sw_i y3), some (sw_i most_2), some (sw_i t_3), some (sw_i n), some (sw_i e)] [] h (sw_Qi (fun z h' => mK (prW [67, 68, 69, 70, 71] [262, 263, 264, 265, 266, 286]) h0 h' ∧ (h' 224 71 = -1 ∧ h' 224 73 = h0 224 73 ∧ h' 224 74 = h0 224 74 ∧ h' 224 85 = h0 224 85)))) ?_ _ _ _ ?_
        · rintro h16 n_17 e_18 ⟨Ih16, j19, j20, j21, j22, j23, j24, j25⟩ ihh16
          try dsimp only at ihh16
          refine sx_iload dX12_mostBy_48 rfl ?_
          refine sx_iload dX12_mostBy_50 rfl ?_
          refine sx_icmp_gt (tgt := 98) dX12_mostBy_52 (by decide) (fun c26 => ?_) (fun c26 => ?_)
          ·
            refine sx_iload dX12_mostBy_98 rfl ?_
            refine sx_iload dX12_mostBy_100 rfl ?_
            refine sx_callSi lk_X12_588 dX12_mostBy_102 (vs := [_, _]) rfl rfl (Nat.le_of_ble_eq_true rfl) (Nat.le_of_ble_eq_true rfl) rfl (c_X12_more _ Ih16.1 _ _) (fun x28 h27 ph27 => ?_)
            obtain ⟨rfl, p_x28⟩ := ph27
            refine sx_istore dX12_mostBy_105 (by decide) ?_
            refine sx_iinc dX12_mostBy_107 (by decide) rfl ?_
            rw [sw_w_id (by omega) (by omega)]
            refine sx_goto (tgt := 6) dX12_mostBy_110 (by decide) ?_
            refine sx_kill 6 ?_
            refine sx_kill 7 ?_
            exact ihh1 _ _ _ ⟨Ih16, by omega, by omega, by omega, by omega, by omega⟩ (by exact sy_dec (by omega) (by omega))
          ·
            refine sx_iload dX12_mostBy_55 rfl ?_
            refine sx_aload_n dX12_mostBy_57 rfl ?_
            refine sx_getS (k := 98) (t := 287) cl_12 fl_X12_208 dX12_mostBy_58 s_224 (by decide) rfl (by decide) ?_
            refine sx_iload dX12_mostBy_61 rfl ?_
            refine sx_zaload dX12_mostBy_63 s_287 (by decide) (by decide) ⟨by omega, by omega⟩ (fun b29 b30 => ?_)
            refine sx_if_eq (tgt := 88) dX12_mostBy_64 (by decide) (fun c31 => ?_) (fun c31 => ?_)
            ·
              refine sx_iconst dX12_mostBy_88 ⟨by decide, by decide⟩ ?_
              refine sx_iadd dX12_mostBy_89 ?_
              refine sy_topw (by omega) ?_
              refine sy_top (fun v32 ev32 => ?_)
              refine sx_istore dX12_mostBy_90 (by decide) ?_
              refine sx_iinc dX12_mostBy_92 (by decide) rfl ?_
              rw [sw_w_id (by omega) (by omega)]
              refine sx_goto (tgt := 48) dX12_mostBy_95 (by decide) ?_
              exact ihh16 _ _ _ ⟨Ih16, by omega, by omega, by omega, by omega, by omega, by omega, by omega⟩ (by exact sy_dec (by omega) (by omega))
            ·
              refine sx_aload_n dX12_mostBy_67 rfl ?_
              refine sx_getS (k := 97) (t := 286) cl_12 fl_X12_205 dX12_mostBy_68 s_224 (by decide) rfl (by decide) ?_
              refine sx_iload dX12_mostBy_71 rfl ?_
              refine sx_iaload dX12_mostBy_73 s_286 (by decide) (by decide) ⟨by omega, by omega⟩ ?_
              refine sx_aload_n dX12_mostBy_74 rfl ?_
              refine sx_getS (k := 97) (t := 286) cl_12 fl_X12_205 dX12_mostBy_75 s_224 (by decide) rfl (by decide) ?_
              refine sx_iload dX12_mostBy_78 rfl ?_
              refine sx_iaload dX12_mostBy_80 s_286 (by decide) (by decide) ⟨by omega, by omega⟩ ?_
              refine sx_icmp_ne (tgt := 88) dX12_mostBy_81 (by decide) (fun c33 => ?_) (fun c33 => ?_)
              ·
                refine sx_iconst dX12_mostBy_88 ⟨by decide, by decide⟩ ?_
                refine sx_iadd dX12_mostBy_89 ?_
                refine sy_topw (by omega) ?_
                refine sy_top (fun v34 ev34 => ?_)
                refine sx_istore dX12_mostBy_90 (by decide) ?_
                refine sx_iinc dX12_mostBy_92 (by decide) rfl ?_
                rw [sw_w_id (by omega) (by omega)]
                refine sx_goto (tgt := 48) dX12_mostBy_95 (by decide) ?_
                exact ihh16 _ _ _ ⟨Ih16, by omega, by omega, by omega, by omega, by omega, by omega, by omega⟩ (by exact sy_dec (by omega) (by omega))
              ·
                refine sx_iconst dX12_mostBy_84 ⟨by decide, by decide⟩ ?_
                refine sx_goto (tgt := 89) dX12_mostBy_85 (by decide) ?_
                refine sx_iadd dX12_mostBy_89 ?_
                refine sy_topw (by omega) ?_
                refine sy_top (fun v35 ev35 => ?_)
                refine sx_istore dX12_mostBy_90 (by decide) ?_
                refine sx_iinc dX12_mostBy_92 (by decide) rfl ?_
                rw [sw_w_id (by omega) (by omega)]
                refine sx_goto (tgt := 48) dX12_mostBy_95 (by decide) ?_
                exact ihh16 _ _ _ ⟨Ih16, by omega, by omega, by omega, by omega, by omega, by omega, by omega⟩ (by exact sy_dec (by omega) (by omega))
        · exact ⟨Ih15, by omega, by omega, by omega, by omega, by omega, by omega, by omega⟩
      ·
        refine sx_goto (tgt := 107) dX12_mostBy_23 (by decide) ?_
        refine sx_iinc dX12_mostBy_107 (by decide) rfl ?_
        rw [sw_w_id (by omega) (by omega)]
        refine sx_goto (tgt := 6) dX12_mostBy_110 (by decide) ?_
        exact ihh1 _ _ _ ⟨Ih1, by omega, by omega, by omega, by omega, by omega⟩ (by exact sy_dec (by omega) (by omega))
  · exact ⟨hI, by omega, by omega, by omega, by omega, by omega⟩
set_option maxRecDepth 20000 in
set_option maxHeartbeats 4000000 in
theorem c_X12_ask {G : sw_G} (d : Nat) {h0 : sw_H} (hJ : mI h0) (y1 y2 y3 y4 : Int) (hB : mB h0)  : sw_E G NH SH (d + 8) mX12_ask 0 [some (sw_r 224), some (sw_i y1), some (sw_i y2), some (sw_i y3), some (sw_i y4), none, none, none, none] [] h0 (sw_Qi (fun z h' => mK (prW [51, 52, 53, 54, 55, 56, 57, 58, 67, 68, 69, 70, 71] [243, 252, 253, 254, 255, 256, 257, 258, 259, 260, 262, 263, 264, 265, 266, 286, 287]) h0 h' ∧ (mB h') ∧ (h' 224 100 = h0 224 100))) := by
  have hI : mK (prW [51, 52, 53, 54, 55, 56, 57, 58, 67, 68, 69, 70, 71] [243, 252, 253, 254, 255, 256, 257, 258, 259, 260, 262, 263, 264, 265, 266, 286, 287]) h0 h0 := mK.refl hJ
  obtain ⟨b, hbb⟩ : ∃ b : Nat, h0 224 36 = 1 - (b : Int) ∧ b ≤ 1 := ⟨(1 - h0 224 36).toNat, by have q : (0 : Int) ≤ h0 224 36 ∧ h0 224 36 ≤ 1 := hJ 224 36; omega⟩
  have hB2 := hB.2
  refine sx_iload_n dX12_ask_0 rfl ?_
  refine sx_iconst dX12_ask_1 ⟨by decide, by decide⟩ ?_
  refine sx_bipush dX12_ask_2 ⟨by decide, by decide, by decide⟩ ?_
  refine sx_callSz lk_X12_500 dX12_ask_4 (vs := [_, _, _]) rfl rfl (Nat.le_of_ble_eq_true rfl) (Nat.le_of_ble_eq_true rfl) rfl (c_X12_isIn _ hI.1 _ _ _) (fun x2 h1 zx2 ph1 => ?_)
  obtain ⟨rfl, p_x2⟩ := ph1
  refine sx_if_eq (tgt := 38) dX12_ask_7 (by decide) (fun c3 => ?_) (fun c3 => ?_)
  ·
    replace p_x2 := mt p_x2.mpr (show ¬ (x2 = 1) by rw [c3]; decide)
    clear zx2
    refine sx_iconst dX12_ask_38 ⟨by decide, by decide⟩ ?_
    refine sx_ireturn dX12_ask_39 ?_
    exact ⟨_, rfl, ⟨hI, by first | exact hB | exact ⟨mC_cd (cd_g hI rfl rfl g_h0 ) hJ hB.1, by omega, by omega, by omega⟩, hI.2 224 100 rfl⟩⟩
  ·
    have vx2 : x2 = 1 := by rcases zx2 with q | q; (exact absurd q c3); exact q
    replace p_x2 := p_x2.mp vx2
    clear zx2
    refine sx_iload_n dX12_ask_10 rfl ?_
    refine sx_iconst dX12_ask_11 ⟨by decide, by decide⟩ ?_
    refine sx_bipush dX12_ask_12 ⟨by decide, by decide, by decide⟩ ?_
    refine sx_callSz lk_X12_500 dX12_ask_14 (vs := [_, _, _]) rfl rfl (Nat.le_of_ble_eq_true rfl) (Nat.le_of_ble_eq_true rfl) rfl (c_X12_isIn _ hI.1 _ _ _) (fun x5 h4 zx5 ph4 => ?_)
    obtain ⟨rfl, p_x5⟩ := ph4
    refine sx_if_eq (tgt := 38) dX12_ask_17 (by decide) (fun c6 => ?_) (fun c6 => ?_)
    ·
      replace p_x5 := mt p_x5.mpr (show ¬ (x5 = 1) by rw [c6]; decide)
      clear zx5
      refine sx_iconst dX12_ask_38 ⟨by decide, by decide⟩ ?_
      refine sx_ireturn dX12_ask_39 ?_
      exact ⟨_, rfl, ⟨hI, by first | exact hB | exact ⟨mC_cd (cd_g hI rfl rfl g_h0 ) hJ hB.1, by omega, by omega, by omega⟩, hI.2 224 100 rfl⟩⟩
    ·
      have vx5 : x5 = 1 := by rcases zx5 with q | q; (exact absurd q c6); exact q
      replace p_x5 := p_x5.mp vx5
      clear zx5
      refine sx_iload_n dX12_ask_20 rfl ?_
      refine sx_iconst dX12_ask_21 ⟨by decide, by decide⟩ ?_
      refine sx_iconst dX12_ask_22 ⟨by decide, by decide⟩ ?_
      refine sx_callSz lk_X12_500 dX12_ask_23 (vs := [_, _, _]) rfl rfl (Nat.le_of_ble_eq_true rfl) (Nat.le_of_ble_eq_true rfl) rfl (c_X12_isIn _ hI.1 _ _ _) (fun x8 h7 zx8 ph7 => ?_)
      obtain ⟨rfl, p_x8⟩ := ph7
      refine sx_if_eq (tgt := 38) dX12_ask_26 (by decide) (fun c9 => ?_) (fun c9 => ?_)
      ·
        replace p_x8 := mt p_x8.mpr (show ¬ (x8 = 1) by rw [c9]; decide)
        clear zx8
        refine sx_iconst dX12_ask_38 ⟨by decide, by decide⟩ ?_
        refine sx_ireturn dX12_ask_39 ?_
        exact ⟨_, rfl, ⟨hI, by first | exact hB | exact ⟨mC_cd (cd_g hI rfl rfl g_h0 ) hJ hB.1, by omega, by omega, by omega⟩, hI.2 224 100 rfl⟩⟩
      ·
        have vx8 : x8 = 1 := by rcases zx8 with q | q; (exact absurd q c9); exact q
        replace p_x8 := p_x8.mp vx8
        clear zx8
        refine sx_aload_n dX12_ask_29 rfl ?_
        refine sx_iload dX12_ask_30 rfl ?_
        refine sx_callVi lk_X12_692 cl_12 s_224 (by decide) dX12_ask_32 (vs := [_]) rfl rfl (Nat.le_of_ble_eq_true rfl) (Nat.le_of_ble_eq_true rfl) rfl (c_X12_layFits _ hI.1 b _ (by omega) (hB)) (fun x11 h10 ph10 => ?_)
        obtain ⟨Kh10, g_h10, r_h10, f_h10, n_h10⟩ := ph10
        have Ih10 := hI.tr Kh10 (prW_sub rfl rfl)
        have th10_224_73 := Kh10.2 224 73 rfl
        have th10_224_74 := Kh10.2 224 74 rfl
        have th10_224_85 := Kh10.2 224 85 rfl
        refine sx_if_ne (tgt := 40) dX12_ask_35 (by decide) (fun c12 => ?_) (fun c12 => ?_)
        ·
          refine sx_iconst dX12_ask_40 ⟨by decide, by decide⟩ ?_
          refine sx_istore dX12_ask_41 (by decide) ?_
          refine sx_ldcw kc_X12_622 ⟨by decide, by decide⟩ dX12_ask_43 ?_
          refine sx_istore dX12_ask_46 (by decide) ?_
          refine sx_iconst dX12_ask_48 ⟨by decide, by decide⟩ ?_
          refine sx_istore dX12_ask_49 (by decide) ?_
          have jF := f_h10
          have jg0 := g_h10
          refine sx_loop3 (fun (h : sw_H) (best : Int) (least : Int) (c : Int) => (mK (prW [51, 52, 53, 54, 55, 56, 57, 58, 67, 68, 69, 70, 71] [243, 252, 253, 254, 255, 256, 257, 258, 259, 260, 262, 263, 264, 265, 266, 286, 287]) h0 h) ∧ (0 ≤ c) ∧ (∀ k, h 243 k = h0 243 k) ∧ (∀ k, h 287 k = h10 287 k) ∧ (h 224 71 = -1) ∧ (h 224 73 = h0 224 73) ∧ (h 224 74 = h0 224 74) ∧ (h 224 85 = h0 224 85)) (fun (h : sw_H) (best : Int) (least : Int) (c : Int) => (20 - c).toNat) (fun (h : sw_H) (best : Int) (least : Int) (c : Int) => sw_E G NH SH (d + 8) mX12_ask 51 [some (sw_r 224), some (sw_i y1), some (sw_i y2), some (sw_i y3), some (sw_i y4), some (sw_i best), some (sw_i least), some (sw_i c), none] [] h (sw_Qi (fun z h' => mK (prW [51, 52, 53, 54, 55, 56, 57, 58, 67, 68, 69, 70, 71] [243, 252, 253, 254, 255, 256, 257, 258, 259, 260, 262, 263, 264, 265, 266, 286, 287]) h0 h' ∧ (mB h') ∧ (h' 224 100 = h0 224 100)))) ?_ _ _ _ _ ?_
          · rintro h13 best_14 least_15 c_16 ⟨Ih13, jc, jg, j87, j71, j73, j74, j85⟩ ihh13
            try dsimp only at ihh13
            refine sx_iload dX12_ask_51 rfl ?_
            refine sx_bipush dX12_ask_53 ⟨by decide, by decide, by decide⟩ ?_
            refine sx_icmp_ge (tgt := 92) dX12_ask_55 (by decide) (fun c17 => ?_) (fun c17 => ?_)
            ·
              refine sx_iload_n dX12_ask_92 rfl ?_
              refine sx_if_ne (tgt := 101) dX12_ask_93 (by decide) (fun c18 => ?_) (fun c18 => ?_)
              ·
                refine sx_iload dX12_ask_101 rfl ?_
                refine sx_ireturn dX12_ask_103 ?_
                exact ⟨_, rfl, ⟨Ih13, ⟨mC_cd (cd_g Ih13 rfl rfl jg) hJ hB.1, by omega, by omega, by omega⟩, Ih13.2 224 100 rfl⟩⟩
              ·
                refine sx_iload dX12_ask_96 rfl ?_
                refine sx_goto (tgt := 103) dX12_ask_98 (by decide) ?_
                refine sx_ireturn dX12_ask_103 ?_
                exact ⟨_, rfl, ⟨Ih13, ⟨mC_cd (cd_g Ih13 rfl rfl jg) hJ hB.1, by omega, by omega, by omega⟩, Ih13.2 224 100 rfl⟩⟩
            ·
              refine sx_aload_n dX12_ask_58 rfl ?_
              refine sx_iload_n dX12_ask_59 rfl ?_
              refine sx_iload_n dX12_ask_60 rfl ?_
              refine sx_iload dX12_ask_61 rfl ?_
              refine sx_callVi lk_X12_695 cl_12 s_224 (by decide) dX12_ask_63 (vs := [_, _, _]) rfl rfl (Nat.le_of_ble_eq_true rfl) (Nat.le_of_ble_eq_true rfl) rfl (c_X12_mostBy _ Ih13.1 _ _ _ (⟨mC_cd (cd_g Ih13 rfl rfl jg) hJ hB.1, by omega, by omega, by omega⟩) (fun j hj hz => CB_cd (cd_g Ih13 rfl rfl jg) (jF j hj (by rw [← j87 j]; exact hz)))) (fun x20 h19 ph19 => ?_)
              obtain ⟨Kh19, r_h19⟩ := ph19
              have Ih19 := Ih13.tr Kh19 (prW_sub rfl rfl)
              have th19_224_73 := Kh19.2 224 73 rfl
              have th19_224_74 := Kh19.2 224 74 rfl
              have th19_224_85 := Kh19.2 224 85 rfl
              have jg2 : ∀ k, h19 243 k = h0 243 k := fun k => (Kh19.2 243 k rfl).trans (jg k)
              have j872 := fun k => (Kh19.2 287 k rfl).trans (j87 k)
              refine sx_istore dX12_ask_66 (by decide) ?_
              refine sx_iload dX12_ask_68 rfl ?_
              refine sx_iload dX12_ask_70 rfl ?_
              refine sx_icmp_lt (tgt := 78) dX12_ask_72 (by decide) (fun c21 => ?_) (fun c21 => ?_)
              ·
                refine sx_iload dX12_ask_78 rfl ?_
                refine sx_istore dX12_ask_80 (by decide) ?_
                refine sx_iload dX12_ask_82 rfl ?_
                refine sx_istore dX12_ask_84 (by decide) ?_
                refine sx_iinc dX12_ask_86 (by decide) rfl ?_
                rw [sw_w_id (by omega) (by omega)]
                refine sx_goto (tgt := 51) dX12_ask_89 (by decide) ?_
                refine sx_kill 8 ?_
                exact ihh13 _ _ _ _ ⟨Ih19, by omega, by exact jg2, by exact j872, by omega, by omega, by omega, by omega⟩ (by exact sy_dec (by omega) (by omega))
              ·
                refine sx_goto (tgt := 86) dX12_ask_75 (by decide) ?_
                refine sx_iinc dX12_ask_86 (by decide) rfl ?_
                rw [sw_w_id (by omega) (by omega)]
                refine sx_goto (tgt := 51) dX12_ask_89 (by decide) ?_
                refine sx_kill 8 ?_
                exact ihh13 _ _ _ _ ⟨Ih19, by omega, by exact jg2, by exact j872, by omega, by omega, by omega, by omega⟩ (by exact sy_dec (by omega) (by omega))
          · exact ⟨Ih10, by omega, by exact jg0, by (intro k; rfl), by omega, by omega, by omega, by omega⟩
        ·
          refine sx_iconst dX12_ask_38 ⟨by decide, by decide⟩ ?_
          refine sx_ireturn dX12_ask_39 ?_
          exact ⟨_, rfl, ⟨Ih10, by first | exact hB | exact ⟨mC_cd (cd_g Ih10 rfl rfl g_h10 ) hJ hB.1, by omega, by omega, by omega⟩, Ih10.2 224 100 rfl⟩⟩

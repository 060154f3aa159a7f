set_option maxRecDepth 20000 in
set_option maxHeartbeats 4000000 in
theorem c_X12_shuffle_0 {G : sw_G} (d : Nat) {h0 : sw_H} (hJ : mI h0) (hc : 1 ≤ h0 224 67 ∧ h0 224 67 ≤ 90)  : sw_E G NH SH (d + 1) mX12_shuffle 0 [some (sw_r 224), some (sw_i 0), none, none, none] [] h0 (sw_Qv (fun h' => mK (prW [67] [262]) h0 h' ∧ (h' 224 67 = h0 224 67 - 1 + 2) ∧ (∀ k : Nat, h' 262 k = shC 0 (h0 224 67) (h0 262) k))) := by
  have hI : mK (prW [67] [262]) h0 h0 := mK.refl hJ
  refine sx_aload_n dX12_shuffle_0 rfl ?_
  refine sx_callVi lk_X12_531 cl_12 s_224 (by decide) dX12_shuffle_1 (vs := []) rfl rfl (Nat.le_of_ble_eq_true rfl) (Nat.le_of_ble_eq_true rfl) rfl (c_X12_pop _ hI.1 (by first | omega | (rw [Int.tmod_eq_emod_of_nonneg (by omega)]; omega) | (rw [Int.tdiv_eq_ediv_of_nonneg (by omega)]; omega))) (fun x2 h1 ph1 => ?_)
  obtain ⟨Kh1, c_h1, v_h1⟩ := ph1
  have Ih1 := hI.tr Kh1 (prW_sub rfl rfl)
  have q1 : x2 = h0 262 (h0 224 67 - 1).toNat := v_h1 _ (by omega)
  have kp1 : ∀ k, h1 262 k = h0 262 k := fun k => Kh1.2 262 k rfl
  refine sx_istore_n dX12_shuffle_4 (by decide) ?_
  refine sx_iload_n dX12_shuffle_5 rfl ?_
  refine sx_if_ne (tgt := 14) dX12_shuffle_6 (by decide) (fun c3 => ?_) (fun c3 => ?_)
  ·
    exact absurd c3 (by decide)
  ·
    refine sx_aload_n dX12_shuffle_9 rfl ?_
    refine sx_iload_n dX12_shuffle_10 rfl ?_
    refine sx_callVv lk_X12_534 cl_12 s_224 (by decide) dX12_shuffle_11 (vs := [_]) rfl rfl (Nat.le_of_ble_eq_true rfl) (Nat.le_of_ble_eq_true rfl) rfl (c_X12_push _ Ih1.1 _ (by first | omega | (rw [Int.tmod_eq_emod_of_nonneg (by omega)]; omega) | (rw [Int.tdiv_eq_ediv_of_nonneg (by omega)]; omega))) (fun h4 ph4 => ?_)
    obtain ⟨Kh4, c_h4, v_h4⟩ := ph4
    have Ih4 := Ih1.tr Kh4 (prW_sub rfl rfl)
    refine sx_iload_n dX12_shuffle_14 rfl ?_
    refine sx_iconst dX12_shuffle_15 ⟨by decide, by decide⟩ ?_
    refine sx_icmp_ge (tgt := 29) dX12_shuffle_16 (by decide) (fun c6 => ?_) (fun c6 => ?_)
    ·
      exact absurd c6 (by decide)
    ·
      refine sx_iload_n dX12_shuffle_19 rfl ?_
      refine sx_if_ne (tgt := 28) dX12_shuffle_20 (by decide) (fun c7 => ?_) (fun c7 => ?_)
      ·
        exact absurd c7 (by decide)
      ·
        refine sx_aload_n dX12_shuffle_23 rfl ?_
        refine sx_iload_n dX12_shuffle_24 rfl ?_
        refine sx_callVv lk_X12_534 cl_12 s_224 (by decide) dX12_shuffle_25 (vs := [_]) rfl rfl (Nat.le_of_ble_eq_true rfl) (Nat.le_of_ble_eq_true rfl) rfl (c_X12_push _ Ih4.1 _ (by first | omega | (rw [Int.tmod_eq_emod_of_nonneg (by omega)]; omega) | (rw [Int.tdiv_eq_ediv_of_nonneg (by omega)]; omega))) (fun h8 ph8 => ?_)
        obtain ⟨Kh8, c_h8, v_h8⟩ := ph8
        have Ih8 := Ih4.tr Kh8 (prW_sub rfl rfl)
        refine sx_ret dX12_shuffle_28 ?_
        exact ⟨rfl, ⟨Ih8, by omega, fun k => by (rw [v_h8 k, v_h4 k, show h1 262 k = _ from Kh1.2 262 k rfl]; (try simp only [q1]); unfold shC; (repeat' split) <;> first | rfl | (exfalso; omega) | (congr 1; omega))⟩⟩
set_option maxRecDepth 20000 in
set_option maxHeartbeats 4000000 in
theorem c_X12_shuffle_1 {G : sw_G} (d : Nat) {h0 : sw_H} (hJ : mI h0) (hc : 1 ≤ h0 224 67 ∧ h0 224 67 ≤ 90)  : sw_E G NH SH (d + 1) mX12_shuffle 0 [some (sw_r 224), some (sw_i 1), none, none, none] [] h0 (sw_Qv (fun h' => mK (prW [67] [262]) h0 h' ∧ (h' 224 67 = h0 224 67 - 1 + 0) ∧ (∀ k : Nat, h' 262 k = shC 1 (h0 224 67) (h0 262) k))) := by
  have hI : mK (prW [67] [262]) h0 h0 := mK.refl hJ
  refine sx_aload_n dX12_shuffle_0 rfl ?_
  refine sx_callVi lk_X12_531 cl_12 s_224 (by decide) dX12_shuffle_1 (vs := []) rfl rfl (Nat.le_of_ble_eq_true rfl) (Nat.le_of_ble_eq_true rfl) rfl (c_X12_pop _ hI.1 (by first | omega | (rw [Int.tmod_eq_emod_of_nonneg (by omega)]; omega) | (rw [Int.tdiv_eq_ediv_of_nonneg (by omega)]; omega))) (fun x2 h1 ph1 => ?_)
  obtain ⟨Kh1, c_h1, v_h1⟩ := ph1
  have Ih1 := hI.tr Kh1 (prW_sub rfl rfl)
  have q1 : x2 = h0 262 (h0 224 67 - 1).toNat := v_h1 _ (by omega)
  have kp1 : ∀ k, h1 262 k = h0 262 k := fun k => Kh1.2 262 k rfl
  refine sx_istore_n dX12_shuffle_4 (by decide) ?_
  refine sx_iload_n dX12_shuffle_5 rfl ?_
  refine sx_if_ne (tgt := 14) dX12_shuffle_6 (by decide) (fun c3 => ?_) (fun c3 => ?_)
  ·
    refine sx_iload_n dX12_shuffle_14 rfl ?_
    refine sx_iconst dX12_shuffle_15 ⟨by decide, by decide⟩ ?_
    refine sx_icmp_ge (tgt := 29) dX12_shuffle_16 (by decide) (fun c4 => ?_) (fun c4 => ?_)
    ·
      exact absurd c4 (by decide)
    ·
      refine sx_iload_n dX12_shuffle_19 rfl ?_
      refine sx_if_ne (tgt := 28) dX12_shuffle_20 (by decide) (fun c5 => ?_) (fun c5 => ?_)
      ·
        refine sx_ret dX12_shuffle_28 ?_
        exact ⟨rfl, ⟨Ih1, by omega, fun k => by (rw [show h1 262 k = _ from Kh1.2 262 k rfl]; (try simp only [q1]); unfold shC; (repeat' split) <;> first | rfl | (exfalso; omega) | (congr 1; omega))⟩⟩
      ·
        exact absurd c5 (by decide)
  ·
    exact absurd c3 (by decide)
set_option maxRecDepth 20000 in
set_option maxHeartbeats 4000000 in
theorem c_X12_shuffle_2 {G : sw_G} (d : Nat) {h0 : sw_H} (hJ : mI h0) (hc : 2 ≤ h0 224 67 ∧ h0 224 67 ≤ 90)  : sw_E G NH SH (d + 1) mX12_shuffle 0 [some (sw_r 224), some (sw_i 2), none, none, none] [] h0 (sw_Qv (fun h' => mK (prW [67] [262]) h0 h' ∧ (h' 224 67 = h0 224 67 - 2 + 2) ∧ (∀ k : Nat, h' 262 k = shC 2 (h0 224 67) (h0 262) k))) := by
  have hI : mK (prW [67] [262]) h0 h0 := mK.refl hJ
  refine sx_aload_n dX12_shuffle_0 rfl ?_
  refine sx_callVi lk_X12_531 cl_12 s_224 (by decide) dX12_shuffle_1 (vs := []) rfl rfl (Nat.le_of_ble_eq_true rfl) (Nat.le_of_ble_eq_true rfl) rfl (c_X12_pop _ hI.1 (by first | omega | (rw [Int.tmod_eq_emod_of_nonneg (by omega)]; omega) | (rw [Int.tdiv_eq_ediv_of_nonneg (by omega)]; omega))) (fun x2 h1 ph1 => ?_)
  obtain ⟨Kh1, c_h1, v_h1⟩ := ph1
  have Ih1 := hI.tr Kh1 (prW_sub rfl rfl)
  have q1 : x2 = h0 262 (h0 224 67 - 1).toNat := v_h1 _ (by omega)
  have kp1 : ∀ k, h1 262 k = h0 262 k := fun k => Kh1.2 262 k rfl
  refine sx_istore_n dX12_shuffle_4 (by decide) ?_
  refine sx_iload_n dX12_shuffle_5 rfl ?_
  refine sx_if_ne (tgt := 14) dX12_shuffle_6 (by decide) (fun c3 => ?_) (fun c3 => ?_)
  ·
    refine sx_iload_n dX12_shuffle_14 rfl ?_
    refine sx_iconst dX12_shuffle_15 ⟨by decide, by decide⟩ ?_
    refine sx_icmp_ge (tgt := 29) dX12_shuffle_16 (by decide) (fun c4 => ?_) (fun c4 => ?_)
    ·
      refine sx_aload_n dX12_shuffle_29 rfl ?_
      refine sx_callVi lk_X12_531 cl_12 s_224 (by decide) dX12_shuffle_30 (vs := []) rfl rfl (Nat.le_of_ble_eq_true rfl) (Nat.le_of_ble_eq_true rfl) rfl (c_X12_pop _ Ih1.1 (by first | omega | (rw [Int.tmod_eq_emod_of_nonneg (by omega)]; omega) | (rw [Int.tdiv_eq_ediv_of_nonneg (by omega)]; omega))) (fun x6 h5 ph5 => ?_)
      obtain ⟨Kh5, c_h5, v_h5⟩ := ph5
      have Ih5 := Ih1.tr Kh5 (prW_sub rfl rfl)
      have q2 : x6 = h0 262 (h0 224 67 - 2).toNat := (v_h5 (h0 224 67 - 2).toNat (by omega)).trans (kp1 _)
      have kp2 : ∀ k, h5 262 k = h0 262 k := fun k => (Kh5.2 262 k rfl).trans (kp1 k)
      refine sx_istore_n dX12_shuffle_33 (by decide) ?_
      refine sx_iload_n dX12_shuffle_34 rfl ?_
      refine sx_iconst dX12_shuffle_35 ⟨by decide, by decide⟩ ?_
      refine sx_icmp_ne (tgt := 62) dX12_shuffle_36 (by decide) (fun c7 => ?_) (fun c7 => ?_)
      ·
        refine sx_iload_n dX12_shuffle_62 rfl ?_
        refine sx_iconst dX12_shuffle_63 ⟨by decide, by decide⟩ ?_
        refine sx_icmp_ne (tgt := 72) dX12_shuffle_64 (by decide) (fun c8 => ?_) (fun c8 => ?_)
        ·
          refine sx_iload_n dX12_shuffle_72 rfl ?_
          refine sx_iconst dX12_shuffle_73 ⟨by decide, by decide⟩ ?_
          refine sx_icmp_eq (tgt := 83) dX12_shuffle_74 (by decide) (fun c9 => ?_) (fun c9 => ?_)
          ·
            refine sx_aload_n dX12_shuffle_83 rfl ?_
            refine sx_iload_n dX12_shuffle_84 rfl ?_
            refine sx_callVv lk_X12_534 cl_12 s_224 (by decide) dX12_shuffle_85 (vs := [_]) rfl rfl (Nat.le_of_ble_eq_true rfl) (Nat.le_of_ble_eq_true rfl) rfl (c_X12_push _ Ih5.1 _ (by first | omega | (rw [Int.tmod_eq_emod_of_nonneg (by omega)]; omega) | (rw [Int.tdiv_eq_ediv_of_nonneg (by omega)]; omega))) (fun h10 ph10 => ?_)
            obtain ⟨Kh10, c_h10, v_h10⟩ := ph10
            have Ih10 := Ih5.tr Kh10 (prW_sub rfl rfl)
            refine sx_iload_n dX12_shuffle_88 rfl ?_
            refine sx_iconst dX12_shuffle_89 ⟨by decide, by decide⟩ ?_
            refine sx_icmp_eq (tgt := 103) dX12_shuffle_90 (by decide) (fun c12 => ?_) (fun c12 => ?_)
            ·
              exact absurd c12 (by decide)
            ·
              refine sx_iload_n dX12_shuffle_93 rfl ?_
              refine sx_iconst dX12_shuffle_94 ⟨by decide, by decide⟩ ?_
              refine sx_icmp_eq (tgt := 103) dX12_shuffle_95 (by decide) (fun c13 => ?_) (fun c13 => ?_)
              ·
                exact absurd c13 (by decide)
              ·
                refine sx_aload_n dX12_shuffle_98 rfl ?_
                refine sx_iload_n dX12_shuffle_99 rfl ?_
                refine sx_callVv lk_X12_534 cl_12 s_224 (by decide) dX12_shuffle_100 (vs := [_]) rfl rfl (Nat.le_of_ble_eq_true rfl) (Nat.le_of_ble_eq_true rfl) rfl (c_X12_push _ Ih10.1 _ (by first | omega | (rw [Int.tmod_eq_emod_of_nonneg (by omega)]; omega) | (rw [Int.tdiv_eq_ediv_of_nonneg (by omega)]; omega))) (fun h14 ph14 => ?_)
                obtain ⟨Kh14, c_h14, v_h14⟩ := ph14
                have Ih14 := Ih10.tr Kh14 (prW_sub rfl rfl)
                refine sx_iload_n dX12_shuffle_103 rfl ?_
                refine sx_iconst dX12_shuffle_104 ⟨by decide, by decide⟩ ?_
                refine sx_icmp_eq (tgt := 119) dX12_shuffle_105 (by decide) (fun c16 => ?_) (fun c16 => ?_)
                ·
                  exact absurd c16 (by decide)
                ·
                  refine sx_iload_n dX12_shuffle_108 rfl ?_
                  refine sx_iconst dX12_shuffle_109 ⟨by decide, by decide⟩ ?_
                  refine sx_icmp_eq (tgt := 119) dX12_shuffle_110 (by decide) (fun c17 => ?_) (fun c17 => ?_)
                  ·
                    exact absurd c17 (by decide)
                  ·
                    refine sx_iload_n dX12_shuffle_113 rfl ?_
                    refine sx_bipush dX12_shuffle_114 ⟨by decide, by decide, by decide⟩ ?_
                    refine sx_icmp_ne (tgt := 124) dX12_shuffle_116 (by decide) (fun c18 => ?_) (fun c18 => ?_)
                    ·
                      refine sx_iload_n dX12_shuffle_124 rfl ?_
                      refine sx_iconst dX12_shuffle_125 ⟨by decide, by decide⟩ ?_
                      refine sx_icmp_ne (tgt := 134) dX12_shuffle_126 (by decide) (fun c19 => ?_) (fun c19 => ?_)
                      ·
                        refine sx_ret dX12_shuffle_134 ?_
                        exact ⟨rfl, ⟨Ih14, by omega, fun k => by (rw [v_h14 k, v_h10 k, show h5 262 k = _ from Kh5.2 262 k rfl, show h1 262 k = _ from Kh1.2 262 k rfl]; (try simp only [q1, q2]); unfold shC; (repeat' split) <;> first | rfl | (exfalso; omega) | (congr 1; omega))⟩⟩
                      ·
                        exact absurd c19 (by decide)
                    ·
                      exact absurd c18 (by decide)
          ·
            exact absurd c9 (by decide)
        ·
          exact absurd c8 (by decide)
      ·
        exact absurd c7 (by decide)
    ·
      exact absurd c4 (by decide)
  ·
    exact absurd c3 (by decide)
set_option maxRecDepth 20000 in
set_option maxHeartbeats 4000000 in
theorem c_X12_shuffle_3 {G : sw_G} (d : Nat) {h0 : sw_H} (hJ : mI h0) (hc : 2 ≤ h0 224 67 ∧ h0 224 67 ≤ 90)  : sw_E G NH SH (d + 1) mX12_shuffle 0 [some (sw_r 224), some (sw_i 3), none, none, none] [] h0 (sw_Qv (fun h' => mK (prW [67] [262]) h0 h' ∧ (h' 224 67 = h0 224 67 - 2 + 3) ∧ (∀ k : Nat, h' 262 k = shC 3 (h0 224 67) (h0 262) k))) := by
  have hI : mK (prW [67] [262]) h0 h0 := mK.refl hJ
  refine sx_aload_n dX12_shuffle_0 rfl ?_
  refine sx_callVi lk_X12_531 cl_12 s_224 (by decide) dX12_shuffle_1 (vs := []) rfl rfl (Nat.le_of_ble_eq_true rfl) (Nat.le_of_ble_eq_true rfl) rfl (c_X12_pop _ hI.1 (by first | omega | (rw [Int.tmod_eq_emod_of_nonneg (by omega)]; omega) | (rw [Int.tdiv_eq_ediv_of_nonneg (by omega)]; omega))) (fun x2 h1 ph1 => ?_)
  obtain ⟨Kh1, c_h1, v_h1⟩ := ph1
  have Ih1 := hI.tr Kh1 (prW_sub rfl rfl)
  have q1 : x2 = h0 262 (h0 224 67 - 1).toNat := v_h1 _ (by omega)
  have kp1 : ∀ k, h1 262 k = h0 262 k := fun k => Kh1.2 262 k rfl
  refine sx_istore_n dX12_shuffle_4 (by decide) ?_
  refine sx_iload_n dX12_shuffle_5 rfl ?_
  refine sx_if_ne (tgt := 14) dX12_shuffle_6 (by decide) (fun c3 => ?_) (fun c3 => ?_)
  ·
    refine sx_iload_n dX12_shuffle_14 rfl ?_
    refine sx_iconst dX12_shuffle_15 ⟨by decide, by decide⟩ ?_
    refine sx_icmp_ge (tgt := 29) dX12_shuffle_16 (by decide) (fun c4 => ?_) (fun c4 => ?_)
    ·
      refine sx_aload_n dX12_shuffle_29 rfl ?_
      refine sx_callVi lk_X12_531 cl_12 s_224 (by decide) dX12_shuffle_30 (vs := []) rfl rfl (Nat.le_of_ble_eq_true rfl) (Nat.le_of_ble_eq_true rfl) rfl (c_X12_pop _ Ih1.1 (by first | omega | (rw [Int.tmod_eq_emod_of_nonneg (by omega)]; omega) | (rw [Int.tdiv_eq_ediv_of_nonneg (by omega)]; omega))) (fun x6 h5 ph5 => ?_)
      obtain ⟨Kh5, c_h5, v_h5⟩ := ph5
      have Ih5 := Ih1.tr Kh5 (prW_sub rfl rfl)
      have q2 : x6 = h0 262 (h0 224 67 - 2).toNat := (v_h5 (h0 224 67 - 2).toNat (by omega)).trans (kp1 _)
      have kp2 : ∀ k, h5 262 k = h0 262 k := fun k => (Kh5.2 262 k rfl).trans (kp1 k)
      refine sx_istore_n dX12_shuffle_33 (by decide) ?_
      refine sx_iload_n dX12_shuffle_34 rfl ?_
      refine sx_iconst dX12_shuffle_35 ⟨by decide, by decide⟩ ?_
      refine sx_icmp_ne (tgt := 62) dX12_shuffle_36 (by decide) (fun c7 => ?_) (fun c7 => ?_)
      ·
        refine sx_iload_n dX12_shuffle_62 rfl ?_
        refine sx_iconst dX12_shuffle_63 ⟨by decide, by decide⟩ ?_
        refine sx_icmp_ne (tgt := 72) dX12_shuffle_64 (by decide) (fun c8 => ?_) (fun c8 => ?_)
        ·
          exact absurd c8 (by decide)
        ·
          refine sx_aload_n dX12_shuffle_67 rfl ?_
          refine sx_iload_n dX12_shuffle_68 rfl ?_
          refine sx_callVv lk_X12_534 cl_12 s_224 (by decide) dX12_shuffle_69 (vs := [_]) rfl rfl (Nat.le_of_ble_eq_true rfl) (Nat.le_of_ble_eq_true rfl) rfl (c_X12_push _ Ih5.1 _ (by first | omega | (rw [Int.tmod_eq_emod_of_nonneg (by omega)]; omega) | (rw [Int.tdiv_eq_ediv_of_nonneg (by omega)]; omega))) (fun h9 ph9 => ?_)
          obtain ⟨Kh9, c_h9, v_h9⟩ := ph9
          have Ih9 := Ih5.tr Kh9 (prW_sub rfl rfl)
          refine sx_iload_n dX12_shuffle_72 rfl ?_
          refine sx_iconst dX12_shuffle_73 ⟨by decide, by decide⟩ ?_
          refine sx_icmp_eq (tgt := 83) dX12_shuffle_74 (by decide) (fun c11 => ?_) (fun c11 => ?_)
          ·
            exact absurd c11 (by decide)
          ·
            refine sx_iload_n dX12_shuffle_77 rfl ?_
            refine sx_bipush dX12_shuffle_78 ⟨by decide, by decide, by decide⟩ ?_
            refine sx_icmp_ne (tgt := 88) dX12_shuffle_80 (by decide) (fun c12 => ?_) (fun c12 => ?_)
            ·
              refine sx_iload_n dX12_shuffle_88 rfl ?_
              refine sx_iconst dX12_shuffle_89 ⟨by decide, by decide⟩ ?_
              refine sx_icmp_eq (tgt := 103) dX12_shuffle_90 (by decide) (fun c13 => ?_) (fun c13 => ?_)
              ·
                exact absurd c13 (by decide)
              ·
                refine sx_iload_n dX12_shuffle_93 rfl ?_
                refine sx_iconst dX12_shuffle_94 ⟨by decide, by decide⟩ ?_
                refine sx_icmp_eq (tgt := 103) dX12_shuffle_95 (by decide) (fun c14 => ?_) (fun c14 => ?_)
                ·
                  refine sx_iload_n dX12_shuffle_103 rfl ?_
                  refine sx_iconst dX12_shuffle_104 ⟨by decide, by decide⟩ ?_
                  refine sx_icmp_eq (tgt := 119) dX12_shuffle_105 (by decide) (fun c15 => ?_) (fun c15 => ?_)
                  ·
                    refine sx_aload_n dX12_shuffle_119 rfl ?_
                    refine sx_iload_n dX12_shuffle_120 rfl ?_
                    refine sx_callVv lk_X12_534 cl_12 s_224 (by decide) dX12_shuffle_121 (vs := [_]) rfl rfl (Nat.le_of_ble_eq_true rfl) (Nat.le_of_ble_eq_true rfl) rfl (c_X12_push _ Ih9.1 _ (by first | omega | (rw [Int.tmod_eq_emod_of_nonneg (by omega)]; omega) | (rw [Int.tdiv_eq_ediv_of_nonneg (by omega)]; omega))) (fun h16 ph16 => ?_)
                    obtain ⟨Kh16, c_h16, v_h16⟩ := ph16
                    have Ih16 := Ih9.tr Kh16 (prW_sub rfl rfl)
                    refine sx_iload_n dX12_shuffle_124 rfl ?_
                    refine sx_iconst dX12_shuffle_125 ⟨by decide, by decide⟩ ?_
                    refine sx_icmp_ne (tgt := 134) dX12_shuffle_126 (by decide) (fun c18 => ?_) (fun c18 => ?_)
                    ·
                      exact absurd c18 (by decide)
                    ·
                      refine sx_aload_n dX12_shuffle_129 rfl ?_
                      refine sx_iload_n dX12_shuffle_130 rfl ?_
                      refine sx_callVv lk_X12_534 cl_12 s_224 (by decide) dX12_shuffle_131 (vs := [_]) rfl rfl (Nat.le_of_ble_eq_true rfl) (Nat.le_of_ble_eq_true rfl) rfl (c_X12_push _ Ih16.1 _ (by first | omega | (rw [Int.tmod_eq_emod_of_nonneg (by omega)]; omega) | (rw [Int.tdiv_eq_ediv_of_nonneg (by omega)]; omega))) (fun h19 ph19 => ?_)
                      obtain ⟨Kh19, c_h19, v_h19⟩ := ph19
                      have Ih19 := Ih16.tr Kh19 (prW_sub rfl rfl)
                      refine sx_ret dX12_shuffle_134 ?_
                      exact ⟨rfl, ⟨Ih19, by omega, fun k => by (rw [v_h19 k, v_h16 k, v_h9 k, show h5 262 k = _ from Kh5.2 262 k rfl, show h1 262 k = _ from Kh1.2 262 k rfl]; (try simp only [q1, q2]); unfold shC; (repeat' split) <;> first | rfl | (exfalso; omega) | (congr 1; omega))⟩⟩
                  ·
                    exact absurd c15 (by decide)
                ·
                  exact absurd c14 (by decide)
            ·
              exact absurd c12 (by decide)
      ·
        exact absurd c7 (by decide)
    ·
      exact absurd c4 (by decide)
  ·
    exact absurd c3 (by decide)
set_option maxRecDepth 20000 in
set_option maxHeartbeats 4000000 in
theorem c_X12_shuffle_4 {G : sw_G} (d : Nat) {h0 : sw_H} (hJ : mI h0) (hc : 3 ≤ h0 224 67 ∧ h0 224 67 ≤ 90)  : sw_E G NH SH (d + 1) mX12_shuffle 0 [some (sw_r 224), some (sw_i 4), none, none, none] [] h0 (sw_Qv (fun h' => mK (prW [67] [262]) h0 h' ∧ (h' 224 67 = h0 224 67 - 3 + 3) ∧ (∀ k : Nat, h' 262 k = shC 4 (h0 224 67) (h0 262) k))) := by
  have hI : mK (prW [67] [262]) h0 h0 := mK.refl hJ
  refine sx_aload_n dX12_shuffle_0 rfl ?_
  refine sx_callVi lk_X12_531 cl_12 s_224 (by decide) dX12_shuffle_1 (vs := []) rfl rfl (Nat.le_of_ble_eq_true rfl) (Nat.le_of_ble_eq_true rfl) rfl (c_X12_pop _ hI.1 (by first | omega | (rw [Int.tmod_eq_emod_of_nonneg (by omega)]; omega) | (rw [Int.tdiv_eq_ediv_of_nonneg (by omega)]; omega))) (fun x2 h1 ph1 => ?_)
  obtain ⟨Kh1, c_h1, v_h1⟩ := ph1
  have Ih1 := hI.tr Kh1 (prW_sub rfl rfl)
  have q1 : x2 = h0 262 (h0 224 67 - 1).toNat := v_h1 _ (by omega)
  have kp1 : ∀ k, h1 262 k = h0 262 k := fun k => Kh1.2 262 k rfl
  refine sx_istore_n dX12_shuffle_4 (by decide) ?_
  refine sx_iload_n dX12_shuffle_5 rfl ?_
  refine sx_if_ne (tgt := 14) dX12_shuffle_6 (by decide) (fun c3 => ?_) (fun c3 => ?_)
  ·
    refine sx_iload_n dX12_shuffle_14 rfl ?_
    refine sx_iconst dX12_shuffle_15 ⟨by decide, by decide⟩ ?_
    refine sx_icmp_ge (tgt := 29) dX12_shuffle_16 (by decide) (fun c4 => ?_) (fun c4 => ?_)
    ·
      refine sx_aload_n dX12_shuffle_29 rfl ?_
      refine sx_callVi lk_X12_531 cl_12 s_224 (by decide) dX12_shuffle_30 (vs := []) rfl rfl (Nat.le_of_ble_eq_true rfl) (Nat.le_of_ble_eq_true rfl) rfl (c_X12_pop _ Ih1.1 (by first | omega | (rw [Int.tmod_eq_emod_of_nonneg (by omega)]; omega) | (rw [Int.tdiv_eq_ediv_of_nonneg (by omega)]; omega))) (fun x6 h5 ph5 => ?_)
      obtain ⟨Kh5, c_h5, v_h5⟩ := ph5
      have Ih5 := Ih1.tr Kh5 (prW_sub rfl rfl)
      have q2 : x6 = h0 262 (h0 224 67 - 2).toNat := (v_h5 (h0 224 67 - 2).toNat (by omega)).trans (kp1 _)
      have kp2 : ∀ k, h5 262 k = h0 262 k := fun k => (Kh5.2 262 k rfl).trans (kp1 k)
      refine sx_istore_n dX12_shuffle_33 (by decide) ?_
      refine sx_iload_n dX12_shuffle_34 rfl ?_
      refine sx_iconst dX12_shuffle_35 ⟨by decide, by decide⟩ ?_
      refine sx_icmp_ne (tgt := 62) dX12_shuffle_36 (by decide) (fun c7 => ?_) (fun c7 => ?_)
      ·
        exact absurd c7 (by decide)
      ·
        refine sx_aload_n dX12_shuffle_39 rfl ?_
        refine sx_callVi lk_X12_531 cl_12 s_224 (by decide) dX12_shuffle_40 (vs := []) rfl rfl (Nat.le_of_ble_eq_true rfl) (Nat.le_of_ble_eq_true rfl) rfl (c_X12_pop _ Ih5.1 (by first | omega | (rw [Int.tmod_eq_emod_of_nonneg (by omega)]; omega) | (rw [Int.tdiv_eq_ediv_of_nonneg (by omega)]; omega))) (fun x9 h8 ph8 => ?_)
        obtain ⟨Kh8, c_h8, v_h8⟩ := ph8
        have Ih8 := Ih5.tr Kh8 (prW_sub rfl rfl)
        have q3 : x9 = h0 262 (h0 224 67 - 3).toNat := (v_h8 (h0 224 67 - 3).toNat (by omega)).trans (kp2 _)
        refine sx_istore dX12_shuffle_43 (by decide) ?_
        refine sx_aload_n dX12_shuffle_45 rfl ?_
        refine sx_iload_n dX12_shuffle_46 rfl ?_
        refine sx_callVv lk_X12_534 cl_12 s_224 (by decide) dX12_shuffle_47 (vs := [_]) rfl rfl (Nat.le_of_ble_eq_true rfl) (Nat.le_of_ble_eq_true rfl) rfl (c_X12_push _ Ih8.1 _ (by first | omega | (rw [Int.tmod_eq_emod_of_nonneg (by omega)]; omega) | (rw [Int.tdiv_eq_ediv_of_nonneg (by omega)]; omega))) (fun h10 ph10 => ?_)
        obtain ⟨Kh10, c_h10, v_h10⟩ := ph10
        have Ih10 := Ih8.tr Kh10 (prW_sub rfl rfl)
        refine sx_aload_n dX12_shuffle_50 rfl ?_
        refine sx_iload_n dX12_shuffle_51 rfl ?_
        refine sx_callVv lk_X12_534 cl_12 s_224 (by decide) dX12_shuffle_52 (vs := [_]) rfl rfl (Nat.le_of_ble_eq_true rfl) (Nat.le_of_ble_eq_true rfl) rfl (c_X12_push _ Ih10.1 _ (by first | omega | (rw [Int.tmod_eq_emod_of_nonneg (by omega)]; omega) | (rw [Int.tdiv_eq_ediv_of_nonneg (by omega)]; omega))) (fun h12 ph12 => ?_)
        obtain ⟨Kh12, c_h12, v_h12⟩ := ph12
        have Ih12 := Ih10.tr Kh12 (prW_sub rfl rfl)
        refine sx_aload_n dX12_shuffle_55 rfl ?_
        refine sx_iload dX12_shuffle_56 rfl ?_
        refine sx_callVv lk_X12_534 cl_12 s_224 (by decide) dX12_shuffle_58 (vs := [_]) rfl rfl (Nat.le_of_ble_eq_true rfl) (Nat.le_of_ble_eq_true rfl) rfl (c_X12_push _ Ih12.1 _ (by first | omega | (rw [Int.tmod_eq_emod_of_nonneg (by omega)]; omega) | (rw [Int.tdiv_eq_ediv_of_nonneg (by omega)]; omega))) (fun h14 ph14 => ?_)
        obtain ⟨Kh14, c_h14, v_h14⟩ := ph14
        have Ih14 := Ih12.tr Kh14 (prW_sub rfl rfl)
        refine sx_ret dX12_shuffle_61 ?_
        exact ⟨rfl, ⟨Ih14, by omega, fun k => by (rw [v_h14 k, v_h12 k, v_h10 k, show h8 262 k = _ from Kh8.2 262 k rfl, show h5 262 k = _ from Kh5.2 262 k rfl, show h1 262 k = _ from Kh1.2 262 k rfl]; (try simp only [q1, q2, q3]); unfold shC; (repeat' split) <;> first | rfl | (exfalso; omega) | (congr 1; omega))⟩⟩
    ·
      exact absurd c4 (by decide)
  ·
    exact absurd c3 (by decide)
set_option maxRecDepth 20000 in
set_option maxHeartbeats 4000000 in
theorem c_X12_shuffle_5 {G : sw_G} (d : Nat) {h0 : sw_H} (hJ : mI h0) (hc : 2 ≤ h0 224 67 ∧ h0 224 67 ≤ 90)  : sw_E G NH SH (d + 1) mX12_shuffle 0 [some (sw_r 224), some (sw_i 5), none, none, none] [] h0 (sw_Qv (fun h' => mK (prW [67] [262]) h0 h' ∧ (h' 224 67 = h0 224 67 - 2 + 1) ∧ (∀ k : Nat, h' 262 k = shC 5 (h0 224 67) (h0 262) k))) := by
  have hI : mK (prW [67] [262]) h0 h0 := mK.refl hJ
  refine sx_aload_n dX12_shuffle_0 rfl ?_
  refine sx_callVi lk_X12_531 cl_12 s_224 (by decide) dX12_shuffle_1 (vs := []) rfl rfl (Nat.le_of_ble_eq_true rfl) (Nat.le_of_ble_eq_true rfl) rfl (c_X12_pop _ hI.1 (by first | omega | (rw [Int.tmod_eq_emod_of_nonneg (by omega)]; omega) | (rw [Int.tdiv_eq_ediv_of_nonneg (by omega)]; omega))) (fun x2 h1 ph1 => ?_)
  obtain ⟨Kh1, c_h1, v_h1⟩ := ph1
  have Ih1 := hI.tr Kh1 (prW_sub rfl rfl)
  have q1 : x2 = h0 262 (h0 224 67 - 1).toNat := v_h1 _ (by omega)
  have kp1 : ∀ k, h1 262 k = h0 262 k := fun k => Kh1.2 262 k rfl
  refine sx_istore_n dX12_shuffle_4 (by decide) ?_
  refine sx_iload_n dX12_shuffle_5 rfl ?_
  refine sx_if_ne (tgt := 14) dX12_shuffle_6 (by decide) (fun c3 => ?_) (fun c3 => ?_)
  ·
    refine sx_iload_n dX12_shuffle_14 rfl ?_
    refine sx_iconst dX12_shuffle_15 ⟨by decide, by decide⟩ ?_
    refine sx_icmp_ge (tgt := 29) dX12_shuffle_16 (by decide) (fun c4 => ?_) (fun c4 => ?_)
    ·
      refine sx_aload_n dX12_shuffle_29 rfl ?_
      refine sx_callVi lk_X12_531 cl_12 s_224 (by decide) dX12_shuffle_30 (vs := []) rfl rfl (Nat.le_of_ble_eq_true rfl) (Nat.le_of_ble_eq_true rfl) rfl (c_X12_pop _ Ih1.1 (by first | omega | (rw [Int.tmod_eq_emod_of_nonneg (by omega)]; omega) | (rw [Int.tdiv_eq_ediv_of_nonneg (by omega)]; omega))) (fun x6 h5 ph5 => ?_)
      obtain ⟨Kh5, c_h5, v_h5⟩ := ph5
      have Ih5 := Ih1.tr Kh5 (prW_sub rfl rfl)
      have q2 : x6 = h0 262 (h0 224 67 - 2).toNat := (v_h5 (h0 224 67 - 2).toNat (by omega)).trans (kp1 _)
      have kp2 : ∀ k, h5 262 k = h0 262 k := fun k => (Kh5.2 262 k rfl).trans (kp1 k)
      refine sx_istore_n dX12_shuffle_33 (by decide) ?_
      refine sx_iload_n dX12_shuffle_34 rfl ?_
      refine sx_iconst dX12_shuffle_35 ⟨by decide, by decide⟩ ?_
      refine sx_icmp_ne (tgt := 62) dX12_shuffle_36 (by decide) (fun c7 => ?_) (fun c7 => ?_)
      ·
        refine sx_iload_n dX12_shuffle_62 rfl ?_
        refine sx_iconst dX12_shuffle_63 ⟨by decide, by decide⟩ ?_
        refine sx_icmp_ne (tgt := 72) dX12_shuffle_64 (by decide) (fun c8 => ?_) (fun c8 => ?_)
        ·
          refine sx_iload_n dX12_shuffle_72 rfl ?_
          refine sx_iconst dX12_shuffle_73 ⟨by decide, by decide⟩ ?_
          refine sx_icmp_eq (tgt := 83) dX12_shuffle_74 (by decide) (fun c9 => ?_) (fun c9 => ?_)
          ·
            exact absurd c9 (by decide)
          ·
            refine sx_iload_n dX12_shuffle_77 rfl ?_
            refine sx_bipush dX12_shuffle_78 ⟨by decide, by decide, by decide⟩ ?_
            refine sx_icmp_ne (tgt := 88) dX12_shuffle_80 (by decide) (fun c10 => ?_) (fun c10 => ?_)
            ·
              refine sx_iload_n dX12_shuffle_88 rfl ?_
              refine sx_iconst dX12_shuffle_89 ⟨by decide, by decide⟩ ?_
              refine sx_icmp_eq (tgt := 103) dX12_shuffle_90 (by decide) (fun c11 => ?_) (fun c11 => ?_)
              ·
                refine sx_iload_n dX12_shuffle_103 rfl ?_
                refine sx_iconst dX12_shuffle_104 ⟨by decide, by decide⟩ ?_
                refine sx_icmp_eq (tgt := 119) dX12_shuffle_105 (by decide) (fun c12 => ?_) (fun c12 => ?_)
                ·
                  exact absurd c12 (by decide)
                ·
                  refine sx_iload_n dX12_shuffle_108 rfl ?_
                  refine sx_iconst dX12_shuffle_109 ⟨by decide, by decide⟩ ?_
                  refine sx_icmp_eq (tgt := 119) dX12_shuffle_110 (by decide) (fun c13 => ?_) (fun c13 => ?_)
                  ·
                    refine sx_aload_n dX12_shuffle_119 rfl ?_
                    refine sx_iload_n dX12_shuffle_120 rfl ?_
                    refine sx_callVv lk_X12_534 cl_12 s_224 (by decide) dX12_shuffle_121 (vs := [_]) rfl rfl (Nat.le_of_ble_eq_true rfl) (Nat.le_of_ble_eq_true rfl) rfl (c_X12_push _ Ih5.1 _ (by first | omega | (rw [Int.tmod_eq_emod_of_nonneg (by omega)]; omega) | (rw [Int.tdiv_eq_ediv_of_nonneg (by omega)]; omega))) (fun h14 ph14 => ?_)
                    obtain ⟨Kh14, c_h14, v_h14⟩ := ph14
                    have Ih14 := Ih5.tr Kh14 (prW_sub rfl rfl)
                    refine sx_iload_n dX12_shuffle_124 rfl ?_
                    refine sx_iconst dX12_shuffle_125 ⟨by decide, by decide⟩ ?_
                    refine sx_icmp_ne (tgt := 134) dX12_shuffle_126 (by decide) (fun c16 => ?_) (fun c16 => ?_)
                    ·
                      refine sx_ret dX12_shuffle_134 ?_
                      exact ⟨rfl, ⟨Ih14, by omega, fun k => by (rw [v_h14 k, show h5 262 k = _ from Kh5.2 262 k rfl, show h1 262 k = _ from Kh1.2 262 k rfl]; (try simp only [q1, q2]); unfold shC; (repeat' split) <;> first | rfl | (exfalso; omega) | (congr 1; omega))⟩⟩
                    ·
                      exact absurd c16 (by decide)
                  ·
                    exact absurd c13 (by decide)
              ·
                exact absurd c11 (by decide)
            ·
              exact absurd c10 (by decide)
        ·
          exact absurd c8 (by decide)
      ·
        exact absurd c7 (by decide)
    ·
      exact absurd c4 (by decide)
  ·
    exact absurd c3 (by decide)
set_option maxRecDepth 20000 in
set_option maxHeartbeats 4000000 in
theorem c_X12_shuffle_6 {G : sw_G} (d : Nat) {h0 : sw_H} (hJ : mI h0) (hc : 2 ≤ h0 224 67 ∧ h0 224 67 ≤ 90)  : sw_E G NH SH (d + 1) mX12_shuffle 0 [some (sw_r 224), some (sw_i 6), none, none, none] [] h0 (sw_Qv (fun h' => mK (prW [67] [262]) h0 h' ∧ (h' 224 67 = h0 224 67 - 2 + 3) ∧ (∀ k : Nat, h' 262 k = shC 6 (h0 224 67) (h0 262) k))) := by
  have hI : mK (prW [67] [262]) h0 h0 := mK.refl hJ
  refine sx_aload_n dX12_shuffle_0 rfl ?_
  refine sx_callVi lk_X12_531 cl_12 s_224 (by decide) dX12_shuffle_1 (vs := []) rfl rfl (Nat.le_of_ble_eq_true rfl) (Nat.le_of_ble_eq_true rfl) rfl (c_X12_pop _ hI.1 (by first | omega | (rw [Int.tmod_eq_emod_of_nonneg (by omega)]; omega) | (rw [Int.tdiv_eq_ediv_of_nonneg (by omega)]; omega))) (fun x2 h1 ph1 => ?_)
  obtain ⟨Kh1, c_h1, v_h1⟩ := ph1
  have Ih1 := hI.tr Kh1 (prW_sub rfl rfl)
  have q1 : x2 = h0 262 (h0 224 67 - 1).toNat := v_h1 _ (by omega)
  have kp1 : ∀ k, h1 262 k = h0 262 k := fun k => Kh1.2 262 k rfl
  refine sx_istore_n dX12_shuffle_4 (by decide) ?_
  refine sx_iload_n dX12_shuffle_5 rfl ?_
  refine sx_if_ne (tgt := 14) dX12_shuffle_6 (by decide) (fun c3 => ?_) (fun c3 => ?_)
  ·
    refine sx_iload_n dX12_shuffle_14 rfl ?_
    refine sx_iconst dX12_shuffle_15 ⟨by decide, by decide⟩ ?_
    refine sx_icmp_ge (tgt := 29) dX12_shuffle_16 (by decide) (fun c4 => ?_) (fun c4 => ?_)
    ·
      refine sx_aload_n dX12_shuffle_29 rfl ?_
      refine sx_callVi lk_X12_531 cl_12 s_224 (by decide) dX12_shuffle_30 (vs := []) rfl rfl (Nat.le_of_ble_eq_true rfl) (Nat.le_of_ble_eq_true rfl) rfl (c_X12_pop _ Ih1.1 (by first | omega | (rw [Int.tmod_eq_emod_of_nonneg (by omega)]; omega) | (rw [Int.tdiv_eq_ediv_of_nonneg (by omega)]; omega))) (fun x6 h5 ph5 => ?_)
      obtain ⟨Kh5, c_h5, v_h5⟩ := ph5
      have Ih5 := Ih1.tr Kh5 (prW_sub rfl rfl)
      have q2 : x6 = h0 262 (h0 224 67 - 2).toNat := (v_h5 (h0 224 67 - 2).toNat (by omega)).trans (kp1 _)
      have kp2 : ∀ k, h5 262 k = h0 262 k := fun k => (Kh5.2 262 k rfl).trans (kp1 k)
      refine sx_istore_n dX12_shuffle_33 (by decide) ?_
      refine sx_iload_n dX12_shuffle_34 rfl ?_
      refine sx_iconst dX12_shuffle_35 ⟨by decide, by decide⟩ ?_
      refine sx_icmp_ne (tgt := 62) dX12_shuffle_36 (by decide) (fun c7 => ?_) (fun c7 => ?_)
      ·
        refine sx_iload_n dX12_shuffle_62 rfl ?_
        refine sx_iconst dX12_shuffle_63 ⟨by decide, by decide⟩ ?_
        refine sx_icmp_ne (tgt := 72) dX12_shuffle_64 (by decide) (fun c8 => ?_) (fun c8 => ?_)
        ·
          refine sx_iload_n dX12_shuffle_72 rfl ?_
          refine sx_iconst dX12_shuffle_73 ⟨by decide, by decide⟩ ?_
          refine sx_icmp_eq (tgt := 83) dX12_shuffle_74 (by decide) (fun c9 => ?_) (fun c9 => ?_)
          ·
            exact absurd c9 (by decide)
          ·
            refine sx_iload_n dX12_shuffle_77 rfl ?_
            refine sx_bipush dX12_shuffle_78 ⟨by decide, by decide, by decide⟩ ?_
            refine sx_icmp_ne (tgt := 88) dX12_shuffle_80 (by decide) (fun c10 => ?_) (fun c10 => ?_)
            ·
              exact absurd c10 (by decide)
            ·
              refine sx_aload_n dX12_shuffle_83 rfl ?_
              refine sx_iload_n dX12_shuffle_84 rfl ?_
              refine sx_callVv lk_X12_534 cl_12 s_224 (by decide) dX12_shuffle_85 (vs := [_]) rfl rfl (Nat.le_of_ble_eq_true rfl) (Nat.le_of_ble_eq_true rfl) rfl (c_X12_push _ Ih5.1 _ (by first | omega | (rw [Int.tmod_eq_emod_of_nonneg (by omega)]; omega) | (rw [Int.tdiv_eq_ediv_of_nonneg (by omega)]; omega))) (fun h11 ph11 => ?_)
              obtain ⟨Kh11, c_h11, v_h11⟩ := ph11
              have Ih11 := Ih5.tr Kh11 (prW_sub rfl rfl)
              refine sx_iload_n dX12_shuffle_88 rfl ?_
              refine sx_iconst dX12_shuffle_89 ⟨by decide, by decide⟩ ?_
              refine sx_icmp_eq (tgt := 103) dX12_shuffle_90 (by decide) (fun c13 => ?_) (fun c13 => ?_)
              ·
                exact absurd c13 (by decide)
              ·
                refine sx_iload_n dX12_shuffle_93 rfl ?_
                refine sx_iconst dX12_shuffle_94 ⟨by decide, by decide⟩ ?_
                refine sx_icmp_eq (tgt := 103) dX12_shuffle_95 (by decide) (fun c14 => ?_) (fun c14 => ?_)
                ·
                  exact absurd c14 (by decide)
                ·
                  refine sx_aload_n dX12_shuffle_98 rfl ?_
                  refine sx_iload_n dX12_shuffle_99 rfl ?_
                  refine sx_callVv lk_X12_534 cl_12 s_224 (by decide) dX12_shuffle_100 (vs := [_]) rfl rfl (Nat.le_of_ble_eq_true rfl) (Nat.le_of_ble_eq_true rfl) rfl (c_X12_push _ Ih11.1 _ (by first | omega | (rw [Int.tmod_eq_emod_of_nonneg (by omega)]; omega) | (rw [Int.tdiv_eq_ediv_of_nonneg (by omega)]; omega))) (fun h15 ph15 => ?_)
                  obtain ⟨Kh15, c_h15, v_h15⟩ := ph15
                  have Ih15 := Ih11.tr Kh15 (prW_sub rfl rfl)
                  refine sx_iload_n dX12_shuffle_103 rfl ?_
                  refine sx_iconst dX12_shuffle_104 ⟨by decide, by decide⟩ ?_
                  refine sx_icmp_eq (tgt := 119) dX12_shuffle_105 (by decide) (fun c17 => ?_) (fun c17 => ?_)
                  ·
                    exact absurd c17 (by decide)
                  ·
                    refine sx_iload_n dX12_shuffle_108 rfl ?_
                    refine sx_iconst dX12_shuffle_109 ⟨by decide, by decide⟩ ?_
                    refine sx_icmp_eq (tgt := 119) dX12_shuffle_110 (by decide) (fun c18 => ?_) (fun c18 => ?_)
                    ·
                      exact absurd c18 (by decide)
                    ·
                      refine sx_iload_n dX12_shuffle_113 rfl ?_
                      refine sx_bipush dX12_shuffle_114 ⟨by decide, by decide, by decide⟩ ?_
                      refine sx_icmp_ne (tgt := 124) dX12_shuffle_116 (by decide) (fun c19 => ?_) (fun c19 => ?_)
                      ·
                        exact absurd c19 (by decide)
                      ·
                        refine sx_aload_n dX12_shuffle_119 rfl ?_
                        refine sx_iload_n dX12_shuffle_120 rfl ?_
                        refine sx_callVv lk_X12_534 cl_12 s_224 (by decide) dX12_shuffle_121 (vs := [_]) rfl rfl (Nat.le_of_ble_eq_true rfl) (Nat.le_of_ble_eq_true rfl) rfl (c_X12_push _ Ih15.1 _ (by first | omega | (rw [Int.tmod_eq_emod_of_nonneg (by omega)]; omega) | (rw [Int.tdiv_eq_ediv_of_nonneg (by omega)]; omega))) (fun h20 ph20 => ?_)
                        obtain ⟨Kh20, c_h20, v_h20⟩ := ph20
                        have Ih20 := Ih15.tr Kh20 (prW_sub rfl rfl)
                        refine sx_iload_n dX12_shuffle_124 rfl ?_
                        refine sx_iconst dX12_shuffle_125 ⟨by decide, by decide⟩ ?_
                        refine sx_icmp_ne (tgt := 134) dX12_shuffle_126 (by decide) (fun c22 => ?_) (fun c22 => ?_)
                        ·
                          refine sx_ret dX12_shuffle_134 ?_
                          exact ⟨rfl, ⟨Ih20, by omega, fun k => by (rw [v_h20 k, v_h15 k, v_h11 k, show h5 262 k = _ from Kh5.2 262 k rfl, show h1 262 k = _ from Kh1.2 262 k rfl]; (try simp only [q1, q2]); unfold shC; (repeat' split) <;> first | rfl | (exfalso; omega) | (congr 1; omega))⟩⟩
                        ·
                          exact absurd c22 (by decide)
        ·
          exact absurd c8 (by decide)
      ·
        exact absurd c7 (by decide)
    ·
      exact absurd c4 (by decide)
  ·
    exact absurd c3 (by decide)
theorem c_X12_shuffle {G : sw_G} (d : Nat) {h0 : sw_H} (hJ : mI h0) (y1 : Int) (ht : 0 ≤ y1 ∧ y1 ≤ 6) (hc : tk y1 ≤ h0 224 67 ∧ h0 224 67 ≤ 90) : sw_E G NH SH (d + 1) mX12_shuffle 0 [some (sw_r 224), some (sw_i y1), none, none, none] [] h0 (sw_Qv (fun h' => mK (prW [67] [262]) h0 h' ∧ (h' 224 67 = h0 224 67 - tk y1 + ld y1) ∧ (∀ k : Nat, h' 262 k = shC y1 (h0 224 67) (h0 262) k))) := by
  have h : y1 = 0 ∨ y1 = 1 ∨ y1 = 2 ∨ y1 = 3 ∨ y1 = 4 ∨ y1 = 5 ∨ y1 = 6 := by omega
  rcases h with rfl | rfl | rfl | rfl | rfl | rfl | rfl
  · exact c_X12_shuffle_0 d hJ hc
  · exact c_X12_shuffle_1 d hJ hc
  · exact c_X12_shuffle_2 d hJ hc
  · exact c_X12_shuffle_3 d hJ hc
  · exact c_X12_shuffle_4 d hJ hc
  · exact c_X12_shuffle_5 d hJ hc
  · exact c_X12_shuffle_6 d hJ hc
set_option maxRecDepth 20000 in
set_option maxHeartbeats 4000000 in
theorem c_X12_doThing {G : sw_G} (d : Nat) {h0 : sw_H} (hJ : mI h0) (y1 : Int) (ht : 0 ≤ y1 ∧ y1 ≤ 14) (hc : tk y1 ≤ h0 224 67 ∧ h0 224 67 ≤ 90) (hb : 0 ≤ h0 224 68 ∧ h0 224 68 ≤ 90 ∧ (y1 = 8 → 1 ≤ h0 224 68))  : sw_E G NH SH (d + 2) mX12_doThing 0 [some (sw_r 224), some (sw_i y1), none] [] h0 (sw_Qv (fun h' => mK (prW [67, 68] [262, 263]) h0 h' ∧ (h' 224 67 = h0 224 67 - tk y1 + ld y1 ∧ h' 224 68 = h0 224 68 + pu y1))) := by
  have hI : mK (prW [67, 68] [262, 263]) h0 h0 := mK.refl hJ
  have hc2 := hc
  unfold tk at hc
  refine sx_iload_n dX12_doThing_0 rfl ?_
  refine sx_bipush dX12_doThing_1 ⟨by decide, by decide, by decide⟩ ?_
  refine sx_icmp_ge (tgt := 12) dX12_doThing_3 (by decide) (fun c1 => ?_) (fun c1 => ?_)
  ·
    refine sx_iload_n dX12_doThing_12 rfl ?_
    refine sx_bipush dX12_doThing_13 ⟨by decide, by decide, by decide⟩ ?_
    refine sx_icmp_ne (tgt := 44) dX12_doThing_15 (by decide) (fun c2 => ?_) (fun c2 => ?_)
    ·
      refine sx_iload_n dX12_doThing_44 rfl ?_
      refine sx_bipush dX12_doThing_45 ⟨by decide, by decide, by decide⟩ ?_
      refine sx_icmp_ne (tgt := 76) dX12_doThing_47 (by decide) (fun c3 => ?_) (fun c3 => ?_)
      ·
        refine sx_aload_n dX12_doThing_76 rfl ?_
        refine sx_callVi lk_X12_531 cl_12 s_224 (by decide) dX12_doThing_77 (vs := []) rfl rfl (Nat.le_of_ble_eq_true rfl) (Nat.le_of_ble_eq_true rfl) rfl (c_X12_pop _ hI.1 (by first | omega | (rw [Int.tmod_eq_emod_of_nonneg (by omega)]; omega) | (rw [Int.tdiv_eq_ediv_of_nonneg (by omega)]; omega))) (fun x5 h4 ph4 => ?_)
        obtain ⟨Kh4, c_h4, v_h4⟩ := ph4
        have Ih4 := hI.tr Kh4 (prW_sub rfl rfl)
        have th4_224_68 := Kh4.2 224 68 rfl
        refine sx_istore_n dX12_doThing_80 (by decide) ?_
        refine sx_aload_n dX12_doThing_81 rfl ?_
        refine sx_iload_n dX12_doThing_82 rfl ?_
        refine sx_bipush dX12_doThing_83 ⟨by decide, by decide, by decide⟩ ?_
        refine sx_icmp_ne (tgt := 93) dX12_doThing_85 (by decide) (fun c6 => ?_) (fun c6 => ?_)
        ·
          refine sx_iload_n dX12_doThing_93 rfl ?_
          refine sx_aload_n dX12_doThing_94 rfl ?_
          refine sx_callVi lk_X12_531 cl_12 s_224 (by decide) dX12_doThing_95 (vs := []) rfl rfl (Nat.le_of_ble_eq_true rfl) (Nat.le_of_ble_eq_true rfl) rfl (c_X12_pop _ Ih4.1 (by first | omega | (rw [Int.tmod_eq_emod_of_nonneg (by omega)]; omega) | (rw [Int.tdiv_eq_ediv_of_nonneg (by omega)]; omega))) (fun x8 h7 ph7 => ?_)
          obtain ⟨Kh7, c_h7, v_h7⟩ := ph7
          have Ih7 := Ih4.tr Kh7 (prW_sub rfl rfl)
          have th7_224_68 := Kh7.2 224 68 rfl
          refine sx_iload_n dX12_doThing_98 rfl ?_
          refine sx_callSi lk_X12_537 dX12_doThing_99 (vs := [_, _, _]) rfl rfl (Nat.le_of_ble_eq_true rfl) (Nat.le_of_ble_eq_true rfl) rfl (c_X12_reckoned _ Ih7.1 _ _ _) (fun x10 h9 ph9 => ?_)
          subst ph9
          refine sx_callVv lk_X12_534 cl_12 s_224 (by decide) dX12_doThing_102 (vs := [_]) rfl rfl (Nat.le_of_ble_eq_true rfl) (Nat.le_of_ble_eq_true rfl) rfl (c_X12_push _ Ih7.1 _ (by first | omega | (rw [Int.tmod_eq_emod_of_nonneg (by omega)]; omega) | (rw [Int.tdiv_eq_ediv_of_nonneg (by omega)]; omega))) (fun h11 ph11 => ?_)
          obtain ⟨Kh11, c_h11, v_h11⟩ := ph11
          have Ih11 := Ih7.tr Kh11 (prW_sub rfl rfl)
          have th11_224_68 := Kh11.2 224 68 rfl
          refine sx_ret dX12_doThing_105 ?_
          exact ⟨rfl, ⟨Ih11, by unfold pu; first | omega | (unfold tk ld; omega)⟩⟩
        ·
          refine sx_iload_n dX12_doThing_88 rfl ?_
          refine sx_ineg dX12_doThing_89 ?_
          refine sx_goto (tgt := 102) dX12_doThing_90 (by decide) ?_
          refine sx_callVv lk_X12_534 cl_12 s_224 (by decide) dX12_doThing_102 (vs := [_]) rfl rfl (Nat.le_of_ble_eq_true rfl) (Nat.le_of_ble_eq_true rfl) rfl (c_X12_push _ Ih4.1 _ (by first | omega | (rw [Int.tmod_eq_emod_of_nonneg (by omega)]; omega) | (rw [Int.tdiv_eq_ediv_of_nonneg (by omega)]; omega))) (fun h13 ph13 => ?_)
          obtain ⟨Kh13, c_h13, v_h13⟩ := ph13
          have Ih13 := Ih4.tr Kh13 (prW_sub rfl rfl)
          have th13_224_68 := Kh13.2 224 68 rfl
          refine sx_ret dX12_doThing_105 ?_
          exact ⟨rfl, ⟨Ih13, by unfold pu; first | omega | (unfold tk ld; omega)⟩⟩
      ·
        refine sx_aload_n dX12_doThing_50 rfl ?_
        refine sx_dupr dX12_doThing_51 ?_
        refine sx_getI (k := 68) cl_12 fl_X12_528 dX12_doThing_52 s_224 (by decide) rfl (by decide) ?_
        refine sx_iconst dX12_doThing_55 ⟨by decide, by decide⟩ ?_
        refine sx_isub dX12_doThing_56 ?_
        refine sy_topw (by first | omega | (rw [Int.tmod_eq_emod_of_nonneg (by omega)]; omega) | (rw [Int.tdiv_eq_ediv_of_nonneg (by omega)]; omega)) ?_
        refine sy_putI (k := 68) cl_12 fl_X12_528 dX12_doThing_57 s_224 (by decide) rfl (by decide) rfl rfl (fun h15 eh15 => ?_)
        have Ih15 := hI.up eh15 trivial rfl
        have th15_224_67 := eh15.2 (224) 67 (by decide)
        have th15_224_68 := eh15.1
        refine sx_aload_n dX12_doThing_60 rfl ?_
        refine sx_aload_n dX12_doThing_61 rfl ?_
        refine sx_getS (k := 63) (t := 263) cl_12 fl_X12_130 dX12_doThing_62 s_224 (by decide) rfl (by decide) ?_
        refine sx_aload_n dX12_doThing_65 rfl ?_
        refine sx_getI (k := 68) cl_12 fl_X12_528 dX12_doThing_66 s_224 (by decide) rfl (by decide) ?_
        refine sx_iaload dX12_doThing_69 s_263 (by decide) (by decide) ⟨by first | omega | (rw [Int.tmod_eq_emod_of_nonneg (by omega)]; omega) | (rw [Int.tdiv_eq_ediv_of_nonneg (by omega)]; omega), by first | omega | (rw [Int.tmod_eq_emod_of_nonneg (by omega)]; omega) | (rw [Int.tdiv_eq_ediv_of_nonneg (by omega)]; omega)⟩ ?_
        refine sx_callVv lk_X12_534 cl_12 s_224 (by decide) dX12_doThing_70 (vs := [_]) rfl rfl (Nat.le_of_ble_eq_true rfl) (Nat.le_of_ble_eq_true rfl) rfl (c_X12_push _ Ih15.1 _ (by first | omega | (rw [Int.tmod_eq_emod_of_nonneg (by omega)]; omega) | (rw [Int.tdiv_eq_ediv_of_nonneg (by omega)]; omega))) (fun h16 ph16 => ?_)
        obtain ⟨Kh16, c_h16, v_h16⟩ := ph16
        have Ih16 := Ih15.tr Kh16 (prW_sub rfl rfl)
        have th16_224_68 := Kh16.2 224 68 rfl
        refine sx_goto (tgt := 105) dX12_doThing_73 (by decide) ?_
        refine sx_ret dX12_doThing_105 ?_
        exact ⟨rfl, ⟨Ih16, by unfold pu; first | omega | (unfold tk ld; omega)⟩⟩
    ·
      refine sx_aload_n dX12_doThing_18 rfl ?_
      refine sx_getS (k := 63) (t := 263) cl_12 fl_X12_130 dX12_doThing_19 s_224 (by decide) rfl (by decide) ?_
      refine sx_aload_n dX12_doThing_22 rfl ?_
      refine sx_getI (k := 68) cl_12 fl_X12_528 dX12_doThing_23 s_224 (by decide) rfl (by decide) ?_
      refine sx_aload_n dX12_doThing_26 rfl ?_
      refine sx_callVi lk_X12_531 cl_12 s_224 (by decide) dX12_doThing_27 (vs := []) rfl rfl (Nat.le_of_ble_eq_true rfl) (Nat.le_of_ble_eq_true rfl) rfl (c_X12_pop _ hI.1 (by first | omega | (rw [Int.tmod_eq_emod_of_nonneg (by omega)]; omega) | (rw [Int.tdiv_eq_ediv_of_nonneg (by omega)]; omega))) (fun x19 h18 ph18 => ?_)
      obtain ⟨Kh18, c_h18, v_h18⟩ := ph18
      have Ih18 := hI.tr Kh18 (prW_sub rfl rfl)
      have th18_224_68 := Kh18.2 224 68 rfl
      refine sy_iastore dX12_doThing_30 s_263 (by decide) (by decide) ⟨by first | omega | (rw [Int.tmod_eq_emod_of_nonneg (by omega)]; omega) | (rw [Int.tdiv_eq_ediv_of_nonneg (by omega)]; omega), by first | omega | (rw [Int.tmod_eq_emod_of_nonneg (by omega)]; omega) | (rw [Int.tdiv_eq_ediv_of_nonneg (by omega)]; omega)⟩ (fun h20 eh20 => ?_)
      have Ih20 := Ih18.up eh20 trivial rfl
      have th20_224_67 := eh20.2 (224) 67 (by omega)
      have th20_224_68 := eh20.2 (224) 68 (by omega)
      refine sx_aload_n dX12_doThing_31 rfl ?_
      refine sx_dupr dX12_doThing_32 ?_
      refine sx_getI (k := 68) cl_12 fl_X12_528 dX12_doThing_33 s_224 (by decide) rfl (by decide) ?_
      refine sx_iconst dX12_doThing_36 ⟨by decide, by decide⟩ ?_
      refine sx_iadd dX12_doThing_37 ?_
      refine sy_topw (by first | omega | (rw [Int.tmod_eq_emod_of_nonneg (by omega)]; omega) | (rw [Int.tdiv_eq_ediv_of_nonneg (by omega)]; omega)) ?_
      refine sy_putI (k := 68) cl_12 fl_X12_528 dX12_doThing_38 s_224 (by decide) rfl (by decide) rfl rfl (fun h21 eh21 => ?_)
      have Ih21 := Ih20.up eh21 trivial rfl
      have th21_224_67 := eh21.2 (224) 67 (by decide)
      have th21_224_68 := eh21.1
      refine sx_goto (tgt := 105) dX12_doThing_41 (by decide) ?_
      refine sx_ret dX12_doThing_105 ?_
      exact ⟨rfl, ⟨Ih21, by unfold pu; first | omega | (unfold tk ld; omega)⟩⟩
  ·
    refine sx_aload_n dX12_doThing_6 rfl ?_
    refine sx_iload_n dX12_doThing_7 rfl ?_
    refine sx_callVv lk_X12_525 cl_12 s_224 (by decide) dX12_doThing_8 (vs := [_]) rfl rfl (Nat.le_of_ble_eq_true rfl) (Nat.le_of_ble_eq_true rfl) rfl (c_X12_shuffle _ hI.1 _ (by omega) (by omega)) (fun h22 ph22 => ?_)
    obtain ⟨Kh22, c_h22, v_h22⟩ := ph22
    have Ih22 := hI.tr Kh22 (prW_sub rfl rfl)
    have th22_224_68 := Kh22.2 224 68 rfl
    refine sx_ret dX12_doThing_11 ?_
    exact ⟨rfl, ⟨Ih22, by unfold pu; first | omega | (unfold tk ld; omega)⟩⟩
set_option maxRecDepth 20000 in
set_option maxHeartbeats 4000000 in
theorem c_X12_doItem_0 {G : sw_G} (d : Nat) {h0 : sw_H} (hJ : mI h0) (y1 y2 : Int) (hw : 0 ≤ y1 ∧ y1 < 6) (hi : 0 ≤ y2 ∧ h0 233 (6 * h0 224 36 + y1).toNat + y2 < 60) (hs : 0 ≤ (0 : Int) ∧ (0 : Int) ≤ 7 ∧ (0 : Int) ≠ 2) (h_0 : (0 : Int) = 0 → 0 ≤ wO h0 y1 y2 ∧ wO h0 y1 y2 ≤ 14 ∧ tk (wO h0 y1 y2) ≤ h0 224 67 ∧ (wO h0 y1 y2 = 8 → 1 ≤ h0 224 68)) (hc : 0 ≤ h0 224 67 ∧ h0 224 67 ≤ 90 ∧ 0 ≤ h0 224 68 ∧ h0 224 68 ≤ 90 ∧ ((0 : Int) = 3 → 1 ≤ h0 224 67)) (hl : 0 ≤ h0 224 70 ∧ ((0 : Int) = 6 → h0 224 70 ≤ 47) ∧ ((0 : Int) = 7 → 1 ≤ h0 224 70 ∧ h0 224 70 ≤ 48 ∧ 1 ≤ h0 266 (h0 224 70 - 1).toNat ∧ h0 266 (h0 224 70 - 1).toNat ≤ 9))  : sw_E G NH SH (d + 3) mX12_doItem 0 [some (sw_r 224), some (sw_i y1), some (sw_i y2), some (sw_i 0), none] [] h0 (sw_Qi (fun z h' => mK (prW [67, 68, 70] [262, 263, 266]) h0 h' ∧ (((0 : Int) ≠ 3 → (0 : Int) ≠ 4 → (0 : Int) ≠ 7 → z = y2 + 1) ∧ ((0 : Int) = 3 → z = y2 + 1 ∨ z = h0 243 (60 * h0 224 36 + h0 233 (6 * h0 224 36 + y1).toNat + y2).toNat - (60 * h0 224 36 + h0 233 (6 * h0 224 36 + y1).toNat) + 1) ∧ ((0 : Int) = 4 → z = h0 243 (60 * h0 224 36 + h0 233 (6 * h0 224 36 + y1).toNat + y2).toNat - (60 * h0 224 36 + h0 233 (6 * h0 224 36 + y1).toNat) + 1)) ∧ (h' 224 67 = (if (0 : Int) = 0 then h0 224 67 - tk (wO h0 y1 y2) + ld (wO h0 y1 y2) else if (0 : Int) = 1 then h0 224 67 + 1 else if (0 : Int) = 3 then h0 224 67 - 1 else h0 224 67) ∧ h' 224 68 = (if (0 : Int) = 0 then h0 224 68 + pu (wO h0 y1 y2) else h0 224 68)) ∧ (((0 : Int) ≠ 6 → (0 : Int) ≠ 7 → h' 224 70 = h0 224 70 ∧ ∀ k, h' 266 k = h0 266 k) ∧ ((0 : Int) = 6 → h' 224 70 = h0 224 70 + 1 ∧ ∀ k : Nat, h' 266 k = if (k : Int) = h0 224 70 then wO h0 y1 y2 else h0 266 k)) ∧ ((0 : Int) = 7 → ((2 ≤ h0 266 (h0 224 70 - 1).toNat ∧ h' 224 70 = h0 224 70 ∧ z = h0 243 (60 * h0 224 36 + h0 233 (6 * h0 224 36 + y1).toNat + y2).toNat - (60 * h0 224 36 + h0 233 (6 * h0 224 36 + y1).toNat) + 1 ∧ ∀ k : Nat, h' 266 k = if (k : Int) = h0 224 70 - 1 then h0 266 (h0 224 70 - 1).toNat - 1 else h0 266 k) ∨ (h' 224 70 = h0 224 70 - 1 ∧ z = y2 + 1 ∧ ∀ k : Nat, (k : Int) ≠ h0 224 70 - 1 → h' 266 k = h0 266 k))))) := by
  have hI : mK (prW [67, 68, 70] [262, 263, 266]) h0 h0 := mK.refl hJ
  have ra0 : (0 : Int) ≤ h0 233 (6 * h0 224 36 + y1).toNat ∧ h0 233 (6 * h0 224 36 + y1).toNat ≤ 60 := hI.1 233 _
  have ra1 : (0 : Int) ≤ h0 224 36 ∧ h0 224 36 ≤ 1 := hI.1 224 36
  have ra2 : (-1 : Int) ≤ h0 243 (60 * h0 224 36 + h0 233 (6 * h0 224 36 + y1).toNat + y2).toNat ∧ h0 243 (60 * h0 224 36 + h0 233 (6 * h0 224 36 + y1).toNat + y2).toNat ≤ 119 := hI.1 243 _
  refine sx_iload_n dX12_doItem_0 rfl ?_
  refine sx_iconst dX12_doItem_1 ⟨by decide, by decide⟩ ?_
  refine sx_icmp_le (tgt := 26) dX12_doItem_2 (by decide) (fun c1 => ?_) (fun c1 => ?_)
  ·
    refine sx_iconst dX12_doItem_26 ⟨by decide, by decide⟩ ?_
    refine sx_istore dX12_doItem_27 (by decide) ?_
    refine sx_iload_n dX12_doItem_29 rfl ?_
    refine sx_if_ne (tgt := 43) dX12_doItem_30 (by decide) (fun c2 => ?_) (fun c2 => ?_)
    ·
      exact absurd c2 (by decide)
    ·
      refine sx_aload_n dX12_doItem_33 rfl ?_
      refine sx_aload_n dX12_doItem_34 rfl ?_
      refine sx_iload_n dX12_doItem_35 rfl ?_
      refine sx_iload_n dX12_doItem_36 rfl ?_
      refine sx_callVi lk_X12_552 cl_12 s_224 (by decide) dX12_doItem_37 (vs := [_, _]) rfl rfl (Nat.le_of_ble_eq_true rfl) (Nat.le_of_ble_eq_true rfl) rfl (c_X12_whatOf _ hI.1 _ _ (by first | omega | (rw [Int.tmod_eq_emod_of_nonneg (by omega)]; omega) | (rw [Int.tdiv_eq_ediv_of_nonneg (by omega)]; omega)) (by first | omega | (rw [Int.tmod_eq_emod_of_nonneg (by omega)]; omega) | (rw [Int.tdiv_eq_ediv_of_nonneg (by omega)]; omega))) (fun x4 h3 ph3 => ?_)
      obtain ⟨rfl, p_x4⟩ := ph3
      obtain ⟨qw, -, -⟩ := p_x4
      subst qw
      refine sx_callVv lk_X12_558 cl_12 s_224 (by decide) dX12_doItem_40 (vs := [_]) rfl rfl (Nat.le_of_ble_eq_true rfl) (Nat.le_of_ble_eq_true rfl) rfl (c_X12_doThing _ hI.1 _ (by omega) (by omega) (by omega)) (fun h5 ph5 => ?_)
      obtain ⟨Kh5, c_h5⟩ := ph5
      have Ih5 := hI.tr Kh5 (prW_sub rfl rfl)
      have th5_224_70 := Kh5.2 224 70 rfl
      refine sx_iload_n dX12_doItem_43 rfl ?_
      refine sx_iconst dX12_doItem_44 ⟨by decide, by decide⟩ ?_
      refine sx_icmp_ne (tgt := 58) dX12_doItem_45 (by decide) (fun c7 => ?_) (fun c7 => ?_)
      ·
        refine sx_iload_n dX12_doItem_58 rfl ?_
        refine sx_iconst dX12_doItem_59 ⟨by decide, by decide⟩ ?_
        refine sx_icmp_ne (tgt := 81) dX12_doItem_60 (by decide) (fun c8 => ?_) (fun c8 => ?_)
        ·
          refine sx_iload_n dX12_doItem_81 rfl ?_
          refine sx_iconst dX12_doItem_82 ⟨by decide, by decide⟩ ?_
          refine sx_icmp_ne (tgt := 91) dX12_doItem_83 (by decide) (fun c9 => ?_) (fun c9 => ?_)
          ·
            refine sx_iload_n dX12_doItem_91 rfl ?_
            refine sx_bipush dX12_doItem_92 ⟨by decide, by decide, by decide⟩ ?_
            refine sx_icmp_ne (tgt := 122) dX12_doItem_94 (by decide) (fun c10 => ?_) (fun c10 => ?_)
            ·
              refine sx_iload_n dX12_doItem_122 rfl ?_
              refine sx_bipush dX12_doItem_123 ⟨by decide, by decide, by decide⟩ ?_
              refine sx_icmp_ne (tgt := 172) dX12_doItem_125 (by decide) (fun c11 => ?_) (fun c11 => ?_)
              ·
                refine sx_iload_n dX12_doItem_172 rfl ?_
                refine sx_iconst dX12_doItem_173 ⟨by decide, by decide⟩ ?_
                refine sx_iadd dX12_doItem_174 ?_
                refine sy_topw (by first | omega | (rw [Int.tmod_eq_emod_of_nonneg (by omega)]; omega) | (rw [Int.tdiv_eq_ediv_of_nonneg (by omega)]; omega)) ?_
                refine sx_ireturn dX12_doItem_175 ?_
                exact ⟨_, rfl, ⟨Ih5, by omega, by omega, ⟨fun _ _ => ⟨by omega, fun k => Kh5.2 266 k rfl⟩, fun q => absurd q (by decide)⟩, fun q => absurd q (by decide)⟩⟩
              ·
                exact absurd c11 (by decide)
            ·
              exact absurd c10 (by decide)
          ·
            exact absurd c9 (by decide)
        ·
          exact absurd c8 (by decide)
      ·
        exact absurd c7 (by decide)
  ·
    exact absurd c1 (by decide)
set_option maxRecDepth 20000 in
set_option maxHeartbeats 4000000 in
theorem c_X12_doItem_1 {G : sw_G} (d : Nat) {h0 : sw_H} (hJ : mI h0) (y1 y2 : Int) (hw : 0 ≤ y1 ∧ y1 < 6) (hi : 0 ≤ y2 ∧ h0 233 (6 * h0 224 36 + y1).toNat + y2 < 60) (hs : 0 ≤ (1 : Int) ∧ (1 : Int) ≤ 7 ∧ (1 : Int) ≠ 2) (h_0 : (1 : Int) = 0 → 0 ≤ wO h0 y1 y2 ∧ wO h0 y1 y2 ≤ 14 ∧ tk (wO h0 y1 y2) ≤ h0 224 67 ∧ (wO h0 y1 y2 = 8 → 1 ≤ h0 224 68)) (hc : 0 ≤ h0 224 67 ∧ h0 224 67 ≤ 90 ∧ 0 ≤ h0 224 68 ∧ h0 224 68 ≤ 90 ∧ ((1 : Int) = 3 → 1 ≤ h0 224 67)) (hl : 0 ≤ h0 224 70 ∧ ((1 : Int) = 6 → h0 224 70 ≤ 47) ∧ ((1 : Int) = 7 → 1 ≤ h0 224 70 ∧ h0 224 70 ≤ 48 ∧ 1 ≤ h0 266 (h0 224 70 - 1).toNat ∧ h0 266 (h0 224 70 - 1).toNat ≤ 9))  : sw_E G NH SH (d + 3) mX12_doItem 0 [some (sw_r 224), some (sw_i y1), some (sw_i y2), some (sw_i 1), none] [] h0 (sw_Qi (fun z h' => mK (prW [67, 68, 70] [262, 263, 266]) h0 h' ∧ (((1 : Int) ≠ 3 → (1 : Int) ≠ 4 → (1 : Int) ≠ 7 → z = y2 + 1) ∧ ((1 : Int) = 3 → z = y2 + 1 ∨ z = h0 243 (60 * h0 224 36 + h0 233 (6 * h0 224 36 + y1).toNat + y2).toNat - (60 * h0 224 36 + h0 233 (6 * h0 224 36 + y1).toNat) + 1) ∧ ((1 : Int) = 4 → z = h0 243 (60 * h0 224 36 + h0 233 (6 * h0 224 36 + y1).toNat + y2).toNat - (60 * h0 224 36 + h0 233 (6 * h0 224 36 + y1).toNat) + 1)) ∧ (h' 224 67 = (if (1 : Int) = 0 then h0 224 67 - tk (wO h0 y1 y2) + ld (wO h0 y1 y2) else if (1 : Int) = 1 then h0 224 67 + 1 else if (1 : Int) = 3 then h0 224 67 - 1 else h0 224 67) ∧ h' 224 68 = (if (1 : Int) = 0 then h0 224 68 + pu (wO h0 y1 y2) else h0 224 68)) ∧ (((1 : Int) ≠ 6 → (1 : Int) ≠ 7 → h' 224 70 = h0 224 70 ∧ ∀ k, h' 266 k = h0 266 k) ∧ ((1 : Int) = 6 → h' 224 70 = h0 224 70 + 1 ∧ ∀ k : Nat, h' 266 k = if (k : Int) = h0 224 70 then wO h0 y1 y2 else h0 266 k)) ∧ ((1 : Int) = 7 → ((2 ≤ h0 266 (h0 224 70 - 1).toNat ∧ h' 224 70 = h0 224 70 ∧ z = h0 243 (60 * h0 224 36 + h0 233 (6 * h0 224 36 + y1).toNat + y2).toNat - (60 * h0 224 36 + h0 233 (6 * h0 224 36 + y1).toNat) + 1 ∧ ∀ k : Nat, h' 266 k = if (k : Int) = h0 224 70 - 1 then h0 266 (h0 224 70 - 1).toNat - 1 else h0 266 k) ∨ (h' 224 70 = h0 224 70 - 1 ∧ z = y2 + 1 ∧ ∀ k : Nat, (k : Int) ≠ h0 224 70 - 1 → h' 266 k = h0 266 k))))) := by
  have hI : mK (prW [67, 68, 70] [262, 263, 266]) h0 h0 := mK.refl hJ
  have ra0 : (0 : Int) ≤ h0 233 (6 * h0 224 36 + y1).toNat ∧ h0 233 (6 * h0 224 36 + y1).toNat ≤ 60 := hI.1 233 _
  have ra1 : (0 : Int) ≤ h0 224 36 ∧ h0 224 36 ≤ 1 := hI.1 224 36
  have ra2 : (-1 : Int) ≤ h0 243 (60 * h0 224 36 + h0 233 (6 * h0 224 36 + y1).toNat + y2).toNat ∧ h0 243 (60 * h0 224 36 + h0 233 (6 * h0 224 36 + y1).toNat + y2).toNat ≤ 119 := hI.1 243 _
  refine sx_iload_n dX12_doItem_0 rfl ?_
  refine sx_iconst dX12_doItem_1 ⟨by decide, by decide⟩ ?_
  refine sx_icmp_le (tgt := 26) dX12_doItem_2 (by decide) (fun c1 => ?_) (fun c1 => ?_)
  ·
    refine sx_iconst dX12_doItem_26 ⟨by decide, by decide⟩ ?_
    refine sx_istore dX12_doItem_27 (by decide) ?_
    refine sx_iload_n dX12_doItem_29 rfl ?_
    refine sx_if_ne (tgt := 43) dX12_doItem_30 (by decide) (fun c2 => ?_) (fun c2 => ?_)
    ·
      refine sx_iload_n dX12_doItem_43 rfl ?_
      refine sx_iconst dX12_doItem_44 ⟨by decide, by decide⟩ ?_
      refine sx_icmp_ne (tgt := 58) dX12_doItem_45 (by decide) (fun c3 => ?_) (fun c3 => ?_)
      ·
        exact absurd c3 (by decide)
      ·
        refine sx_aload_n dX12_doItem_48 rfl ?_
        refine sx_aload_n dX12_doItem_49 rfl ?_
        refine sx_iload_n dX12_doItem_50 rfl ?_
        refine sx_iload_n dX12_doItem_51 rfl ?_
        refine sx_callVi lk_X12_552 cl_12 s_224 (by decide) dX12_doItem_52 (vs := [_, _]) rfl rfl (Nat.le_of_ble_eq_true rfl) (Nat.le_of_ble_eq_true rfl) rfl (c_X12_whatOf _ hI.1 _ _ (by first | omega | (rw [Int.tmod_eq_emod_of_nonneg (by omega)]; omega) | (rw [Int.tdiv_eq_ediv_of_nonneg (by omega)]; omega)) (by first | omega | (rw [Int.tmod_eq_emod_of_nonneg (by omega)]; omega) | (rw [Int.tdiv_eq_ediv_of_nonneg (by omega)]; omega))) (fun x5 h4 ph4 => ?_)
        obtain ⟨rfl, p_x5⟩ := ph4
        obtain ⟨qw, -, -⟩ := p_x5
        subst qw
        refine sx_callVv lk_X12_534 cl_12 s_224 (by decide) dX12_doItem_55 (vs := [_]) rfl rfl (Nat.le_of_ble_eq_true rfl) (Nat.le_of_ble_eq_true rfl) rfl (c_X12_push _ hI.1 _ (by first | omega | (rw [Int.tmod_eq_emod_of_nonneg (by omega)]; omega) | (rw [Int.tdiv_eq_ediv_of_nonneg (by omega)]; omega))) (fun h6 ph6 => ?_)
        obtain ⟨Kh6, c_h6, v_h6⟩ := ph6
        have Ih6 := hI.tr Kh6 (prW_sub rfl rfl)
        have th6_224_68 := Kh6.2 224 68 rfl
        have th6_224_70 := Kh6.2 224 70 rfl
        refine sx_iload_n dX12_doItem_58 rfl ?_
        refine sx_iconst dX12_doItem_59 ⟨by decide, by decide⟩ ?_
        refine sx_icmp_ne (tgt := 81) dX12_doItem_60 (by decide) (fun c8 => ?_) (fun c8 => ?_)
        ·
          refine sx_iload_n dX12_doItem_81 rfl ?_
          refine sx_iconst dX12_doItem_82 ⟨by decide, by decide⟩ ?_
          refine sx_icmp_ne (tgt := 91) dX12_doItem_83 (by decide) (fun c9 => ?_) (fun c9 => ?_)
          ·
            refine sx_iload_n dX12_doItem_91 rfl ?_
            refine sx_bipush dX12_doItem_92 ⟨by decide, by decide, by decide⟩ ?_
            refine sx_icmp_ne (tgt := 122) dX12_doItem_94 (by decide) (fun c10 => ?_) (fun c10 => ?_)
            ·
              refine sx_iload_n dX12_doItem_122 rfl ?_
              refine sx_bipush dX12_doItem_123 ⟨by decide, by decide, by decide⟩ ?_
              refine sx_icmp_ne (tgt := 172) dX12_doItem_125 (by decide) (fun c11 => ?_) (fun c11 => ?_)
              ·
                refine sx_iload_n dX12_doItem_172 rfl ?_
                refine sx_iconst dX12_doItem_173 ⟨by decide, by decide⟩ ?_
                refine sx_iadd dX12_doItem_174 ?_
                refine sy_topw (by first | omega | (rw [Int.tmod_eq_emod_of_nonneg (by omega)]; omega) | (rw [Int.tdiv_eq_ediv_of_nonneg (by omega)]; omega)) ?_
                refine sx_ireturn dX12_doItem_175 ?_
                exact ⟨_, rfl, ⟨Ih6, by omega, by omega, ⟨fun _ _ => ⟨by omega, fun k => Kh6.2 266 k rfl⟩, fun q => absurd q (by decide)⟩, fun q => absurd q (by decide)⟩⟩
              ·
                exact absurd c11 (by decide)
            ·
              exact absurd c10 (by decide)
          ·
            exact absurd c9 (by decide)
        ·
          exact absurd c8 (by decide)
    ·
      exact absurd c2 (by decide)
  ·
    exact absurd c1 (by decide)
set_option maxRecDepth 20000 in
set_option maxHeartbeats 4000000 in
theorem c_X12_doItem_3 {G : sw_G} (d : Nat) {h0 : sw_H} (hJ : mI h0) (y1 y2 : Int) (hw : 0 ≤ y1 ∧ y1 < 6) (hi : 0 ≤ y2 ∧ h0 233 (6 * h0 224 36 + y1).toNat + y2 < 60) (hs : 0 ≤ (3 : Int) ∧ (3 : Int) ≤ 7 ∧ (3 : Int) ≠ 2) (h_0 : (3 : Int) = 0 → 0 ≤ wO h0 y1 y2 ∧ wO h0 y1 y2 ≤ 14 ∧ tk (wO h0 y1 y2) ≤ h0 224 67 ∧ (wO h0 y1 y2 = 8 → 1 ≤ h0 224 68)) (hc : 0 ≤ h0 224 67 ∧ h0 224 67 ≤ 90 ∧ 0 ≤ h0 224 68 ∧ h0 224 68 ≤ 90 ∧ ((3 : Int) = 3 → 1 ≤ h0 224 67)) (hl : 0 ≤ h0 224 70 ∧ ((3 : Int) = 6 → h0 224 70 ≤ 47) ∧ ((3 : Int) = 7 → 1 ≤ h0 224 70 ∧ h0 224 70 ≤ 48 ∧ 1 ≤ h0 266 (h0 224 70 - 1).toNat ∧ h0 266 (h0 224 70 - 1).toNat ≤ 9))  : sw_E G NH SH (d + 3) mX12_doItem 0 [some (sw_r 224), some (sw_i y1), some (sw_i y2), some (sw_i 3), none] [] h0 (sw_Qi (fun z h' => mK (prW [67, 68, 70] [262, 263, 266]) h0 h' ∧ (((3 : Int) ≠ 3 → (3 : Int) ≠ 4 → (3 : Int) ≠ 7 → z = y2 + 1) ∧ ((3 : Int) = 3 → z = y2 + 1 ∨ z = h0 243 (60 * h0 224 36 + h0 233 (6 * h0 224 36 + y1).toNat + y2).toNat - (60 * h0 224 36 + h0 233 (6 * h0 224 36 + y1).toNat) + 1) ∧ ((3 : Int) = 4 → z = h0 243 (60 * h0 224 36 + h0 233 (6 * h0 224 36 + y1).toNat + y2).toNat - (60 * h0 224 36 + h0 233 (6 * h0 224 36 + y1).toNat) + 1)) ∧ (h' 224 67 = (if (3 : Int) = 0 then h0 224 67 - tk (wO h0 y1 y2) + ld (wO h0 y1 y2) else if (3 : Int) = 1 then h0 224 67 + 1 else if (3 : Int) = 3 then h0 224 67 - 1 else h0 224 67) ∧ h' 224 68 = (if (3 : Int) = 0 then h0 224 68 + pu (wO h0 y1 y2) else h0 224 68)) ∧ (((3 : Int) ≠ 6 → (3 : Int) ≠ 7 → h' 224 70 = h0 224 70 ∧ ∀ k, h' 266 k = h0 266 k) ∧ ((3 : Int) = 6 → h' 224 70 = h0 224 70 + 1 ∧ ∀ k : Nat, h' 266 k = if (k : Int) = h0 224 70 then wO h0 y1 y2 else h0 266 k)) ∧ ((3 : Int) = 7 → ((2 ≤ h0 266 (h0 224 70 - 1).toNat ∧ h' 224 70 = h0 224 70 ∧ z = h0 243 (60 * h0 224 36 + h0 233 (6 * h0 224 36 + y1).toNat + y2).toNat - (60 * h0 224 36 + h0 233 (6 * h0 224 36 + y1).toNat) + 1 ∧ ∀ k : Nat, h' 266 k = if (k : Int) = h0 224 70 - 1 then h0 266 (h0 224 70 - 1).toNat - 1 else h0 266 k) ∨ (h' 224 70 = h0 224 70 - 1 ∧ z = y2 + 1 ∧ ∀ k : Nat, (k : Int) ≠ h0 224 70 - 1 → h' 266 k = h0 266 k))))) := by
  have hI : mK (prW [67, 68, 70] [262, 263, 266]) h0 h0 := mK.refl hJ
  have ra0 : (0 : Int) ≤ h0 233 (6 * h0 224 36 + y1).toNat ∧ h0 233 (6 * h0 224 36 + y1).toNat ≤ 60 := hI.1 233 _
  have ra1 : (0 : Int) ≤ h0 224 36 ∧ h0 224 36 ≤ 1 := hI.1 224 36
  have ra2 : (-1 : Int) ≤ h0 243 (60 * h0 224 36 + h0 233 (6 * h0 224 36 + y1).toNat + y2).toNat ∧ h0 243 (60 * h0 224 36 + h0 233 (6 * h0 224 36 + y1).toNat + y2).toNat ≤ 119 := hI.1 243 _
  refine sx_iload_n dX12_doItem_0 rfl ?_
  refine sx_iconst dX12_doItem_1 ⟨by decide, by decide⟩ ?_
  refine sx_icmp_le (tgt := 26) dX12_doItem_2 (by decide) (fun c1 => ?_) (fun c1 => ?_)
  ·
    exact absurd c1 (by decide)
  ·
    refine sx_aload_n dX12_doItem_5 rfl ?_
    refine sx_getS (k := 27) (t := 243) cl_12 fl_X12_69 dX12_doItem_6 s_224 (by decide) rfl (by decide) ?_
    refine sx_aload_n dX12_doItem_9 rfl ?_
    refine sx_iload_n dX12_doItem_10 rfl ?_
    refine sx_iload_n dX12_doItem_11 rfl ?_
    refine sx_callVi lk_X12_519 cl_12 s_224 (by decide) dX12_doItem_12 (vs := [_, _]) rfl rfl (Nat.le_of_ble_eq_true rfl) (Nat.le_of_ble_eq_true rfl) rfl (c_X12_itemOf _ hI.1 _ _ (by first | omega | (rw [Int.tmod_eq_emod_of_nonneg (by omega)]; omega) | (rw [Int.tdiv_eq_ediv_of_nonneg (by omega)]; omega)) (by first | omega | (rw [Int.tmod_eq_emod_of_nonneg (by omega)]; omega) | (rw [Int.tdiv_eq_ediv_of_nonneg (by omega)]; omega))) (fun x3 h2 ph2 => ?_)
    obtain ⟨rfl, p_x3⟩ := ph2
    obtain ⟨qx, qx1, qx2⟩ := p_x3
    subst qx
    refine sy_iaF (F := fun z => (-1 : Int) ≤ z ∧ z ≤ 119) dX12_doItem_15 s_243 (by decide) (by decide) ⟨by first | omega | (rw [Int.tmod_eq_emod_of_nonneg (by omega)]; omega) | (rw [Int.tdiv_eq_ediv_of_nonneg (by omega)]; omega), by first | omega | (rw [Int.tmod_eq_emod_of_nonneg (by omega)]; omega) | (rw [Int.tdiv_eq_ediv_of_nonneg (by omega)]; omega)⟩ (hI.1 243 _) (fun r4 => ?_)
    refine sx_aload_n dX12_doItem_16 rfl ?_
    refine sx_iload_n dX12_doItem_17 rfl ?_
    refine sx_iconst dX12_doItem_18 ⟨by decide, by decide⟩ ?_
    refine sx_callVi lk_X12_519 cl_12 s_224 (by decide) dX12_doItem_19 (vs := [_, _]) rfl rfl (Nat.le_of_ble_eq_true rfl) (Nat.le_of_ble_eq_true rfl) rfl (c_X12_itemOf _ hI.1 _ _ (by first | omega | (rw [Int.tmod_eq_emod_of_nonneg (by omega)]; omega) | (rw [Int.tdiv_eq_ediv_of_nonneg (by omega)]; omega)) (by first | omega | (rw [Int.tmod_eq_emod_of_nonneg (by omega)]; omega) | (rw [Int.tdiv_eq_ediv_of_nonneg (by omega)]; omega))) (fun x6 h5 ph5 => ?_)
    obtain ⟨rfl, p_x6⟩ := ph5
    obtain ⟨qx, qx3, qx4⟩ := p_x6
    refine sx_isub dX12_doItem_22 ?_
    refine sy_topw (by first | omega | (rw [Int.tmod_eq_emod_of_nonneg (by omega)]; omega) | (rw [Int.tdiv_eq_ediv_of_nonneg (by omega)]; omega)) ?_
    refine sx_goto (tgt := 27) dX12_doItem_23 (by decide) ?_
    refine sy_top (fun v7 ev7 => ?_)
    refine sx_istore dX12_doItem_27 (by decide) ?_
    refine sx_iload_n dX12_doItem_29 rfl ?_
    refine sx_if_ne (tgt := 43) dX12_doItem_30 (by decide) (fun c8 => ?_) (fun c8 => ?_)
    ·
      refine sx_iload_n dX12_doItem_43 rfl ?_
      refine sx_iconst dX12_doItem_44 ⟨by decide, by decide⟩ ?_
      refine sx_icmp_ne (tgt := 58) dX12_doItem_45 (by decide) (fun c9 => ?_) (fun c9 => ?_)
      ·
        refine sx_iload_n dX12_doItem_58 rfl ?_
        refine sx_iconst dX12_doItem_59 ⟨by decide, by decide⟩ ?_
        refine sx_icmp_ne (tgt := 81) dX12_doItem_60 (by decide) (fun c10 => ?_) (fun c10 => ?_)
        ·
          exact absurd c10 (by decide)
        ·
          refine sx_aload_n dX12_doItem_63 rfl ?_
          refine sx_callVi lk_X12_531 cl_12 s_224 (by decide) dX12_doItem_64 (vs := []) rfl rfl (Nat.le_of_ble_eq_true rfl) (Nat.le_of_ble_eq_true rfl) rfl (c_X12_pop _ hI.1 (by first | omega | (rw [Int.tmod_eq_emod_of_nonneg (by omega)]; omega) | (rw [Int.tdiv_eq_ediv_of_nonneg (by omega)]; omega))) (fun x12 h11 ph11 => ?_)
          obtain ⟨Kh11, c_h11, v_h11⟩ := ph11
          have Ih11 := hI.tr Kh11 (prW_sub rfl rfl)
          have th11_224_68 := Kh11.2 224 68 rfl
          have th11_224_70 := Kh11.2 224 70 rfl
          refine sx_if_ne (tgt := 77) dX12_doItem_67 (by decide) (fun c13 => ?_) (fun c13 => ?_)
          ·
            refine sx_iload_n dX12_doItem_77 rfl ?_
            refine sx_iconst dX12_doItem_78 ⟨by decide, by decide⟩ ?_
            refine sx_iadd dX12_doItem_79 ?_
            refine sy_topw (by first | omega | (rw [Int.tmod_eq_emod_of_nonneg (by omega)]; omega) | (rw [Int.tdiv_eq_ediv_of_nonneg (by omega)]; omega)) ?_
            refine sx_ireturn dX12_doItem_80 ?_
            exact ⟨_, rfl, ⟨Ih11, by omega, by omega, ⟨fun _ _ => ⟨by omega, fun k => Kh11.2 266 k rfl⟩, fun q => absurd q (by decide)⟩, fun q => absurd q (by decide)⟩⟩
          ·
            refine sx_iload dX12_doItem_70 rfl ?_
            refine sx_iconst dX12_doItem_72 ⟨by decide, by decide⟩ ?_
            refine sx_iadd dX12_doItem_73 ?_
            refine sy_topw (by first | omega | (rw [Int.tmod_eq_emod_of_nonneg (by omega)]; omega) | (rw [Int.tdiv_eq_ediv_of_nonneg (by omega)]; omega)) ?_
            refine sx_goto (tgt := 80) dX12_doItem_74 (by decide) ?_
            refine sx_ireturn dX12_doItem_80 ?_
            exact ⟨_, rfl, ⟨Ih11, by omega, by omega, ⟨fun _ _ => ⟨by omega, fun k => Kh11.2 266 k rfl⟩, fun q => absurd q (by decide)⟩, fun q => absurd q (by decide)⟩⟩
      ·
        exact absurd c9 (by decide)
    ·
      exact absurd c8 (by decide)
set_option maxRecDepth 20000 in
set_option maxHeartbeats 4000000 in
theorem c_X12_doItem_4 {G : sw_G} (d : Nat) {h0 : sw_H} (hJ : mI h0) (y1 y2 : Int) (hw : 0 ≤ y1 ∧ y1 < 6) (hi : 0 ≤ y2 ∧ h0 233 (6 * h0 224 36 + y1).toNat + y2 < 60) (hs : 0 ≤ (4 : Int) ∧ (4 : Int) ≤ 7 ∧ (4 : Int) ≠ 2) (h_0 : (4 : Int) = 0 → 0 ≤ wO h0 y1 y2 ∧ wO h0 y1 y2 ≤ 14 ∧ tk (wO h0 y1 y2) ≤ h0 224 67 ∧ (wO h0 y1 y2 = 8 → 1 ≤ h0 224 68)) (hc : 0 ≤ h0 224 67 ∧ h0 224 67 ≤ 90 ∧ 0 ≤ h0 224 68 ∧ h0 224 68 ≤ 90 ∧ ((4 : Int) = 3 → 1 ≤ h0 224 67)) (hl : 0 ≤ h0 224 70 ∧ ((4 : Int) = 6 → h0 224 70 ≤ 47) ∧ ((4 : Int) = 7 → 1 ≤ h0 224 70 ∧ h0 224 70 ≤ 48 ∧ 1 ≤ h0 266 (h0 224 70 - 1).toNat ∧ h0 266 (h0 224 70 - 1).toNat ≤ 9))  : sw_E G NH SH (d + 3) mX12_doItem 0 [some (sw_r 224), some (sw_i y1), some (sw_i y2), some (sw_i 4), none] [] h0 (sw_Qi (fun z h' => mK (prW [67, 68, 70] [262, 263, 266]) h0 h' ∧ (((4 : Int) ≠ 3 → (4 : Int) ≠ 4 → (4 : Int) ≠ 7 → z = y2 + 1) ∧ ((4 : Int) = 3 → z = y2 + 1 ∨ z = h0 243 (60 * h0 224 36 + h0 233 (6 * h0 224 36 + y1).toNat + y2).toNat - (60 * h0 224 36 + h0 233 (6 * h0 224 36 + y1).toNat) + 1) ∧ ((4 : Int) = 4 → z = h0 243 (60 * h0 224 36 + h0 233 (6 * h0 224 36 + y1).toNat + y2).toNat - (60 * h0 224 36 + h0 233 (6 * h0 224 36 + y1).toNat) + 1)) ∧ (h' 224 67 = (if (4 : Int) = 0 then h0 224 67 - tk (wO h0 y1 y2) + ld (wO h0 y1 y2) else if (4 : Int) = 1 then h0 224 67 + 1 else if (4 : Int) = 3 then h0 224 67 - 1 else h0 224 67) ∧ h' 224 68 = (if (4 : Int) = 0 then h0 224 68 + pu (wO h0 y1 y2) else h0 224 68)) ∧ (((4 : Int) ≠ 6 → (4 : Int) ≠ 7 → h' 224 70 = h0 224 70 ∧ ∀ k, h' 266 k = h0 266 k) ∧ ((4 : Int) = 6 → h' 224 70 = h0 224 70 + 1 ∧ ∀ k : Nat, h' 266 k = if (k : Int) = h0 224 70 then wO h0 y1 y2 else h0 266 k)) ∧ ((4 : Int) = 7 → ((2 ≤ h0 266 (h0 224 70 - 1).toNat ∧ h' 224 70 = h0 224 70 ∧ z = h0 243 (60 * h0 224 36 + h0 233 (6 * h0 224 36 + y1).toNat + y2).toNat - (60 * h0 224 36 + h0 233 (6 * h0 224 36 + y1).toNat) + 1 ∧ ∀ k : Nat, h' 266 k = if (k : Int) = h0 224 70 - 1 then h0 266 (h0 224 70 - 1).toNat - 1 else h0 266 k) ∨ (h' 224 70 = h0 224 70 - 1 ∧ z = y2 + 1 ∧ ∀ k : Nat, (k : Int) ≠ h0 224 70 - 1 → h' 266 k = h0 266 k))))) := by
  have hI : mK (prW [67, 68, 70] [262, 263, 266]) h0 h0 := mK.refl hJ
  have ra0 : (0 : Int) ≤ h0 233 (6 * h0 224 36 + y1).toNat ∧ h0 233 (6 * h0 224 36 + y1).toNat ≤ 60 := hI.1 233 _
  have ra1 : (0 : Int) ≤ h0 224 36 ∧ h0 224 36 ≤ 1 := hI.1 224 36
  have ra2 : (-1 : Int) ≤ h0 243 (60 * h0 224 36 + h0 233 (6 * h0 224 36 + y1).toNat + y2).toNat ∧ h0 243 (60 * h0 224 36 + h0 233 (6 * h0 224 36 + y1).toNat + y2).toNat ≤ 119 := hI.1 243 _
  refine sx_iload_n dX12_doItem_0 rfl ?_
  refine sx_iconst dX12_doItem_1 ⟨by decide, by decide⟩ ?_
  refine sx_icmp_le (tgt := 26) dX12_doItem_2 (by decide) (fun c1 => ?_) (fun c1 => ?_)
  ·
    exact absurd c1 (by decide)
  ·
    refine sx_aload_n dX12_doItem_5 rfl ?_
    refine sx_getS (k := 27) (t := 243) cl_12 fl_X12_69 dX12_doItem_6 s_224 (by decide) rfl (by decide) ?_
    refine sx_aload_n dX12_doItem_9 rfl ?_
    refine sx_iload_n dX12_doItem_10 rfl ?_
    refine sx_iload_n dX12_doItem_11 rfl ?_
    refine sx_callVi lk_X12_519 cl_12 s_224 (by decide) dX12_doItem_12 (vs := [_, _]) rfl rfl (Nat.le_of_ble_eq_true rfl) (Nat.le_of_ble_eq_true rfl) rfl (c_X12_itemOf _ hI.1 _ _ (by first | omega | (rw [Int.tmod_eq_emod_of_nonneg (by omega)]; omega) | (rw [Int.tdiv_eq_ediv_of_nonneg (by omega)]; omega)) (by first | omega | (rw [Int.tmod_eq_emod_of_nonneg (by omega)]; omega) | (rw [Int.tdiv_eq_ediv_of_nonneg (by omega)]; omega))) (fun x3 h2 ph2 => ?_)
    obtain ⟨rfl, p_x3⟩ := ph2
    obtain ⟨qx, qx1, qx2⟩ := p_x3
    subst qx
    refine sy_iaF (F := fun z => (-1 : Int) ≤ z ∧ z ≤ 119) dX12_doItem_15 s_243 (by decide) (by decide) ⟨by first | omega | (rw [Int.tmod_eq_emod_of_nonneg (by omega)]; omega) | (rw [Int.tdiv_eq_ediv_of_nonneg (by omega)]; omega), by first | omega | (rw [Int.tmod_eq_emod_of_nonneg (by omega)]; omega) | (rw [Int.tdiv_eq_ediv_of_nonneg (by omega)]; omega)⟩ (hI.1 243 _) (fun r4 => ?_)
    refine sx_aload_n dX12_doItem_16 rfl ?_
    refine sx_iload_n dX12_doItem_17 rfl ?_
    refine sx_iconst dX12_doItem_18 ⟨by decide, by decide⟩ ?_
    refine sx_callVi lk_X12_519 cl_12 s_224 (by decide) dX12_doItem_19 (vs := [_, _]) rfl rfl (Nat.le_of_ble_eq_true rfl) (Nat.le_of_ble_eq_true rfl) rfl (c_X12_itemOf _ hI.1 _ _ (by first | omega | (rw [Int.tmod_eq_emod_of_nonneg (by omega)]; omega) | (rw [Int.tdiv_eq_ediv_of_nonneg (by omega)]; omega)) (by first | omega | (rw [Int.tmod_eq_emod_of_nonneg (by omega)]; omega) | (rw [Int.tdiv_eq_ediv_of_nonneg (by omega)]; omega))) (fun x6 h5 ph5 => ?_)
    obtain ⟨rfl, p_x6⟩ := ph5
    obtain ⟨qx, qx3, qx4⟩ := p_x6
    refine sx_isub dX12_doItem_22 ?_
    refine sy_topw (by first | omega | (rw [Int.tmod_eq_emod_of_nonneg (by omega)]; omega) | (rw [Int.tdiv_eq_ediv_of_nonneg (by omega)]; omega)) ?_
    refine sx_goto (tgt := 27) dX12_doItem_23 (by decide) ?_
    refine sy_top (fun v7 ev7 => ?_)
    refine sx_istore dX12_doItem_27 (by decide) ?_
    refine sx_iload_n dX12_doItem_29 rfl ?_
    refine sx_if_ne (tgt := 43) dX12_doItem_30 (by decide) (fun c8 => ?_) (fun c8 => ?_)
    ·
      refine sx_iload_n dX12_doItem_43 rfl ?_
      refine sx_iconst dX12_doItem_44 ⟨by decide, by decide⟩ ?_
      refine sx_icmp_ne (tgt := 58) dX12_doItem_45 (by decide) (fun c9 => ?_) (fun c9 => ?_)
      ·
        refine sx_iload_n dX12_doItem_58 rfl ?_
        refine sx_iconst dX12_doItem_59 ⟨by decide, by decide⟩ ?_
        refine sx_icmp_ne (tgt := 81) dX12_doItem_60 (by decide) (fun c10 => ?_) (fun c10 => ?_)
        ·
          refine sx_iload_n dX12_doItem_81 rfl ?_
          refine sx_iconst dX12_doItem_82 ⟨by decide, by decide⟩ ?_
          refine sx_icmp_ne (tgt := 91) dX12_doItem_83 (by decide) (fun c11 => ?_) (fun c11 => ?_)
          ·
            exact absurd c11 (by decide)
          ·
            refine sx_iload dX12_doItem_86 rfl ?_
            refine sx_iconst dX12_doItem_88 ⟨by decide, by decide⟩ ?_
            refine sx_iadd dX12_doItem_89 ?_
            refine sy_topw (by first | omega | (rw [Int.tmod_eq_emod_of_nonneg (by omega)]; omega) | (rw [Int.tdiv_eq_ediv_of_nonneg (by omega)]; omega)) ?_
            refine sx_ireturn dX12_doItem_90 ?_
            exact ⟨_, rfl, ⟨hI, by omega, by omega, ⟨fun _ _ => ⟨by omega, fun k => rfl⟩, fun q => absurd q (by decide)⟩, fun q => absurd q (by decide)⟩⟩
        ·
          exact absurd c10 (by decide)
      ·
        exact absurd c9 (by decide)
    ·
      exact absurd c8 (by decide)
set_option maxRecDepth 20000 in
set_option maxHeartbeats 4000000 in
theorem c_X12_doItem_5 {G : sw_G} (d : Nat) {h0 : sw_H} (hJ : mI h0) (y1 y2 : Int) (hw : 0 ≤ y1 ∧ y1 < 6) (hi : 0 ≤ y2 ∧ h0 233 (6 * h0 224 36 + y1).toNat + y2 < 60) (hs : 0 ≤ (5 : Int) ∧ (5 : Int) ≤ 7 ∧ (5 : Int) ≠ 2) (h_0 : (5 : Int) = 0 → 0 ≤ wO h0 y1 y2 ∧ wO h0 y1 y2 ≤ 14 ∧ tk (wO h0 y1 y2) ≤ h0 224 67 ∧ (wO h0 y1 y2 = 8 → 1 ≤ h0 224 68)) (hc : 0 ≤ h0 224 67 ∧ h0 224 67 ≤ 90 ∧ 0 ≤ h0 224 68 ∧ h0 224 68 ≤ 90 ∧ ((5 : Int) = 3 → 1 ≤ h0 224 67)) (hl : 0 ≤ h0 224 70 ∧ ((5 : Int) = 6 → h0 224 70 ≤ 47) ∧ ((5 : Int) = 7 → 1 ≤ h0 224 70 ∧ h0 224 70 ≤ 48 ∧ 1 ≤ h0 266 (h0 224 70 - 1).toNat ∧ h0 266 (h0 224 70 - 1).toNat ≤ 9))  : sw_E G NH SH (d + 3) mX12_doItem 0 [some (sw_r 224), some (sw_i y1), some (sw_i y2), some (sw_i 5), none] [] h0 (sw_Qi (fun z h' => mK (prW [67, 68, 70] [262, 263, 266]) h0 h' ∧ (((5 : Int) ≠ 3 → (5 : Int) ≠ 4 → (5 : Int) ≠ 7 → z = y2 + 1) ∧ ((5 : Int) = 3 → z = y2 + 1 ∨ z = h0 243 (60 * h0 224 36 + h0 233 (6 * h0 224 36 + y1).toNat + y2).toNat - (60 * h0 224 36 + h0 233 (6 * h0 224 36 + y1).toNat) + 1) ∧ ((5 : Int) = 4 → z = h0 243 (60 * h0 224 36 + h0 233 (6 * h0 224 36 + y1).toNat + y2).toNat - (60 * h0 224 36 + h0 233 (6 * h0 224 36 + y1).toNat) + 1)) ∧ (h' 224 67 = (if (5 : Int) = 0 then h0 224 67 - tk (wO h0 y1 y2) + ld (wO h0 y1 y2) else if (5 : Int) = 1 then h0 224 67 + 1 else if (5 : Int) = 3 then h0 224 67 - 1 else h0 224 67) ∧ h' 224 68 = (if (5 : Int) = 0 then h0 224 68 + pu (wO h0 y1 y2) else h0 224 68)) ∧ (((5 : Int) ≠ 6 → (5 : Int) ≠ 7 → h' 224 70 = h0 224 70 ∧ ∀ k, h' 266 k = h0 266 k) ∧ ((5 : Int) = 6 → h' 224 70 = h0 224 70 + 1 ∧ ∀ k : Nat, h' 266 k = if (k : Int) = h0 224 70 then wO h0 y1 y2 else h0 266 k)) ∧ ((5 : Int) = 7 → ((2 ≤ h0 266 (h0 224 70 - 1).toNat ∧ h' 224 70 = h0 224 70 ∧ z = h0 243 (60 * h0 224 36 + h0 233 (6 * h0 224 36 + y1).toNat + y2).toNat - (60 * h0 224 36 + h0 233 (6 * h0 224 36 + y1).toNat) + 1 ∧ ∀ k : Nat, h' 266 k = if (k : Int) = h0 224 70 - 1 then h0 266 (h0 224 70 - 1).toNat - 1 else h0 266 k) ∨ (h' 224 70 = h0 224 70 - 1 ∧ z = y2 + 1 ∧ ∀ k : Nat, (k : Int) ≠ h0 224 70 - 1 → h' 266 k = h0 266 k))))) := by
  have hI : mK (prW [67, 68, 70] [262, 263, 266]) h0 h0 := mK.refl hJ
  have ra0 : (0 : Int) ≤ h0 233 (6 * h0 224 36 + y1).toNat ∧ h0 233 (6 * h0 224 36 + y1).toNat ≤ 60 := hI.1 233 _
  have ra1 : (0 : Int) ≤ h0 224 36 ∧ h0 224 36 ≤ 1 := hI.1 224 36
  have ra2 : (-1 : Int) ≤ h0 243 (60 * h0 224 36 + h0 233 (6 * h0 224 36 + y1).toNat + y2).toNat ∧ h0 243 (60 * h0 224 36 + h0 233 (6 * h0 224 36 + y1).toNat + y2).toNat ≤ 119 := hI.1 243 _
  refine sx_iload_n dX12_doItem_0 rfl ?_
  refine sx_iconst dX12_doItem_1 ⟨by decide, by decide⟩ ?_
  refine sx_icmp_le (tgt := 26) dX12_doItem_2 (by decide) (fun c1 => ?_) (fun c1 => ?_)
  ·
    exact absurd c1 (by decide)
  ·
    refine sx_aload_n dX12_doItem_5 rfl ?_
    refine sx_getS (k := 27) (t := 243) cl_12 fl_X12_69 dX12_doItem_6 s_224 (by decide) rfl (by decide) ?_
    refine sx_aload_n dX12_doItem_9 rfl ?_
    refine sx_iload_n dX12_doItem_10 rfl ?_
    refine sx_iload_n dX12_doItem_11 rfl ?_
    refine sx_callVi lk_X12_519 cl_12 s_224 (by decide) dX12_doItem_12 (vs := [_, _]) rfl rfl (Nat.le_of_ble_eq_true rfl) (Nat.le_of_ble_eq_true rfl) rfl (c_X12_itemOf _ hI.1 _ _ (by first | omega | (rw [Int.tmod_eq_emod_of_nonneg (by omega)]; omega) | (rw [Int.tdiv_eq_ediv_of_nonneg (by omega)]; omega)) (by first | omega | (rw [Int.tmod_eq_emod_of_nonneg (by omega)]; omega) | (rw [Int.tdiv_eq_ediv_of_nonneg (by omega)]; omega))) (fun x3 h2 ph2 => ?_)
    obtain ⟨rfl, p_x3⟩ := ph2
    obtain ⟨qx, qx1, qx2⟩ := p_x3
    subst qx
    refine sy_iaF (F := fun z => (-1 : Int) ≤ z ∧ z ≤ 119) dX12_doItem_15 s_243 (by decide) (by decide) ⟨by first | omega | (rw [Int.tmod_eq_emod_of_nonneg (by omega)]; omega) | (rw [Int.tdiv_eq_ediv_of_nonneg (by omega)]; omega), by first | omega | (rw [Int.tmod_eq_emod_of_nonneg (by omega)]; omega) | (rw [Int.tdiv_eq_ediv_of_nonneg (by omega)]; omega)⟩ (hI.1 243 _) (fun r4 => ?_)
    refine sx_aload_n dX12_doItem_16 rfl ?_
    refine sx_iload_n dX12_doItem_17 rfl ?_
    refine sx_iconst dX12_doItem_18 ⟨by decide, by decide⟩ ?_
    refine sx_callVi lk_X12_519 cl_12 s_224 (by decide) dX12_doItem_19 (vs := [_, _]) rfl rfl (Nat.le_of_ble_eq_true rfl) (Nat.le_of_ble_eq_true rfl) rfl (c_X12_itemOf _ hI.1 _ _ (by first | omega | (rw [Int.tmod_eq_emod_of_nonneg (by omega)]; omega) | (rw [Int.tdiv_eq_ediv_of_nonneg (by omega)]; omega)) (by first | omega | (rw [Int.tmod_eq_emod_of_nonneg (by omega)]; omega) | (rw [Int.tdiv_eq_ediv_of_nonneg (by omega)]; omega))) (fun x6 h5 ph5 => ?_)
    obtain ⟨rfl, p_x6⟩ := ph5
    obtain ⟨qx, qx3, qx4⟩ := p_x6
    refine sx_isub dX12_doItem_22 ?_
    refine sy_topw (by first | omega | (rw [Int.tmod_eq_emod_of_nonneg (by omega)]; omega) | (rw [Int.tdiv_eq_ediv_of_nonneg (by omega)]; omega)) ?_
    refine sx_goto (tgt := 27) dX12_doItem_23 (by decide) ?_
    refine sy_top (fun v7 ev7 => ?_)
    refine sx_istore dX12_doItem_27 (by decide) ?_
    refine sx_iload_n dX12_doItem_29 rfl ?_
    refine sx_if_ne (tgt := 43) dX12_doItem_30 (by decide) (fun c8 => ?_) (fun c8 => ?_)
    ·
      refine sx_iload_n dX12_doItem_43 rfl ?_
      refine sx_iconst dX12_doItem_44 ⟨by decide, by decide⟩ ?_
      refine sx_icmp_ne (tgt := 58) dX12_doItem_45 (by decide) (fun c9 => ?_) (fun c9 => ?_)
      ·
        refine sx_iload_n dX12_doItem_58 rfl ?_
        refine sx_iconst dX12_doItem_59 ⟨by decide, by decide⟩ ?_
        refine sx_icmp_ne (tgt := 81) dX12_doItem_60 (by decide) (fun c10 => ?_) (fun c10 => ?_)
        ·
          refine sx_iload_n dX12_doItem_81 rfl ?_
          refine sx_iconst dX12_doItem_82 ⟨by decide, by decide⟩ ?_
          refine sx_icmp_ne (tgt := 91) dX12_doItem_83 (by decide) (fun c11 => ?_) (fun c11 => ?_)
          ·
            refine sx_iload_n dX12_doItem_91 rfl ?_
            refine sx_bipush dX12_doItem_92 ⟨by decide, by decide, by decide⟩ ?_
            refine sx_icmp_ne (tgt := 122) dX12_doItem_94 (by decide) (fun c12 => ?_) (fun c12 => ?_)
            ·
              refine sx_iload_n dX12_doItem_122 rfl ?_
              refine sx_bipush dX12_doItem_123 ⟨by decide, by decide, by decide⟩ ?_
              refine sx_icmp_ne (tgt := 172) dX12_doItem_125 (by decide) (fun c13 => ?_) (fun c13 => ?_)
              ·
                refine sx_iload_n dX12_doItem_172 rfl ?_
                refine sx_iconst dX12_doItem_173 ⟨by decide, by decide⟩ ?_
                refine sx_iadd dX12_doItem_174 ?_
                refine sy_topw (by first | omega | (rw [Int.tmod_eq_emod_of_nonneg (by omega)]; omega) | (rw [Int.tdiv_eq_ediv_of_nonneg (by omega)]; omega)) ?_
                refine sx_ireturn dX12_doItem_175 ?_
                exact ⟨_, rfl, ⟨hI, by omega, by omega, ⟨fun _ _ => ⟨by omega, fun k => rfl⟩, fun q => absurd q (by decide)⟩, fun q => absurd q (by decide)⟩⟩
              ·
                exact absurd c13 (by decide)
            ·
              exact absurd c12 (by decide)
          ·
            exact absurd c11 (by decide)
        ·
          exact absurd c10 (by decide)
      ·
        exact absurd c9 (by decide)
    ·
      exact absurd c8 (by decide)
set_option maxRecDepth 20000 in
set_option maxHeartbeats 4000000 in
theorem c_X12_doItem_6 {G : sw_G} (d : Nat) {h0 : sw_H} (hJ : mI h0) (y1 y2 : Int) (hw : 0 ≤ y1 ∧ y1 < 6) (hi : 0 ≤ y2 ∧ h0 233 (6 * h0 224 36 + y1).toNat + y2 < 60) (hs : 0 ≤ (6 : Int) ∧ (6 : Int) ≤ 7 ∧ (6 : Int) ≠ 2) (h_0 : (6 : Int) = 0 → 0 ≤ wO h0 y1 y2 ∧ wO h0 y1 y2 ≤ 14 ∧ tk (wO h0 y1 y2) ≤ h0 224 67 ∧ (wO h0 y1 y2 = 8 → 1 ≤ h0 224 68)) (hc : 0 ≤ h0 224 67 ∧ h0 224 67 ≤ 90 ∧ 0 ≤ h0 224 68 ∧ h0 224 68 ≤ 90 ∧ ((6 : Int) = 3 → 1 ≤ h0 224 67)) (hl : 0 ≤ h0 224 70 ∧ ((6 : Int) = 6 → h0 224 70 ≤ 47) ∧ ((6 : Int) = 7 → 1 ≤ h0 224 70 ∧ h0 224 70 ≤ 48 ∧ 1 ≤ h0 266 (h0 224 70 - 1).toNat ∧ h0 266 (h0 224 70 - 1).toNat ≤ 9))  : sw_E G NH SH (d + 3) mX12_doItem 0 [some (sw_r 224), some (sw_i y1), some (sw_i y2), some (sw_i 6), none] [] h0 (sw_Qi (fun z h' => mK (prW [67, 68, 70] [262, 263, 266]) h0 h' ∧ (((6 : Int) ≠ 3 → (6 : Int) ≠ 4 → (6 : Int) ≠ 7 → z = y2 + 1) ∧ ((6 : Int) = 3 → z = y2 + 1 ∨ z = h0 243 (60 * h0 224 36 + h0 233 (6 * h0 224 36 + y1).toNat + y2).toNat - (60 * h0 224 36 + h0 233 (6 * h0 224 36 + y1).toNat) + 1) ∧ ((6 : Int) = 4 → z = h0 243 (60 * h0 224 36 + h0 233 (6 * h0 224 36 + y1).toNat + y2).toNat - (60 * h0 224 36 + h0 233 (6 * h0 224 36 + y1).toNat) + 1)) ∧ (h' 224 67 = (if (6 : Int) = 0 then h0 224 67 - tk (wO h0 y1 y2) + ld (wO h0 y1 y2) else if (6 : Int) = 1 then h0 224 67 + 1 else if (6 : Int) = 3 then h0 224 67 - 1 else h0 224 67) ∧ h' 224 68 = (if (6 : Int) = 0 then h0 224 68 + pu (wO h0 y1 y2) else h0 224 68)) ∧ (((6 : Int) ≠ 6 → (6 : Int) ≠ 7 → h' 224 70 = h0 224 70 ∧ ∀ k, h' 266 k = h0 266 k) ∧ ((6 : Int) = 6 → h' 224 70 = h0 224 70 + 1 ∧ ∀ k : Nat, h' 266 k = if (k : Int) = h0 224 70 then wO h0 y1 y2 else h0 266 k)) ∧ ((6 : Int) = 7 → ((2 ≤ h0 266 (h0 224 70 - 1).toNat ∧ h' 224 70 = h0 224 70 ∧ z = h0 243 (60 * h0 224 36 + h0 233 (6 * h0 224 36 + y1).toNat + y2).toNat - (60 * h0 224 36 + h0 233 (6 * h0 224 36 + y1).toNat) + 1 ∧ ∀ k : Nat, h' 266 k = if (k : Int) = h0 224 70 - 1 then h0 266 (h0 224 70 - 1).toNat - 1 else h0 266 k) ∨ (h' 224 70 = h0 224 70 - 1 ∧ z = y2 + 1 ∧ ∀ k : Nat, (k : Int) ≠ h0 224 70 - 1 → h' 266 k = h0 266 k))))) := by
  have hI : mK (prW [67, 68, 70] [262, 263, 266]) h0 h0 := mK.refl hJ
  have ra0 : (0 : Int) ≤ h0 233 (6 * h0 224 36 + y1).toNat ∧ h0 233 (6 * h0 224 36 + y1).toNat ≤ 60 := hI.1 233 _
  have ra1 : (0 : Int) ≤ h0 224 36 ∧ h0 224 36 ≤ 1 := hI.1 224 36
  have ra2 : (-1 : Int) ≤ h0 243 (60 * h0 224 36 + h0 233 (6 * h0 224 36 + y1).toNat + y2).toNat ∧ h0 243 (60 * h0 224 36 + h0 233 (6 * h0 224 36 + y1).toNat + y2).toNat ≤ 119 := hI.1 243 _
  refine sx_iload_n dX12_doItem_0 rfl ?_
  refine sx_iconst dX12_doItem_1 ⟨by decide, by decide⟩ ?_
  refine sx_icmp_le (tgt := 26) dX12_doItem_2 (by decide) (fun c1 => ?_) (fun c1 => ?_)
  ·
    exact absurd c1 (by decide)
  ·
    refine sx_aload_n dX12_doItem_5 rfl ?_
    refine sx_getS (k := 27) (t := 243) cl_12 fl_X12_69 dX12_doItem_6 s_224 (by decide) rfl (by decide) ?_
    refine sx_aload_n dX12_doItem_9 rfl ?_
    refine sx_iload_n dX12_doItem_10 rfl ?_
    refine sx_iload_n dX12_doItem_11 rfl ?_
    refine sx_callVi lk_X12_519 cl_12 s_224 (by decide) dX12_doItem_12 (vs := [_, _]) rfl rfl (Nat.le_of_ble_eq_true rfl) (Nat.le_of_ble_eq_true rfl) rfl (c_X12_itemOf _ hI.1 _ _ (by first | omega | (rw [Int.tmod_eq_emod_of_nonneg (by omega)]; omega) | (rw [Int.tdiv_eq_ediv_of_nonneg (by omega)]; omega)) (by first | omega | (rw [Int.tmod_eq_emod_of_nonneg (by omega)]; omega) | (rw [Int.tdiv_eq_ediv_of_nonneg (by omega)]; omega))) (fun x3 h2 ph2 => ?_)
    obtain ⟨rfl, p_x3⟩ := ph2
    obtain ⟨qx, qx1, qx2⟩ := p_x3
    subst qx
    refine sy_iaF (F := fun z => (-1 : Int) ≤ z ∧ z ≤ 119) dX12_doItem_15 s_243 (by decide) (by decide) ⟨by first | omega | (rw [Int.tmod_eq_emod_of_nonneg (by omega)]; omega) | (rw [Int.tdiv_eq_ediv_of_nonneg (by omega)]; omega), by first | omega | (rw [Int.tmod_eq_emod_of_nonneg (by omega)]; omega) | (rw [Int.tdiv_eq_ediv_of_nonneg (by omega)]; omega)⟩ (hI.1 243 _) (fun r4 => ?_)
    refine sx_aload_n dX12_doItem_16 rfl ?_
    refine sx_iload_n dX12_doItem_17 rfl ?_
    refine sx_iconst dX12_doItem_18 ⟨by decide, by decide⟩ ?_
    refine sx_callVi lk_X12_519 cl_12 s_224 (by decide) dX12_doItem_19 (vs := [_, _]) rfl rfl (Nat.le_of_ble_eq_true rfl) (Nat.le_of_ble_eq_true rfl) rfl (c_X12_itemOf _ hI.1 _ _ (by first | omega | (rw [Int.tmod_eq_emod_of_nonneg (by omega)]; omega) | (rw [Int.tdiv_eq_ediv_of_nonneg (by omega)]; omega)) (by first | omega | (rw [Int.tmod_eq_emod_of_nonneg (by omega)]; omega) | (rw [Int.tdiv_eq_ediv_of_nonneg (by omega)]; omega))) (fun x6 h5 ph5 => ?_)
    obtain ⟨rfl, p_x6⟩ := ph5
    obtain ⟨qx, qx3, qx4⟩ := p_x6
    refine sx_isub dX12_doItem_22 ?_
    refine sy_topw (by first | omega | (rw [Int.tmod_eq_emod_of_nonneg (by omega)]; omega) | (rw [Int.tdiv_eq_ediv_of_nonneg (by omega)]; omega)) ?_
    refine sx_goto (tgt := 27) dX12_doItem_23 (by decide) ?_
    refine sy_top (fun v7 ev7 => ?_)
    refine sx_istore dX12_doItem_27 (by decide) ?_
    refine sx_iload_n dX12_doItem_29 rfl ?_
    refine sx_if_ne (tgt := 43) dX12_doItem_30 (by decide) (fun c8 => ?_) (fun c8 => ?_)
    ·
      refine sx_iload_n dX12_doItem_43 rfl ?_
      refine sx_iconst dX12_doItem_44 ⟨by decide, by decide⟩ ?_
      refine sx_icmp_ne (tgt := 58) dX12_doItem_45 (by decide) (fun c9 => ?_) (fun c9 => ?_)
      ·
        refine sx_iload_n dX12_doItem_58 rfl ?_
        refine sx_iconst dX12_doItem_59 ⟨by decide, by decide⟩ ?_
        refine sx_icmp_ne (tgt := 81) dX12_doItem_60 (by decide) (fun c10 => ?_) (fun c10 => ?_)
        ·
          refine sx_iload_n dX12_doItem_81 rfl ?_
          refine sx_iconst dX12_doItem_82 ⟨by decide, by decide⟩ ?_
          refine sx_icmp_ne (tgt := 91) dX12_doItem_83 (by decide) (fun c11 => ?_) (fun c11 => ?_)
          ·
            refine sx_iload_n dX12_doItem_91 rfl ?_
            refine sx_bipush dX12_doItem_92 ⟨by decide, by decide, by decide⟩ ?_
            refine sx_icmp_ne (tgt := 122) dX12_doItem_94 (by decide) (fun c12 => ?_) (fun c12 => ?_)
            ·
              exact absurd c12 (by decide)
            ·
              refine sx_aload_n dX12_doItem_97 rfl ?_
              refine sx_getS (k := 66) (t := 266) cl_12 fl_X12_139 dX12_doItem_98 s_224 (by decide) rfl (by decide) ?_
              refine sx_aload_n dX12_doItem_101 rfl ?_
              refine sx_getI (k := 70) cl_12 fl_X12_543 dX12_doItem_102 s_224 (by decide) rfl (by decide) ?_
              refine sx_aload_n dX12_doItem_105 rfl ?_
              refine sx_iload_n dX12_doItem_106 rfl ?_
              refine sx_iload_n dX12_doItem_107 rfl ?_
              refine sx_callVi lk_X12_552 cl_12 s_224 (by decide) dX12_doItem_108 (vs := [_, _]) rfl rfl (Nat.le_of_ble_eq_true rfl) (Nat.le_of_ble_eq_true rfl) rfl (c_X12_whatOf _ hI.1 _ _ (by first | omega | (rw [Int.tmod_eq_emod_of_nonneg (by omega)]; omega) | (rw [Int.tdiv_eq_ediv_of_nonneg (by omega)]; omega)) (by first | omega | (rw [Int.tmod_eq_emod_of_nonneg (by omega)]; omega) | (rw [Int.tdiv_eq_ediv_of_nonneg (by omega)]; omega))) (fun x14 h13 ph13 => ?_)
              obtain ⟨rfl, p_x14⟩ := ph13
              obtain ⟨qw, -, -⟩ := p_x14
              subst qw
              refine sy_iastore dX12_doItem_111 s_266 (by decide) (by decide) ⟨by first | omega | (rw [Int.tmod_eq_emod_of_nonneg (by omega)]; omega) | (rw [Int.tdiv_eq_ediv_of_nonneg (by omega)]; omega), by first | omega | (rw [Int.tmod_eq_emod_of_nonneg (by omega)]; omega) | (rw [Int.tdiv_eq_ediv_of_nonneg (by omega)]; omega)⟩ (fun h15 eh15 => ?_)
              have Ih15 := hI.up eh15 trivial rfl
              have th15_224_67 := eh15.2 (224) 67 (by omega)
              have th15_224_68 := eh15.2 (224) 68 (by omega)
              have th15_224_70 := eh15.2 (224) 70 (by omega)
              refine sx_aload_n dX12_doItem_112 rfl ?_
              refine sx_dupr dX12_doItem_113 ?_
              refine sx_getI (k := 70) cl_12 fl_X12_543 dX12_doItem_114 s_224 (by decide) rfl (by decide) ?_
              refine sx_iconst dX12_doItem_117 ⟨by decide, by decide⟩ ?_
              refine sx_iadd dX12_doItem_118 ?_
              refine sy_topw (by first | omega | (rw [Int.tmod_eq_emod_of_nonneg (by omega)]; omega) | (rw [Int.tdiv_eq_ediv_of_nonneg (by omega)]; omega)) ?_
              refine sy_putI (k := 70) cl_12 fl_X12_543 dX12_doItem_119 s_224 (by decide) rfl (by decide) rfl rfl (fun h16 eh16 => ?_)
              have Ih16 := Ih15.up eh16 trivial rfl
              have th16_224_67 := eh16.2 (224) 67 (by decide)
              have th16_224_68 := eh16.2 (224) 68 (by decide)
              have th16_224_70 := eh16.1
              refine sx_iload_n dX12_doItem_122 rfl ?_
              refine sx_bipush dX12_doItem_123 ⟨by decide, by decide, by decide⟩ ?_
              refine sx_icmp_ne (tgt := 172) dX12_doItem_125 (by decide) (fun c17 => ?_) (fun c17 => ?_)
              ·
                refine sx_iload_n dX12_doItem_172 rfl ?_
                refine sx_iconst dX12_doItem_173 ⟨by decide, by decide⟩ ?_
                refine sx_iadd dX12_doItem_174 ?_
                refine sy_topw (by first | omega | (rw [Int.tmod_eq_emod_of_nonneg (by omega)]; omega) | (rw [Int.tdiv_eq_ediv_of_nonneg (by omega)]; omega)) ?_
                refine sx_ireturn dX12_doItem_175 ?_
                exact ⟨_, rfl, ⟨Ih16, by omega, by omega, ⟨fun q _ => absurd rfl q, fun _ => ⟨by omega, fun k => by rw [eh16.at 266 k, eh15.at 266 k]; simp only [Nat.reduceEqDiff, false_and, if_false, true_and]; by_cases q : (k : Int) = h0 224 70; (rw [if_pos (by omega), if_pos q]); (rw [if_neg (by omega), if_neg q])⟩⟩, fun q => absurd q (by decide)⟩⟩
              ·
                exact absurd c17 (by decide)
          ·
            exact absurd c11 (by decide)
        ·
          exact absurd c10 (by decide)
      ·
        exact absurd c9 (by decide)
    ·
      exact absurd c8 (by decide)
set_option maxRecDepth 20000 in
set_option maxHeartbeats 4000000 in
theorem c_X12_doItem_7 {G : sw_G} (d : Nat) {h0 : sw_H} (hJ : mI h0) (y1 y2 : Int) (hw : 0 ≤ y1 ∧ y1 < 6) (hi : 0 ≤ y2 ∧ h0 233 (6 * h0 224 36 + y1).toNat + y2 < 60) (hs : 0 ≤ (7 : Int) ∧ (7 : Int) ≤ 7 ∧ (7 : Int) ≠ 2) (h_0 : (7 : Int) = 0 → 0 ≤ wO h0 y1 y2 ∧ wO h0 y1 y2 ≤ 14 ∧ tk (wO h0 y1 y2) ≤ h0 224 67 ∧ (wO h0 y1 y2 = 8 → 1 ≤ h0 224 68)) (hc : 0 ≤ h0 224 67 ∧ h0 224 67 ≤ 90 ∧ 0 ≤ h0 224 68 ∧ h0 224 68 ≤ 90 ∧ ((7 : Int) = 3 → 1 ≤ h0 224 67)) (hl : 0 ≤ h0 224 70 ∧ ((7 : Int) = 6 → h0 224 70 ≤ 47) ∧ ((7 : Int) = 7 → 1 ≤ h0 224 70 ∧ h0 224 70 ≤ 48 ∧ 1 ≤ h0 266 (h0 224 70 - 1).toNat ∧ h0 266 (h0 224 70 - 1).toNat ≤ 9))  : sw_E G NH SH (d + 3) mX12_doItem 0 [some (sw_r 224), some (sw_i y1), some (sw_i y2), some (sw_i 7), none] [] h0 (sw_Qi (fun z h' => mK (prW [67, 68, 70] [262, 263, 266]) h0 h' ∧ (((7 : Int) ≠ 3 → (7 : Int) ≠ 4 → (7 : Int) ≠ 7 → z = y2 + 1) ∧ ((7 : Int) = 3 → z = y2 + 1 ∨ z = h0 243 (60 * h0 224 36 + h0 233 (6 * h0 224 36 + y1).toNat + y2).toNat - (60 * h0 224 36 + h0 233 (6 * h0 224 36 + y1).toNat) + 1) ∧ ((7 : Int) = 4 → z = h0 243 (60 * h0 224 36 + h0 233 (6 * h0 224 36 + y1).toNat + y2).toNat - (60 * h0 224 36 + h0 233 (6 * h0 224 36 + y1).toNat) + 1)) ∧ (h' 224 67 = (if (7 : Int) = 0 then h0 224 67 - tk (wO h0 y1 y2) + ld (wO h0 y1 y2) else if (7 : Int) = 1 then h0 224 67 + 1 else if (7 : Int) = 3 then h0 224 67 - 1 else h0 224 67) ∧ h' 224 68 = (if (7 : Int) = 0 then h0 224 68 + pu (wO h0 y1 y2) else h0 224 68)) ∧ (((7 : Int) ≠ 6 → (7 : Int) ≠ 7 → h' 224 70 = h0 224 70 ∧ ∀ k, h' 266 k = h0 266 k) ∧ ((7 : Int) = 6 → h' 224 70 = h0 224 70 + 1 ∧ ∀ k : Nat, h' 266 k = if (k : Int) = h0 224 70 then wO h0 y1 y2 else h0 266 k)) ∧ ((7 : Int) = 7 → ((2 ≤ h0 266 (h0 224 70 - 1).toNat ∧ h' 224 70 = h0 224 70 ∧ z = h0 243 (60 * h0 224 36 + h0 233 (6 * h0 224 36 + y1).toNat + y2).toNat - (60 * h0 224 36 + h0 233 (6 * h0 224 36 + y1).toNat) + 1 ∧ ∀ k : Nat, h' 266 k = if (k : Int) = h0 224 70 - 1 then h0 266 (h0 224 70 - 1).toNat - 1 else h0 266 k) ∨ (h' 224 70 = h0 224 70 - 1 ∧ z = y2 + 1 ∧ ∀ k : Nat, (k : Int) ≠ h0 224 70 - 1 → h' 266 k = h0 266 k))))) := by
  have hI : mK (prW [67, 68, 70] [262, 263, 266]) h0 h0 := mK.refl hJ
  have ra0 : (0 : Int) ≤ h0 233 (6 * h0 224 36 + y1).toNat ∧ h0 233 (6 * h0 224 36 + y1).toNat ≤ 60 := hI.1 233 _
  have ra1 : (0 : Int) ≤ h0 224 36 ∧ h0 224 36 ≤ 1 := hI.1 224 36
  have ra2 : (-1 : Int) ≤ h0 243 (60 * h0 224 36 + h0 233 (6 * h0 224 36 + y1).toNat + y2).toNat ∧ h0 243 (60 * h0 224 36 + h0 233 (6 * h0 224 36 + y1).toNat + y2).toNat ≤ 119 := hI.1 243 _
  refine sx_iload_n dX12_doItem_0 rfl ?_
  refine sx_iconst dX12_doItem_1 ⟨by decide, by decide⟩ ?_
  refine sx_icmp_le (tgt := 26) dX12_doItem_2 (by decide) (fun c1 => ?_) (fun c1 => ?_)
  ·
    exact absurd c1 (by decide)
  ·
    refine sx_aload_n dX12_doItem_5 rfl ?_
    refine sx_getS (k := 27) (t := 243) cl_12 fl_X12_69 dX12_doItem_6 s_224 (by decide) rfl (by decide) ?_
    refine sx_aload_n dX12_doItem_9 rfl ?_
    refine sx_iload_n dX12_doItem_10 rfl ?_
    refine sx_iload_n dX12_doItem_11 rfl ?_
    refine sx_callVi lk_X12_519 cl_12 s_224 (by decide) dX12_doItem_12 (vs := [_, _]) rfl rfl (Nat.le_of_ble_eq_true rfl) (Nat.le_of_ble_eq_true rfl) rfl (c_X12_itemOf _ hI.1 _ _ (by first | omega | (rw [Int.tmod_eq_emod_of_nonneg (by omega)]; omega) | (rw [Int.tdiv_eq_ediv_of_nonneg (by omega)]; omega)) (by first | omega | (rw [Int.tmod_eq_emod_of_nonneg (by omega)]; omega) | (rw [Int.tdiv_eq_ediv_of_nonneg (by omega)]; omega))) (fun x3 h2 ph2 => ?_)
    obtain ⟨rfl, p_x3⟩ := ph2
    obtain ⟨qx, qx1, qx2⟩ := p_x3
    subst qx
    refine sy_iaF (F := fun z => (-1 : Int) ≤ z ∧ z ≤ 119) dX12_doItem_15 s_243 (by decide) (by decide) ⟨by first | omega | (rw [Int.tmod_eq_emod_of_nonneg (by omega)]; omega) | (rw [Int.tdiv_eq_ediv_of_nonneg (by omega)]; omega), by first | omega | (rw [Int.tmod_eq_emod_of_nonneg (by omega)]; omega) | (rw [Int.tdiv_eq_ediv_of_nonneg (by omega)]; omega)⟩ (hI.1 243 _) (fun r4 => ?_)
    refine sx_aload_n dX12_doItem_16 rfl ?_
    refine sx_iload_n dX12_doItem_17 rfl ?_
    refine sx_iconst dX12_doItem_18 ⟨by decide, by decide⟩ ?_
    refine sx_callVi lk_X12_519 cl_12 s_224 (by decide) dX12_doItem_19 (vs := [_, _]) rfl rfl (Nat.le_of_ble_eq_true rfl) (Nat.le_of_ble_eq_true rfl) rfl (c_X12_itemOf _ hI.1 _ _ (by first | omega | (rw [Int.tmod_eq_emod_of_nonneg (by omega)]; omega) | (rw [Int.tdiv_eq_ediv_of_nonneg (by omega)]; omega)) (by first | omega | (rw [Int.tmod_eq_emod_of_nonneg (by omega)]; omega) | (rw [Int.tdiv_eq_ediv_of_nonneg (by omega)]; omega))) (fun x6 h5 ph5 => ?_)
    obtain ⟨rfl, p_x6⟩ := ph5
    obtain ⟨qx, qx3, qx4⟩ := p_x6
    refine sx_isub dX12_doItem_22 ?_
    refine sy_topw (by first | omega | (rw [Int.tmod_eq_emod_of_nonneg (by omega)]; omega) | (rw [Int.tdiv_eq_ediv_of_nonneg (by omega)]; omega)) ?_
    refine sx_goto (tgt := 27) dX12_doItem_23 (by decide) ?_
    refine sy_top (fun v7 ev7 => ?_)
    refine sx_istore dX12_doItem_27 (by decide) ?_
    refine sx_iload_n dX12_doItem_29 rfl ?_
    refine sx_if_ne (tgt := 43) dX12_doItem_30 (by decide) (fun c8 => ?_) (fun c8 => ?_)
    ·
      refine sx_iload_n dX12_doItem_43 rfl ?_
      refine sx_iconst dX12_doItem_44 ⟨by decide, by decide⟩ ?_
      refine sx_icmp_ne (tgt := 58) dX12_doItem_45 (by decide) (fun c9 => ?_) (fun c9 => ?_)
      ·
        refine sx_iload_n dX12_doItem_58 rfl ?_
        refine sx_iconst dX12_doItem_59 ⟨by decide, by decide⟩ ?_
        refine sx_icmp_ne (tgt := 81) dX12_doItem_60 (by decide) (fun c10 => ?_) (fun c10 => ?_)
        ·
          refine sx_iload_n dX12_doItem_81 rfl ?_
          refine sx_iconst dX12_doItem_82 ⟨by decide, by decide⟩ ?_
          refine sx_icmp_ne (tgt := 91) dX12_doItem_83 (by decide) (fun c11 => ?_) (fun c11 => ?_)
          ·
            refine sx_iload_n dX12_doItem_91 rfl ?_
            refine sx_bipush dX12_doItem_92 ⟨by decide, by decide, by decide⟩ ?_
            refine sx_icmp_ne (tgt := 122) dX12_doItem_94 (by decide) (fun c12 => ?_) (fun c12 => ?_)
            ·
              refine sx_iload_n dX12_doItem_122 rfl ?_
              refine sx_bipush dX12_doItem_123 ⟨by decide, by decide, by decide⟩ ?_
              refine sx_icmp_ne (tgt := 172) dX12_doItem_125 (by decide) (fun c13 => ?_) (fun c13 => ?_)
              ·
                exact absurd c13 (by decide)
              ·
                refine sx_aload_n dX12_doItem_128 rfl ?_
                refine sx_getS (k := 66) (t := 266) cl_12 fl_X12_139 dX12_doItem_129 s_224 (by decide) rfl (by decide) ?_
                refine sx_aload_n dX12_doItem_132 rfl ?_
                refine sx_getI (k := 70) cl_12 fl_X12_543 dX12_doItem_133 s_224 (by decide) rfl (by decide) ?_
                refine sx_iconst dX12_doItem_136 ⟨by decide, by decide⟩ ?_
                refine sx_isub dX12_doItem_137 ?_
                refine sy_topw (by first | omega | (rw [Int.tmod_eq_emod_of_nonneg (by omega)]; omega) | (rw [Int.tdiv_eq_ediv_of_nonneg (by omega)]; omega)) ?_
                refine sx_dup2 dX12_doItem_138 ?_
                refine sx_iaload dX12_doItem_139 s_266 (by decide) (by decide) ⟨by first | omega | (rw [Int.tmod_eq_emod_of_nonneg (by omega)]; omega) | (rw [Int.tdiv_eq_ediv_of_nonneg (by omega)]; omega), by first | omega | (rw [Int.tmod_eq_emod_of_nonneg (by omega)]; omega) | (rw [Int.tdiv_eq_ediv_of_nonneg (by omega)]; omega)⟩ ?_
                refine sx_iconst dX12_doItem_140 ⟨by decide, by decide⟩ ?_
                refine sx_isub dX12_doItem_141 ?_
                refine sy_topw (by first | omega | (rw [Int.tmod_eq_emod_of_nonneg (by omega)]; omega) | (rw [Int.tdiv_eq_ediv_of_nonneg (by omega)]; omega)) ?_
                refine sy_iastore dX12_doItem_142 s_266 (by decide) (by decide) ⟨by first | omega | (rw [Int.tmod_eq_emod_of_nonneg (by omega)]; omega) | (rw [Int.tdiv_eq_ediv_of_nonneg (by omega)]; omega), by first | omega | (rw [Int.tmod_eq_emod_of_nonneg (by omega)]; omega) | (rw [Int.tdiv_eq_ediv_of_nonneg (by omega)]; omega)⟩ (fun h14 eh14 => ?_)
                have Ih14 := hI.up eh14 trivial rfl
                have th14_224_67 := eh14.2 (224) 67 (by omega)
                have th14_224_68 := eh14.2 (224) 68 (by omega)
                have th14_224_70 := eh14.2 (224) 70 (by omega)
                refine sx_aload_n dX12_doItem_143 rfl ?_
                refine sx_getS (k := 66) (t := 266) cl_12 fl_X12_139 dX12_doItem_144 s_224 (by decide) rfl (by decide) ?_
                refine sx_aload_n dX12_doItem_147 rfl ?_
                refine sx_getI (k := 70) cl_12 fl_X12_543 dX12_doItem_148 s_224 (by decide) rfl (by decide) ?_
                refine sx_iconst dX12_doItem_151 ⟨by decide, by decide⟩ ?_
                refine sx_isub dX12_doItem_152 ?_
                refine sy_topw (by first | omega | (rw [Int.tmod_eq_emod_of_nonneg (by omega)]; omega) | (rw [Int.tdiv_eq_ediv_of_nonneg (by omega)]; omega)) ?_
                refine sx_iaload dX12_doItem_153 s_266 (by decide) (by decide) ⟨by first | omega | (rw [Int.tmod_eq_emod_of_nonneg (by omega)]; omega) | (rw [Int.tdiv_eq_ediv_of_nonneg (by omega)]; omega), by first | omega | (rw [Int.tmod_eq_emod_of_nonneg (by omega)]; omega) | (rw [Int.tdiv_eq_ediv_of_nonneg (by omega)]; omega)⟩ ?_
                have qv : h14 266 (h14 224 70 - 1).toNat = h0 266 (h0 224 70 - 1).toNat - 1 := by rw [th14_224_70]; exact eh14.1
                refine sx_if_le (tgt := 162) dX12_doItem_154 (by decide) (fun c15 => ?_) (fun c15 => ?_)
                ·
                  refine sx_aload_n dX12_doItem_162 rfl ?_
                  refine sx_dupr dX12_doItem_163 ?_
                  refine sx_getI (k := 70) cl_12 fl_X12_543 dX12_doItem_164 s_224 (by decide) rfl (by decide) ?_
                  refine sx_iconst dX12_doItem_167 ⟨by decide, by decide⟩ ?_
                  refine sx_isub dX12_doItem_168 ?_
                  refine sy_topw (by first | omega | (rw [Int.tmod_eq_emod_of_nonneg (by omega)]; omega) | (rw [Int.tdiv_eq_ediv_of_nonneg (by omega)]; omega)) ?_
                  refine sy_putI (k := 70) cl_12 fl_X12_543 dX12_doItem_169 s_224 (by decide) rfl (by decide) rfl rfl (fun h16 eh16 => ?_)
                  have Ih16 := Ih14.up eh16 trivial rfl
                  have th16_224_67 := eh16.2 (224) 67 (by decide)
                  have th16_224_68 := eh16.2 (224) 68 (by decide)
                  have th16_224_70 := eh16.1
                  refine sx_iload_n dX12_doItem_172 rfl ?_
                  refine sx_iconst dX12_doItem_173 ⟨by decide, by decide⟩ ?_
                  refine sx_iadd dX12_doItem_174 ?_
                  refine sy_topw (by first | omega | (rw [Int.tmod_eq_emod_of_nonneg (by omega)]; omega) | (rw [Int.tdiv_eq_ediv_of_nonneg (by omega)]; omega)) ?_
                  refine sx_ireturn dX12_doItem_175 ?_
                  exact ⟨_, rfl, ⟨Ih16, by omega, by omega, ⟨fun _ q => absurd rfl q, fun q => absurd q (by decide)⟩, fun _ => Or.inr ⟨by omega, by omega, fun k hk => by rw [eh16.2 266 k (by omega), eh14.2 266 k (by omega)]⟩⟩⟩
                ·
                  refine sx_iload dX12_doItem_157 rfl ?_
                  refine sx_iconst dX12_doItem_159 ⟨by decide, by decide⟩ ?_
                  refine sx_iadd dX12_doItem_160 ?_
                  refine sy_topw (by first | omega | (rw [Int.tmod_eq_emod_of_nonneg (by omega)]; omega) | (rw [Int.tdiv_eq_ediv_of_nonneg (by omega)]; omega)) ?_
                  refine sx_ireturn dX12_doItem_161 ?_
                  exact ⟨_, rfl, ⟨Ih14, by omega, by omega, ⟨fun _ q => absurd rfl q, fun q => absurd q (by decide)⟩, fun _ => Or.inl ⟨by omega, by omega, by omega, fun k => by rw [eh14.at 266 k]; simp only [true_and]; by_cases q : (k : Int) = h0 224 70 - 1; (rw [if_pos (by omega), if_pos q]); (rw [if_neg (by omega), if_neg q])⟩⟩⟩
            ·
              exact absurd c12 (by decide)
          ·
            exact absurd c11 (by decide)
        ·
          exact absurd c10 (by decide)
      ·
        exact absurd c9 (by decide)
    ·
      exact absurd c8 (by decide)
theorem c_X12_doItem {G : sw_G} (d : Nat) {h0 : sw_H} (hJ : mI h0) (y1 y2 y3 : Int) (hw : 0 ≤ y1 ∧ y1 < 6) (hi : 0 ≤ y2 ∧ h0 233 (6 * h0 224 36 + y1).toNat + y2 < 60) (hs : 0 ≤ y3 ∧ y3 ≤ 7 ∧ y3 ≠ 2) (h_0 : y3 = 0 → 0 ≤ wO h0 y1 y2 ∧ wO h0 y1 y2 ≤ 14 ∧ tk (wO h0 y1 y2) ≤ h0 224 67 ∧ (wO h0 y1 y2 = 8 → 1 ≤ h0 224 68)) (hc : 0 ≤ h0 224 67 ∧ h0 224 67 ≤ 90 ∧ 0 ≤ h0 224 68 ∧ h0 224 68 ≤ 90 ∧ (y3 = 3 → 1 ≤ h0 224 67)) (hl : 0 ≤ h0 224 70 ∧ (y3 = 6 → h0 224 70 ≤ 47) ∧ (y3 = 7 → 1 ≤ h0 224 70 ∧ h0 224 70 ≤ 48 ∧ 1 ≤ h0 266 (h0 224 70 - 1).toNat ∧ h0 266 (h0 224 70 - 1).toNat ≤ 9)) : sw_E G NH SH (d + 3) mX12_doItem 0 [some (sw_r 224), some (sw_i y1), some (sw_i y2), some (sw_i y3), none] [] h0 (sw_Qi (fun z h' => mK (prW [67, 68, 70] [262, 263, 266]) h0 h' ∧ ((y3 ≠ 3 → y3 ≠ 4 → y3 ≠ 7 → z = y2 + 1) ∧ (y3 = 3 → z = y2 + 1 ∨ z = h0 243 (60 * h0 224 36 + h0 233 (6 * h0 224 36 + y1).toNat + y2).toNat - (60 * h0 224 36 + h0 233 (6 * h0 224 36 + y1).toNat) + 1) ∧ (y3 = 4 → z = h0 243 (60 * h0 224 36 + h0 233 (6 * h0 224 36 + y1).toNat + y2).toNat - (60 * h0 224 36 + h0 233 (6 * h0 224 36 + y1).toNat) + 1)) ∧ (h' 224 67 = (if y3 = 0 then h0 224 67 - tk (wO h0 y1 y2) + ld (wO h0 y1 y2) else if y3 = 1 then h0 224 67 + 1 else if y3 = 3 then h0 224 67 - 1 else h0 224 67) ∧ h' 224 68 = (if y3 = 0 then h0 224 68 + pu (wO h0 y1 y2) else h0 224 68)) ∧ ((y3 ≠ 6 → y3 ≠ 7 → h' 224 70 = h0 224 70 ∧ ∀ k, h' 266 k = h0 266 k) ∧ (y3 = 6 → h' 224 70 = h0 224 70 + 1 ∧ ∀ k : Nat, h' 266 k = if (k : Int) = h0 224 70 then wO h0 y1 y2 else h0 266 k)) ∧ (y3 = 7 → ((2 ≤ h0 266 (h0 224 70 - 1).toNat ∧ h' 224 70 = h0 224 70 ∧ z = h0 243 (60 * h0 224 36 + h0 233 (6 * h0 224 36 + y1).toNat + y2).toNat - (60 * h0 224 36 + h0 233 (6 * h0 224 36 + y1).toNat) + 1 ∧ ∀ k : Nat, h' 266 k = if (k : Int) = h0 224 70 - 1 then h0 266 (h0 224 70 - 1).toNat - 1 else h0 266 k) ∨ (h' 224 70 = h0 224 70 - 1 ∧ z = y2 + 1 ∧ ∀ k : Nat, (k : Int) ≠ h0 224 70 - 1 → h' 266 k = h0 266 k))))) := by
  have h : y3 = 0 ∨ y3 = 1 ∨ y3 = 3 ∨ y3 = 4 ∨ y3 = 5 ∨ y3 = 6 ∨ y3 = 7 := by omega
  rcases h with rfl | rfl | rfl | rfl | rfl | rfl | rfl
  · exact c_X12_doItem_0 d hJ y1 y2 hw hi hs h_0 hc hl
  · exact c_X12_doItem_1 d hJ y1 y2 hw hi hs h_0 hc hl
  · exact c_X12_doItem_3 d hJ y1 y2 hw hi hs h_0 hc hl
  · exact c_X12_doItem_4 d hJ y1 y2 hw hi hs h_0 hc hl
  · exact c_X12_doItem_5 d hJ y1 y2 hw hi hs h_0 hc hl
  · exact c_X12_doItem_6 d hJ y1 y2 hw hi hs h_0 hc hl
  · exact c_X12_doItem_7 d hJ y1 y2 hw hi hs h_0 hc hl
/-- what an ITEM that is done must find -/
def doPre (h0 : sw_H) (w i y3 : Int) : Prop := (y3 = 0 → 0 ≤ wO h0 w i ∧ wO h0 w i ≤ 14 ∧ tk (wO h0 w i) ≤ h0 224 67 ∧ (wO h0 w i = 8 → 1 ≤ h0 224 68)) ∧ (0 ≤ h0 224 67 ∧ h0 224 67 ≤ 90 ∧ 0 ≤ h0 224 68 ∧ h0 224 68 ≤ 90 ∧ (y3 = 3 → 1 ≤ h0 224 67)) ∧ (0 ≤ h0 224 70 ∧ (y3 = 6 → h0 224 70 ≤ 47) ∧ (y3 = 7 → 1 ≤ h0 224 70 ∧ h0 224 70 ≤ 48 ∧ 1 ≤ h0 266 (h0 224 70 - 1).toNat ∧ h0 266 (h0 224 70 - 1).toNat ≤ 9))
/-- what it leaves -/
def doPost (h0 : sw_H) (w i y3 : Int) (h' : sw_H) (z : Int) : Prop := ((y3 ≠ 3 → y3 ≠ 4 → y3 ≠ 7 → z = i + 1) ∧ (y3 = 3 → z = i + 1 ∨ z = h0 243 (60 * h0 224 36 + h0 233 (6 * h0 224 36 + w).toNat + i).toNat - (60 * h0 224 36 + h0 233 (6 * h0 224 36 + w).toNat) + 1) ∧ (y3 = 4 → z = h0 243 (60 * h0 224 36 + h0 233 (6 * h0 224 36 + w).toNat + i).toNat - (60 * h0 224 36 + h0 233 (6 * h0 224 36 + w).toNat) + 1)) ∧ (h' 224 67 = (if y3 = 0 then h0 224 67 - tk (wO h0 w i) + ld (wO h0 w i) else if y3 = 1 then h0 224 67 + 1 else if y3 = 3 then h0 224 67 - 1 else h0 224 67) ∧ h' 224 68 = (if y3 = 0 then h0 224 68 + pu (wO h0 w i) else h0 224 68)) ∧ ((y3 ≠ 6 → y3 ≠ 7 → h' 224 70 = h0 224 70 ∧ ∀ k, h' 266 k = h0 266 k) ∧ (y3 = 6 → h' 224 70 = h0 224 70 + 1 ∧ ∀ k : Nat, h' 266 k = if (k : Int) = h0 224 70 then wO h0 w i else h0 266 k)) ∧ (y3 = 7 → ((2 ≤ h0 266 (h0 224 70 - 1).toNat ∧ h' 224 70 = h0 224 70 ∧ z = h0 243 (60 * h0 224 36 + h0 233 (6 * h0 224 36 + w).toNat + i).toNat - (60 * h0 224 36 + h0 233 (6 * h0 224 36 + w).toNat) + 1 ∧ ∀ k : Nat, h' 266 k = if (k : Int) = h0 224 70 - 1 then h0 266 (h0 224 70 - 1).toNat - 1 else h0 266 k) ∨ (h' 224 70 = h0 224 70 - 1 ∧ z = i + 1 ∧ ∀ k : Nat, (k : Int) ≠ h0 224 70 - 1 → h' 266 k = h0 266 k)))
def wf (h : sw_H) (w : Int) : Int := 60 * h 224 36 + h 233 (6 * h 224 36 + w).toNat
def wn (h : sw_H) (w : Int) : Int := h 234 (6 * h 224 36 + w).toNat
/-- one turn of the machine's loop -/
def nxR (h0 : sw_H) (w i : Int) (h : sw_H) (w' i' : Int) : Prop :=
  (i = wn h0 w ∧ h 224 69 = h0 224 69 - 1 ∧ h 224 67 = h0 224 67 ∧ h 224 68 = h0 224 68 ∧ h 224 70 = h0 224 70 ∧ (∀ k, h 264 k = h0 264 k) ∧ (∀ k, h 265 k = h0 265 k) ∧ (∀ k, h 266 k = h0 266 k) ∧ ((h 224 69 < 0 ∧ w' = w ∧ i' = i) ∨ (0 ≤ h 224 69 ∧ w' = h 264 (h 224 69).toNat ∧ i' = h 265 (h 224 69).toNat)))
  ∨ (i ≠ wn h0 w ∧ sO h0 w i = 2 ∧ h 224 69 = h0 224 69 + 1 ∧ h 224 67 = h0 224 67 ∧ h 224 68 = h0 224 68 ∧ h 224 70 = h0 224 70 ∧ (∀ k : Nat, h 264 k = if (k : Int) = h0 224 69 then w else h0 264 k) ∧ (∀ k : Nat, h 265 k = if (k : Int) = h0 224 69 then i + 1 else h0 265 k) ∧ (∀ k, h 266 k = h0 266 k) ∧ w' = wO h0 w i ∧ i' = 0)
  ∨ (i ≠ wn h0 w ∧ sO h0 w i ≠ 2 ∧ h 224 69 = h0 224 69 ∧ (∀ k, h 264 k = h0 264 k) ∧ (∀ k, h 265 k = h0 265 k) ∧ w' = w ∧ doPost h0 w i (sO h0 w i) h i')

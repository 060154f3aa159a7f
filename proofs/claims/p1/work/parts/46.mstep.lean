set_option maxRecDepth 20000 in
set_option maxHeartbeats 4000000 in
theorem st_runWord {G : sw_G} (d : Nat) {h0 : sw_H} (hJ : mI h0) (word w i : Int) (Q : Option sw_V → sw_H → Prop) (hw : 0 ≤ w ∧ w < 6) (hi1 : 0 ≤ i ∧ i ≤ wn h0 w) (hf : h0 233 (6 * h0 224 36 + w).toNat + wn h0 w ≤ 60) (hcl : h0 224 69 ≤ 7) (hdo : i < wn h0 w → sO h0 w i ≠ 2 → doPre h0 w i (sO h0 w i)) (hx : h0 224 69 < 0 → Q none h0) (ih : ∀ (h : sw_H) (w2 i2 : Int), (mK (prW [67, 68, 69, 70] [262, 263, 264, 265, 266]) h0 h ∧ nxR h0 w i h w2 i2) → 0 ≤ h0 224 69 → sw_E G NH SH (d + 4) mX12_runWord 14 [some (sw_r 224), some (sw_i word), some (sw_i w2), some (sw_i i2), none] [] h Q) : sw_E G NH SH (d + 4) mX12_runWord 14 [some (sw_r 224), some (sw_i word), some (sw_i w), some (sw_i i), none] [] h0 Q := by
  have hI : mK (prW [67, 68, 69, 70] [262, 263, 264, 265, 266]) h0 h0 := mK.refl hJ
  obtain ⟨hi1, hi0⟩ := hi1
  refine sx_aload_n dX12_runWord_14 rfl ?_
  refine sx_getI (k := 69) cl_12 fl_X12_540 dX12_runWord_15 s_224 (by decide) rfl (by decide) ?_
  refine sx_if_lt (tgt := 155) dX12_runWord_18 (by decide) (fun c1 => ?_) (fun c1 => ?_)
  ·
    refine sx_ret dX12_runWord_155 ?_
    exact hx (by omega)
  ·
    have ra0 : (0 : Int) ≤ h0 233 (6 * h0 224 36 + w).toNat ∧ h0 233 (6 * h0 224 36 + w).toNat ≤ 60 := hI.1 233 _
    refine sx_iload_n dX12_runWord_21 rfl ?_
    refine sx_aload_n dX12_runWord_22 rfl ?_
    refine sx_iload_n dX12_runWord_23 rfl ?_
    refine sx_callVi lk_X12_546 cl_12 s_224 (by decide) dX12_runWord_24 (vs := [_]) rfl rfl (Nat.le_of_ble_eq_true rfl) (Nat.le_of_ble_eq_true rfl) rfl (c_X12_manyIn _ hI.1 _ (by first | omega | (rw [Int.tmod_eq_emod_of_nonneg (by omega)]; omega) | (rw [Int.tdiv_eq_ediv_of_nonneg (by omega)]; omega))) (fun x3 h2 ph2 => ?_)
    obtain ⟨rfl, p_x3⟩ := ph2
    obtain ⟨qn, qn1, qn2⟩ := p_x3
    have qn3 : x3 = wn h0 w := qn
    refine sx_icmp_ne (tgt := 85) dX12_runWord_27 (by decide) (fun c4 => ?_) (fun c4 => ?_)
    ·
      have hni : i ≠ wn h0 w := by unfold wn; omega
      have hi2 : i < wn h0 w := by omega
      refine sx_aload_n dX12_runWord_85 rfl ?_
      refine sx_iload_n dX12_runWord_86 rfl ?_
      refine sx_iload_n dX12_runWord_87 rfl ?_
      refine sx_callVi lk_X12_549 cl_12 s_224 (by decide) dX12_runWord_88 (vs := [_, _]) rfl rfl (Nat.le_of_ble_eq_true rfl) (Nat.le_of_ble_eq_true rfl) rfl (c_X12_sortOf _ hI.1 _ _ (by first | omega | (rw [Int.tmod_eq_emod_of_nonneg (by omega)]; omega) | (rw [Int.tdiv_eq_ediv_of_nonneg (by omega)]; omega)) (by first | omega | (rw [Int.tmod_eq_emod_of_nonneg (by omega)]; omega) | (rw [Int.tdiv_eq_ediv_of_nonneg (by omega)]; omega))) (fun x6 h5 ph5 => ?_)
      obtain ⟨rfl, p_x6⟩ := ph5
      refine sx_istore dX12_runWord_91 (by decide) ?_
      obtain ⟨qs, qs1, qs2⟩ := p_x6
      subst qs
      refine sx_iload dX12_runWord_93 rfl ?_
      refine sx_iconst dX12_runWord_95 ⟨by decide, by decide⟩ ?_
      refine sx_icmp_ne (tgt := 143) dX12_runWord_96 (by decide) (fun c7 => ?_) (fun c7 => ?_)
      ·
        have s2 : sO h0 w i ≠ 2 := by assumption
        have hd := hdo hi2 s2
        refine sx_aload_n dX12_runWord_143 rfl ?_
        refine sx_iload_n dX12_runWord_144 rfl ?_
        refine sx_iload_n dX12_runWord_145 rfl ?_
        refine sx_iload dX12_runWord_146 rfl ?_
        refine sx_callVi lk_X12_555 cl_12 s_224 (by decide) dX12_runWord_148 (vs := [_, _, _]) rfl rfl (Nat.le_of_ble_eq_true rfl) (Nat.le_of_ble_eq_true rfl) rfl (c_X12_doItem _ hI.1 _ _ _ (by omega) (by omega) (by omega) (hd.1) (hd.2.1) (hd.2.2)) (fun x9 h8 ph8 => ?_)
        obtain ⟨Kh8, p_h8, c_h8, l_h8, n_h8⟩ := ph8
        have Ih8 := hI.tr Kh8 (prW_sub rfl rfl)
        have th8_224_69 := Kh8.2 224 69 rfl
        refine sx_istore_n dX12_runWord_151 (by decide) ?_
        refine sx_goto (tgt := 14) dX12_runWord_152 (by decide) ?_
        refine sx_kill 4 ?_
        exact ih _ _ _ ⟨Ih8, Or.inr (Or.inr ⟨hni, s2, Kh8.2 224 69 rfl, fun k => Kh8.2 264 k rfl, fun k => Kh8.2 265 k rfl, rfl, p_h8, c_h8, l_h8, n_h8⟩)⟩ (by omega)
      ·
        have s2 : sO h0 w i = 2 := by assumption
        refine sx_aload_n dX12_runWord_99 rfl ?_
        refine sx_getS (k := 64) (t := 264) cl_12 fl_X12_133 dX12_runWord_100 s_224 (by decide) rfl (by decide) ?_
        refine sx_aload_n dX12_runWord_103 rfl ?_
        refine sx_getI (k := 69) cl_12 fl_X12_540 dX12_runWord_104 s_224 (by decide) rfl (by decide) ?_
        refine sx_iload_n dX12_runWord_107 rfl ?_
        refine sy_iastore dX12_runWord_108 s_264 (by decide) (by decide) ⟨by omega, by omega⟩ (fun h10 eh10 => ?_)
        have Ih10 := hI.up eh10 trivial rfl
        have th10_224_67 := eh10.2 (224) 67 (by omega)
        have th10_224_68 := eh10.2 (224) 68 (by omega)
        have th10_224_69 := eh10.2 (224) 69 (by omega)
        have th10_224_70 := eh10.2 (224) 70 (by omega)
        refine sx_aload_n dX12_runWord_109 rfl ?_
        refine sx_getS (k := 65) (t := 265) cl_12 fl_X12_136 dX12_runWord_110 s_224 (by decide) rfl (by decide) ?_
        refine sx_aload_n dX12_runWord_113 rfl ?_
        refine sx_getI (k := 69) cl_12 fl_X12_540 dX12_runWord_114 s_224 (by decide) rfl (by decide) ?_
        refine sx_iload_n dX12_runWord_117 rfl ?_
        refine sx_iconst dX12_runWord_118 ⟨by decide, by decide⟩ ?_
        refine sx_iadd dX12_runWord_119 ?_
        refine sy_topw (by omega) ?_
        refine sy_iastore dX12_runWord_120 s_265 (by decide) (by decide) ⟨by omega, by omega⟩ (fun h11 eh11 => ?_)
        have Ih11 := Ih10.up eh11 trivial rfl
        have th11_224_67 := eh11.2 (224) 67 (by omega)
        have th11_224_68 := eh11.2 (224) 68 (by omega)
        have th11_224_69 := eh11.2 (224) 69 (by omega)
        have th11_224_70 := eh11.2 (224) 70 (by omega)
        refine sx_aload_n dX12_runWord_121 rfl ?_
        refine sx_dupr dX12_runWord_122 ?_
        refine sx_getI (k := 69) cl_12 fl_X12_540 dX12_runWord_123 s_224 (by decide) rfl (by decide) ?_
        refine sx_iconst dX12_runWord_126 ⟨by decide, by decide⟩ ?_
        refine sx_iadd dX12_runWord_127 ?_
        refine sy_topw (by omega) ?_
        refine sy_putI (k := 69) cl_12 fl_X12_540 dX12_runWord_128 s_224 (by decide) rfl (by decide) rfl rfl (fun h12 eh12 => ?_)
        have Ih12 := Ih11.up eh12 trivial rfl
        have th12_224_67 := eh12.2 (224) 67 (by decide)
        have th12_224_68 := eh12.2 (224) 68 (by decide)
        have th12_224_69 := eh12.1
        have th12_224_70 := eh12.2 (224) 70 (by decide)
        refine sx_aload_n dX12_runWord_131 rfl ?_
        refine sx_iload_n dX12_runWord_132 rfl ?_
        refine sx_iload_n dX12_runWord_133 rfl ?_
        refine sx_callVi lk_X12_552 cl_12 s_224 (by decide) dX12_runWord_134 (vs := [_, _]) rfl rfl (Nat.le_of_ble_eq_true rfl) (Nat.le_of_ble_eq_true rfl) rfl (c_X12_whatOf _ Ih12.1 _ _ (by omega) (by rw [Ih12.2 233 _ rfl, Ih12.2 224 36 rfl]; omega)) (fun x14 h13 ph13 => ?_)
        obtain ⟨rfl, p_x14⟩ := ph13
        have qw0 : x14 = wO h0 w i := by rw [p_x14.1, wO_cd (Ih12.cd rfl rfl)]
        refine sx_istore_n dX12_runWord_137 (by decide) ?_
        refine sx_iconst dX12_runWord_138 ⟨by decide, by decide⟩ ?_
        refine sx_istore_n dX12_runWord_139 (by decide) ?_
        refine sx_goto (tgt := 14) dX12_runWord_140 (by decide) ?_
        refine sx_kill 4 ?_
        exact ih _ _ _ ⟨Ih12, Or.inr (Or.inl ⟨hni, s2, by omega, by omega, by omega, by omega, fun k => by rw [eh12.at 264 k, eh11.at 264 k, eh10.at 264 k]; simp only [Nat.reduceEqDiff, false_and, if_false, true_and]; by_cases q : (k : Int) = h0 224 69; (rw [if_pos (by omega), if_pos q]); (rw [if_neg (by omega), if_neg q]), fun k => by rw [eh12.at 265 k, eh11.at 265 k, eh10.at 265 k]; simp only [Nat.reduceEqDiff, false_and, if_false, true_and]; by_cases q : (k : Int) = h0 224 69; (rw [if_pos (by omega), if_pos q]); (rw [if_neg (by omega), if_neg q]), fun k => by rw [eh12.2 266 k (by omega), eh11.2 266 k (by omega), eh10.2 266 k (by omega)], qw0, rfl⟩)⟩ (by omega)
    ·
      refine sx_aload_n dX12_runWord_30 rfl ?_
      refine sx_dupr dX12_runWord_31 ?_
      refine sx_getI (k := 69) cl_12 fl_X12_540 dX12_runWord_32 s_224 (by decide) rfl (by decide) ?_
      refine sx_iconst dX12_runWord_35 ⟨by decide, by decide⟩ ?_
      refine sx_isub dX12_runWord_36 ?_
      refine sy_topw (by omega) ?_
      refine sy_putI (k := 69) cl_12 fl_X12_540 dX12_runWord_37 s_224 (by decide) rfl (by decide) rfl rfl (fun h15 eh15 => ?_)
      have Ih15 := hI.up eh15 trivial rfl
      have th15_224_67 := eh15.2 (224) 67 (by decide)
      have th15_224_68 := eh15.2 (224) 68 (by decide)
      have th15_224_69 := eh15.1
      have th15_224_70 := eh15.2 (224) 70 (by decide)
      refine sx_aload_n dX12_runWord_40 rfl ?_
      refine sx_getI (k := 69) cl_12 fl_X12_540 dX12_runWord_41 s_224 (by decide) rfl (by decide) ?_
      refine sx_if_ge (tgt := 51) dX12_runWord_44 (by decide) (fun c16 => ?_) (fun c16 => ?_)
      ·
        refine sx_aload_n dX12_runWord_51 rfl ?_
        refine sx_getS (k := 64) (t := 264) cl_12 fl_X12_133 dX12_runWord_52 s_224 (by decide) rfl (by decide) ?_
        refine sx_aload_n dX12_runWord_55 rfl ?_
        refine sx_getI (k := 69) cl_12 fl_X12_540 dX12_runWord_56 s_224 (by decide) rfl (by decide) ?_
        refine sx_iaload dX12_runWord_59 s_264 (by decide) (by decide) ⟨by omega, by omega⟩ ?_
        refine sy_top (fun v17 ev17 => ?_)
        refine sx_istore_n dX12_runWord_60 (by decide) ?_
        refine sx_aload_n dX12_runWord_61 rfl ?_
        refine sx_getI (k := 69) cl_12 fl_X12_540 dX12_runWord_62 s_224 (by decide) rfl (by decide) ?_
        refine sx_if_ge (tgt := 72) dX12_runWord_65 (by decide) (fun c18 => ?_) (fun c18 => ?_)
        ·
          refine sx_aload_n dX12_runWord_72 rfl ?_
          refine sx_getS (k := 65) (t := 265) cl_12 fl_X12_136 dX12_runWord_73 s_224 (by decide) rfl (by decide) ?_
          refine sx_aload_n dX12_runWord_76 rfl ?_
          refine sx_getI (k := 69) cl_12 fl_X12_540 dX12_runWord_77 s_224 (by decide) rfl (by decide) ?_
          refine sx_iaload dX12_runWord_80 s_265 (by decide) (by decide) ⟨by omega, by omega⟩ ?_
          refine sy_top (fun v19 ev19 => ?_)
          refine sx_istore_n dX12_runWord_81 (by decide) ?_
          refine sx_goto (tgt := 14) dX12_runWord_82 (by decide) ?_
          exact ih _ _ _ ⟨Ih15, Or.inl ⟨by omega, by omega, by omega, by omega, by omega, fun k => eh15.2 264 k (by omega), fun k => eh15.2 265 k (by omega), fun k => eh15.2 266 k (by omega), by omega⟩⟩ (by omega)
        ·
          refine sx_iload_n dX12_runWord_68 rfl ?_
          refine sx_goto (tgt := 81) dX12_runWord_69 (by decide) ?_
          refine sx_istore_n dX12_runWord_81 (by decide) ?_
          refine sx_goto (tgt := 14) dX12_runWord_82 (by decide) ?_
          exact ih _ _ _ ⟨Ih15, Or.inl ⟨by omega, by omega, by omega, by omega, by omega, fun k => eh15.2 264 k (by omega), fun k => eh15.2 265 k (by omega), fun k => eh15.2 266 k (by omega), by omega⟩⟩ (by omega)
      ·
        refine sx_iload_n dX12_runWord_47 rfl ?_
        refine sx_goto (tgt := 60) dX12_runWord_48 (by decide) ?_
        refine sx_istore_n dX12_runWord_60 (by decide) ?_
        refine sx_aload_n dX12_runWord_61 rfl ?_
        refine sx_getI (k := 69) cl_12 fl_X12_540 dX12_runWord_62 s_224 (by decide) rfl (by decide) ?_
        refine sx_if_ge (tgt := 72) dX12_runWord_65 (by decide) (fun c20 => ?_) (fun c20 => ?_)
        ·
          refine sx_aload_n dX12_runWord_72 rfl ?_
          refine sx_getS (k := 65) (t := 265) cl_12 fl_X12_136 dX12_runWord_73 s_224 (by decide) rfl (by decide) ?_
          refine sx_aload_n dX12_runWord_76 rfl ?_
          refine sx_getI (k := 69) cl_12 fl_X12_540 dX12_runWord_77 s_224 (by decide) rfl (by decide) ?_
          refine sx_iaload dX12_runWord_80 s_265 (by decide) (by decide) ⟨by omega, by omega⟩ ?_
          refine sy_top (fun v21 ev21 => ?_)
          refine sx_istore_n dX12_runWord_81 (by decide) ?_
          refine sx_goto (tgt := 14) dX12_runWord_82 (by decide) ?_
          exact ih _ _ _ ⟨Ih15, Or.inl ⟨by omega, by omega, by omega, by omega, by omega, fun k => eh15.2 264 k (by omega), fun k => eh15.2 265 k (by omega), fun k => eh15.2 266 k (by omega), by omega⟩⟩ (by omega)
        ·
          refine sx_iload_n dX12_runWord_68 rfl ?_
          refine sx_goto (tgt := 81) dX12_runWord_69 (by decide) ?_
          refine sx_istore_n dX12_runWord_81 (by decide) ?_
          refine sx_goto (tgt := 14) dX12_runWord_82 (by decide) ?_
          exact ih _ _ _ ⟨Ih15, Or.inl ⟨by omega, by omega, by omega, by omega, by omega, fun k => eh15.2 264 k (by omega), fun k => eh15.2 265 k (by omega), fun k => eh15.2 266 k (by omega), by omega⟩⟩ (by omega)

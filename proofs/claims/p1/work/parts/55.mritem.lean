set_option maxRecDepth 20000 in
set_option maxHeartbeats 4000000 in
theorem c_X12_here {G : sw_G} (d : Nat) {h0 : sw_H} (hJ : mI h0)  : sw_E G NH SH (d) mX12_here 0 [some (sw_r 224), none] [] h0 (sw_Qi (fun z h' => h0 = h' ∧ (-1 ≤ z ∧ (0 ≤ z → z < h0 227 (h0 224 37).toNat)) ∧ (z = -1 → ∀ k : Int, 0 ≤ k → k < h0 227 (h0 224 37).toNat → ¬ (h0 224 8 = 2 ∧ sw_cmp (h0 246 (6 * h0 224 37 + k).toNat) (h0 224 10) = 0)) ∧ (0 ≤ z → (h0 224 8 = 2 ∧ sw_cmp (h0 246 (6 * h0 224 37 + z).toNat) (h0 224 10) = 0)))) := by
  have hI : mK (prW [] []) h0 h0 := mK.refl hJ
  refine sx_iconst dX12_here_0 ⟨by decide, by decide⟩ ?_
  refine sx_istore_n dX12_here_1 (by decide) ?_
  refine sx_loop1 (fun (h : sw_H) (k : Int) => (h0 = h) ∧ (0 ≤ k) ∧ (∀ j : Int, 0 ≤ j → j < k → ¬ (h0 224 8 = 2 ∧ sw_cmp (h0 246 (6 * h0 224 37 + j).toNat) (h0 224 10) = 0))) (fun (h : sw_H) (k : Int) => (6 - k).toNat) (fun (h : sw_H) (k : Int) => sw_E G NH SH (d) mX12_here 2 [some (sw_r 224), some (sw_i k)] [] h (sw_Qi (fun z h' => h0 = h' ∧ (-1 ≤ z ∧ (0 ≤ z → z < h0 227 (h0 224 37).toNat)) ∧ (z = -1 → ∀ k : Int, 0 ≤ k → k < h0 227 (h0 224 37).toNat → ¬ (h0 224 8 = 2 ∧ sw_cmp (h0 246 (6 * h0 224 37 + k).toNat) (h0 224 10) = 0)) ∧ (0 ≤ z → (h0 224 8 = 2 ∧ sw_cmp (h0 246 (6 * h0 224 37 + z).toNat) (h0 224 10) = 0))))) ?_ _ _ ?_
  · rintro h1 k_2 ⟨rfl, k0, kn⟩ ihh1
    try dsimp only at ihh1
    obtain ⟨kk, hkk⟩ : ∃ x, x = k_2 := ⟨_, rfl⟩
    subst hkk
    refine sx_iload_n dX12_here_2 rfl ?_
    refine sx_aload_n dX12_here_3 rfl ?_
    refine sx_getS (k := 11) (t := 227) cl_12 fl_X12_20 dX12_here_4 s_224 (by decide) rfl (by decide) ?_
    refine sx_aload_n dX12_here_7 rfl ?_
    refine sx_getI (k := 37) cl_12 fl_X12_340 dX12_here_8 s_224 (by decide) rfl (by decide) ?_
    have r3 : (0 : Int) ≤ h0 224 37 ∧ h0 224 37 ≤ 1 := hI.1 224 37
    refine sy_iaF (F := fun z => (0 : Int) ≤ z ∧ z ≤ 6) dX12_here_11 s_227 (by decide) (by decide) ⟨by first | omega | (rw [Int.tmod_eq_emod_of_nonneg (by omega)]; omega) | (rw [Int.tdiv_eq_ediv_of_nonneg (by omega)]; omega), by first | omega | (rw [Int.tmod_eq_emod_of_nonneg (by omega)]; omega) | (rw [Int.tdiv_eq_ediv_of_nonneg (by omega)]; omega)⟩ (hI.1 227 _) (fun r4 => ?_)
    refine sx_icmp_ge (tgt := 53) dX12_here_12 (by decide) (fun c5 => ?_) (fun c5 => ?_)
    ·
      refine sx_iconst dX12_here_53 ⟨by decide, by decide⟩ ?_
      refine sx_ireturn dX12_here_54 ?_
      exact ⟨_, rfl, ⟨rfl, by omega, fun _ k a q => kn k a (by omega), fun q => absurd q (by decide)⟩⟩
    ·
      refine sx_aload_n dX12_here_15 rfl ?_
      refine sx_getI (k := 8) cl_12 fl_X12_302 dX12_here_16 s_224 (by decide) rfl (by decide) ?_
      have r6 : (0 : Int) ≤ h0 224 8 ∧ h0 224 8 ≤ 5 := hI.1 224 8
      refine sx_iconst dX12_here_19 ⟨by decide, by decide⟩ ?_
      refine sx_icmp_ne (tgt := 47) dX12_here_20 (by decide) (fun c7 => ?_) (fun c7 => ?_)
      ·
        refine sx_iinc dX12_here_47 (by decide) rfl ?_
        rw [sw_w_id (by first | omega | (rw [Int.tmod_eq_emod_of_nonneg (by omega)]; omega) | (rw [Int.tdiv_eq_ediv_of_nonneg (by omega)]; omega)) (by first | omega | (rw [Int.tmod_eq_emod_of_nonneg (by omega)]; omega) | (rw [Int.tdiv_eq_ediv_of_nonneg (by omega)]; omega))]
        refine sx_goto (tgt := 2) dX12_here_50 (by decide) ?_
        exact ihh1 _ _ ⟨rfl, by first | omega | (rw [Int.tmod_eq_emod_of_nonneg (by omega)]; omega) | (rw [Int.tdiv_eq_ediv_of_nonneg (by omega)]; omega), by (intro j a b; by_cases q : j = kk; (subst q; intro hq; first | exact absurd hq.1 (by assumption) | exact absurd hq.2 (by assumption) | omega); exact kn j a (by omega))⟩ (by exact sy_dec (by first | omega | (rw [Int.tmod_eq_emod_of_nonneg (by omega)]; omega) | (rw [Int.tdiv_eq_ediv_of_nonneg (by omega)]; omega)) (by first | omega | (rw [Int.tmod_eq_emod_of_nonneg (by omega)]; omega) | (rw [Int.tdiv_eq_ediv_of_nonneg (by omega)]; omega)))
      ·
        refine sx_aload_n dX12_here_23 rfl ?_
        refine sx_getS (k := 30) (t := 246) cl_12 fl_X12_78 dX12_here_24 s_224 (by decide) rfl (by decide) ?_
        refine sx_bipush dX12_here_27 ⟨by decide, by decide, by decide⟩ ?_
        refine sx_aload_n dX12_here_29 rfl ?_
        refine sx_getI (k := 37) cl_12 fl_X12_340 dX12_here_30 s_224 (by decide) rfl (by decide) ?_
        have r8 : (0 : Int) ≤ h0 224 37 ∧ h0 224 37 ≤ 1 := hI.1 224 37
        refine sx_imul dX12_here_33 ?_
        refine sy_topw (by first | omega | (rw [Int.tmod_eq_emod_of_nonneg (by omega)]; omega) | (rw [Int.tdiv_eq_ediv_of_nonneg (by omega)]; omega)) ?_
        refine sx_iload_n dX12_here_34 rfl ?_
        refine sx_iadd dX12_here_35 ?_
        refine sy_topw (by first | omega | (rw [Int.tmod_eq_emod_of_nonneg (by omega)]; omega) | (rw [Int.tdiv_eq_ediv_of_nonneg (by omega)]; omega)) ?_
        refine sx_laload dX12_here_36 s_246 (by decide) (by decide) ⟨by first | omega | (rw [Int.tmod_eq_emod_of_nonneg (by omega)]; omega) | (rw [Int.tdiv_eq_ediv_of_nonneg (by omega)]; omega), by first | omega | (rw [Int.tmod_eq_emod_of_nonneg (by omega)]; omega) | (rw [Int.tdiv_eq_ediv_of_nonneg (by omega)]; omega)⟩ ?_
        refine sx_aload_n dX12_here_37 rfl ?_
        refine sx_getL (k := 10) cl_12 fl_X12_309 dX12_here_38 s_224 (by decide) rfl (by decide) ?_
        refine sx_lcmp dX12_here_41 ?_
        refine sx_if_ne (tgt := 47) dX12_here_42 (by decide) (fun c9 => ?_) (fun c9 => ?_)
        ·
          refine sx_iinc dX12_here_47 (by decide) rfl ?_
          rw [sw_w_id (by first | omega | (rw [Int.tmod_eq_emod_of_nonneg (by omega)]; omega) | (rw [Int.tdiv_eq_ediv_of_nonneg (by omega)]; omega)) (by first | omega | (rw [Int.tmod_eq_emod_of_nonneg (by omega)]; omega) | (rw [Int.tdiv_eq_ediv_of_nonneg (by omega)]; omega))]
          refine sx_goto (tgt := 2) dX12_here_50 (by decide) ?_
          exact ihh1 _ _ ⟨rfl, by first | omega | (rw [Int.tmod_eq_emod_of_nonneg (by omega)]; omega) | (rw [Int.tdiv_eq_ediv_of_nonneg (by omega)]; omega), by (intro j a b; by_cases q : j = kk; (subst q; intro hq; first | exact absurd hq.1 (by assumption) | exact absurd hq.2 (by assumption) | omega); exact kn j a (by omega))⟩ (by exact sy_dec (by first | omega | (rw [Int.tmod_eq_emod_of_nonneg (by omega)]; omega) | (rw [Int.tdiv_eq_ediv_of_nonneg (by omega)]; omega)) (by first | omega | (rw [Int.tmod_eq_emod_of_nonneg (by omega)]; omega) | (rw [Int.tdiv_eq_ediv_of_nonneg (by omega)]; omega)))
        ·
          refine sx_iload_n dX12_here_45 rfl ?_
          refine sx_ireturn dX12_here_46 ?_
          exact ⟨_, rfl, ⟨rfl, by omega, fun q => by omega, fun _ => ⟨by assumption, by assumption⟩⟩⟩
  · exact ⟨rfl, by first | omega | (rw [Int.tmod_eq_emod_of_nonneg (by omega)]; omega) | (rw [Int.tdiv_eq_ediv_of_nonneg (by omega)]; omega), by (intro j a b; omega)⟩
/-- an implication that no arithmetic looks into -/
def imp (P Q : Prop) : Prop := P → Q
def shP (h0 : sw_H) (z : Int) : Prop := (z = 0 → 0 ≤ tof (h0 224 10)) ∧ (z = 3 ∨ z = 6 → h0 224 55 ≤ 3) ∧ (z = 4 → 1 ≤ h0 224 55 ∧ h0 252 (h0 224 55).toNat = 3) ∧ (z = 5 → 1 ≤ h0 224 55 ∧ (h0 252 (h0 224 55).toNat = 3 ∨ h0 252 (h0 224 55).toNat = 4)) ∧ (z = 7 → 1 ≤ h0 224 55 ∧ h0 252 (h0 224 55).toNat = 6)
set_option maxRecDepth 20000 in
set_option maxHeartbeats 4000000 in
theorem c_X12_sortHere {G : sw_G} (d : Nat) {h0 : sw_H} (hJ : mI h0) (ho : 0 ≤ h0 224 55 ∧ h0 224 55 ≤ 4)  : sw_E G NH SH (d + 1) mX12_sortHere 0 [some (sw_r 224), none] [] h0 (sw_Qi (fun z h' => h0 = h' ∧ (-1 ≤ z ∧ z ≤ 7) ∧ (shP h0 z) ∧ (imp (0 ≤ z) (h0 224 8 ≠ 0)))) := by
  have hI : mK (prW [] []) h0 h0 := mK.refl hJ
  refine sx_aload_n dX12_sortHere_0 rfl ?_
  refine sx_getI (k := 8) cl_12 fl_X12_302 dX12_sortHere_1 s_224 (by decide) rfl (by decide) ?_
  have r1 : (0 : Int) ≤ h0 224 8 ∧ h0 224 8 ≤ 5 := hI.1 224 8
  refine sx_iconst dX12_sortHere_4 ⟨by decide, by decide⟩ ?_
  refine sx_icmp_ne (tgt := 10) dX12_sortHere_5 (by decide) (fun c2 => ?_) (fun c2 => ?_)
  ·
    refine sx_aload_n dX12_sortHere_10 rfl ?_
    refine sx_getI (k := 8) cl_12 fl_X12_302 dX12_sortHere_11 s_224 (by decide) rfl (by decide) ?_
    have r3 : (0 : Int) ≤ h0 224 8 ∧ h0 224 8 ≤ 5 := hI.1 224 8
    refine sx_iconst dX12_sortHere_14 ⟨by decide, by decide⟩ ?_
    refine sx_icmp_ne (tgt := 20) dX12_sortHere_15 (by decide) (fun c4 => ?_) (fun c4 => ?_)
    ·
      refine sx_aload_n dX12_sortHere_20 rfl ?_
      refine sx_getI (k := 8) cl_12 fl_X12_302 dX12_sortHere_21 s_224 (by decide) rfl (by decide) ?_
      have r5 : (0 : Int) ≤ h0 224 8 ∧ h0 224 8 ≤ 5 := hI.1 224 8
      refine sx_iconst dX12_sortHere_24 ⟨by decide, by decide⟩ ?_
      refine sx_icmp_eq (tgt := 30) dX12_sortHere_25 (by decide) (fun c6 => ?_) (fun c6 => ?_)
      ·
        refine sx_aload_n dX12_sortHere_30 rfl ?_
        refine sx_getL (k := 10) cl_12 fl_X12_309 dX12_sortHere_31 s_224 (by decide) rfl (by decide) ?_
        refine sx_callSi lk_X12_258 dX12_sortHere_34 (vs := [_]) rfl rfl (Nat.le_of_ble_eq_true rfl) (Nat.le_of_ble_eq_true rfl) rfl (c_X12_thingOf _ hI.1 _) (fun x8 h7 ph7 => ?_)
        obtain ⟨rfl, p_x8⟩ := ph7
        refine sx_if_lt (tgt := 42) dX12_sortHere_37 (by decide) (fun c9 => ?_) (fun c9 => ?_)
        ·
          refine sx_aload_n dX12_sortHere_42 rfl ?_
          refine sx_ldc2 kc_X12_232 ⟨by decide, by decide⟩ dX12_sortHere_43 ?_
          refine sx_callVz lk_X12_355 cl_12 s_224 (by decide) dX12_sortHere_46 (vs := [_]) rfl rfl (Nat.le_of_ble_eq_true rfl) (Nat.le_of_ble_eq_true rfl) rfl (c_X12_isWord _ hI.1 _) (fun x11 h10 zx11 ph10 => ?_)
          obtain ⟨rfl, p_x11⟩ := ph10
          refine sx_if_ne (tgt := 62) dX12_sortHere_49 (by decide) (fun c12 => ?_) (fun c12 => ?_)
          ·
            refine sx_aload_n dX12_sortHere_62 rfl ?_
            refine sx_getI (k := 55) cl_12 fl_X12_397 dX12_sortHere_63 s_224 (by decide) rfl (by decide) ?_
            refine sx_iconst dX12_sortHere_66 ⟨by decide, by decide⟩ ?_
            refine sx_icmp_ne (tgt := 74) dX12_sortHere_67 (by decide) (fun c13 => ?_) (fun c13 => ?_)
            ·
              refine sx_aload_n dX12_sortHere_74 rfl ?_
              refine sx_ldc2 kc_X12_232 ⟨by decide, by decide⟩ dX12_sortHere_75 ?_
              refine sx_callVz lk_X12_355 cl_12 s_224 (by decide) dX12_sortHere_78 (vs := [_]) rfl rfl (Nat.le_of_ble_eq_true rfl) (Nat.le_of_ble_eq_true rfl) rfl (c_X12_isWord _ hI.1 _) (fun x15 h14 zx15 ph14 => ?_)
              obtain ⟨rfl, p_x15⟩ := ph14
              refine sx_if_eq (tgt := 88) dX12_sortHere_81 (by decide) (fun c16 => ?_) (fun c16 => ?_)
              ·
                refine sx_bipush dX12_sortHere_88 ⟨by decide, by decide, by decide⟩ ?_
                refine sx_ireturn dX12_sortHere_90 ?_
                exact ⟨_, rfl, ⟨rfl, by omega, by unfold shP; omega, fun q => by omega⟩⟩
              ·
                refine sx_iconst dX12_sortHere_84 ⟨by decide, by decide⟩ ?_
                refine sx_goto (tgt := 90) dX12_sortHere_85 (by decide) ?_
                refine sx_ireturn dX12_sortHere_90 ?_
                exact ⟨_, rfl, ⟨rfl, by omega, by unfold shP; omega, fun q => by omega⟩⟩
            ·
              refine sx_iconst dX12_sortHere_70 ⟨by decide, by decide⟩ ?_
              refine sx_goto (tgt := 90) dX12_sortHere_71 (by decide) ?_
              refine sx_ireturn dX12_sortHere_90 ?_
              exact ⟨_, rfl, ⟨rfl, by omega, by unfold shP; omega, fun q => by omega⟩⟩
          ·
            refine sx_aload_n dX12_sortHere_52 rfl ?_
            refine sx_ldc2 kc_X12_238 ⟨by decide, by decide⟩ dX12_sortHere_53 ?_
            refine sx_callVz lk_X12_355 cl_12 s_224 (by decide) dX12_sortHere_56 (vs := [_]) rfl rfl (Nat.le_of_ble_eq_true rfl) (Nat.le_of_ble_eq_true rfl) rfl (c_X12_isWord _ hI.1 _) (fun x18 h17 zx18 ph17 => ?_)
            obtain ⟨rfl, p_x18⟩ := ph17
            refine sx_if_eq (tgt := 91) dX12_sortHere_59 (by decide) (fun c19 => ?_) (fun c19 => ?_)
            ·
              refine sx_aload_n dX12_sortHere_91 rfl ?_
              refine sx_getI (k := 55) cl_12 fl_X12_397 dX12_sortHere_92 s_224 (by decide) rfl (by decide) ?_
              refine sx_if_ne (tgt := 102) dX12_sortHere_95 (by decide) (fun c20 => ?_) (fun c20 => ?_)
              ·
                refine sx_aload_n dX12_sortHere_102 rfl ?_
                refine sx_getS (k := 42) (t := 252) cl_12 fl_X12_97 dX12_sortHere_103 s_224 (by decide) rfl (by decide) ?_
                refine sx_aload_n dX12_sortHere_106 rfl ?_
                refine sx_getI (k := 55) cl_12 fl_X12_397 dX12_sortHere_107 s_224 (by decide) rfl (by decide) ?_
                refine sx_iaload dX12_sortHere_110 s_252 (by decide) (by decide) ⟨by omega, by omega⟩ ?_
                refine sy_top (fun v21 ev21 => ?_)
                refine sx_istore_n dX12_sortHere_111 (by decide) ?_
                refine sx_aload_n dX12_sortHere_112 rfl ?_
                refine sx_ldc2 kc_X12_234 ⟨by decide, by decide⟩ dX12_sortHere_113 ?_
                refine sx_callVz lk_X12_355 cl_12 s_224 (by decide) dX12_sortHere_116 (vs := [_]) rfl rfl (Nat.le_of_ble_eq_true rfl) (Nat.le_of_ble_eq_true rfl) rfl (c_X12_isWord _ hI.1 _) (fun x23 h22 zx23 ph22 => ?_)
                obtain ⟨rfl, p_x23⟩ := ph22
                refine sx_if_eq (tgt := 133) dX12_sortHere_119 (by decide) (fun c24 => ?_) (fun c24 => ?_)
                ·
                  refine sx_aload_n dX12_sortHere_133 rfl ?_
                  refine sx_ldc2 kc_X12_236 ⟨by decide, by decide⟩ dX12_sortHere_134 ?_
                  refine sx_callVz lk_X12_355 cl_12 s_224 (by decide) dX12_sortHere_137 (vs := [_]) rfl rfl (Nat.le_of_ble_eq_true rfl) (Nat.le_of_ble_eq_true rfl) rfl (c_X12_isWord _ hI.1 _) (fun x26 h25 zx26 ph25 => ?_)
                  obtain ⟨rfl, p_x26⟩ := ph25
                  refine sx_if_eq (tgt := 159) dX12_sortHere_140 (by decide) (fun c27 => ?_) (fun c27 => ?_)
                  ·
                    refine sx_aload_n dX12_sortHere_159 rfl ?_
                    refine sx_ldc2 kc_X12_240 ⟨by decide, by decide⟩ dX12_sortHere_160 ?_
                    refine sx_callVz lk_X12_355 cl_12 s_224 (by decide) dX12_sortHere_163 (vs := [_]) rfl rfl (Nat.le_of_ble_eq_true rfl) (Nat.le_of_ble_eq_true rfl) rfl (c_X12_isWord _ hI.1 _) (fun x29 h28 zx29 ph28 => ?_)
                    obtain ⟨rfl, p_x29⟩ := ph28
                    refine sx_if_eq (tgt := 180) dX12_sortHere_166 (by decide) (fun c30 => ?_) (fun c30 => ?_)
                    ·
                      refine sx_iconst dX12_sortHere_180 ⟨by decide, by decide⟩ ?_
                      refine sx_ireturn dX12_sortHere_181 ?_
                      exact ⟨_, rfl, ⟨rfl, by omega, by unfold shP; omega, fun q => by omega⟩⟩
                    ·
                      refine sx_iload_n dX12_sortHere_169 rfl ?_
                      refine sx_bipush dX12_sortHere_170 ⟨by decide, by decide, by decide⟩ ?_
                      refine sx_icmp_ne (tgt := 180) dX12_sortHere_172 (by decide) (fun c31 => ?_) (fun c31 => ?_)
                      ·
                        refine sx_iconst dX12_sortHere_180 ⟨by decide, by decide⟩ ?_
                        refine sx_ireturn dX12_sortHere_181 ?_
                        exact ⟨_, rfl, ⟨rfl, by omega, by unfold shP; omega, fun q => by omega⟩⟩
                      ·
                        refine sx_bipush dX12_sortHere_175 ⟨by decide, by decide, by decide⟩ ?_
                        refine sx_goto (tgt := 181) dX12_sortHere_177 (by decide) ?_
                        refine sx_ireturn dX12_sortHere_181 ?_
                        exact ⟨_, rfl, ⟨rfl, by omega, by unfold shP; omega, fun q => by omega⟩⟩
                  ·
                    refine sx_iload_n dX12_sortHere_143 rfl ?_
                    refine sx_iconst dX12_sortHere_144 ⟨by decide, by decide⟩ ?_
                    refine sx_icmp_eq (tgt := 153) dX12_sortHere_145 (by decide) (fun c32 => ?_) (fun c32 => ?_)
                    ·
                      refine sx_iconst dX12_sortHere_153 ⟨by decide, by decide⟩ ?_
                      refine sx_goto (tgt := 158) dX12_sortHere_154 (by decide) ?_
                      refine sx_ireturn dX12_sortHere_158 ?_
                      exact ⟨_, rfl, ⟨rfl, by omega, by unfold shP; omega, fun q => by omega⟩⟩
                    ·
                      refine sx_iload_n dX12_sortHere_148 rfl ?_
                      refine sx_iconst dX12_sortHere_149 ⟨by decide, by decide⟩ ?_
                      refine sx_icmp_ne (tgt := 157) dX12_sortHere_150 (by decide) (fun c33 => ?_) (fun c33 => ?_)
                      ·
                        refine sx_iconst dX12_sortHere_157 ⟨by decide, by decide⟩ ?_
                        refine sx_ireturn dX12_sortHere_158 ?_
                        exact ⟨_, rfl, ⟨rfl, by omega, by unfold shP; omega, fun q => by omega⟩⟩
                      ·
                        refine sx_iconst dX12_sortHere_153 ⟨by decide, by decide⟩ ?_
                        refine sx_goto (tgt := 158) dX12_sortHere_154 (by decide) ?_
                        refine sx_ireturn dX12_sortHere_158 ?_
                        exact ⟨_, rfl, ⟨rfl, by omega, by unfold shP; omega, fun q => by omega⟩⟩
                ·
                  refine sx_iload_n dX12_sortHere_122 rfl ?_
                  refine sx_iconst dX12_sortHere_123 ⟨by decide, by decide⟩ ?_
                  refine sx_icmp_ne (tgt := 131) dX12_sortHere_124 (by decide) (fun c34 => ?_) (fun c34 => ?_)
                  ·
                    refine sx_iconst dX12_sortHere_131 ⟨by decide, by decide⟩ ?_
                    refine sx_ireturn dX12_sortHere_132 ?_
                    exact ⟨_, rfl, ⟨rfl, by omega, by unfold shP; omega, fun q => by omega⟩⟩
                  ·
                    refine sx_iconst dX12_sortHere_127 ⟨by decide, by decide⟩ ?_
                    refine sx_goto (tgt := 132) dX12_sortHere_128 (by decide) ?_
                    refine sx_ireturn dX12_sortHere_132 ?_
                    exact ⟨_, rfl, ⟨rfl, by omega, by unfold shP; omega, fun q => by omega⟩⟩
              ·
                refine sx_iconst dX12_sortHere_98 ⟨by decide, by decide⟩ ?_
                refine sx_goto (tgt := 111) dX12_sortHere_99 (by decide) ?_
                refine sx_istore_n dX12_sortHere_111 (by decide) ?_
                refine sx_aload_n dX12_sortHere_112 rfl ?_
                refine sx_ldc2 kc_X12_234 ⟨by decide, by decide⟩ dX12_sortHere_113 ?_
                refine sx_callVz lk_X12_355 cl_12 s_224 (by decide) dX12_sortHere_116 (vs := [_]) rfl rfl (Nat.le_of_ble_eq_true rfl) (Nat.le_of_ble_eq_true rfl) rfl (c_X12_isWord _ hI.1 _) (fun x36 h35 zx36 ph35 => ?_)
                obtain ⟨rfl, p_x36⟩ := ph35
                refine sx_if_eq (tgt := 133) dX12_sortHere_119 (by decide) (fun c37 => ?_) (fun c37 => ?_)
                ·
                  refine sx_aload_n dX12_sortHere_133 rfl ?_
                  refine sx_ldc2 kc_X12_236 ⟨by decide, by decide⟩ dX12_sortHere_134 ?_
                  refine sx_callVz lk_X12_355 cl_12 s_224 (by decide) dX12_sortHere_137 (vs := [_]) rfl rfl (Nat.le_of_ble_eq_true rfl) (Nat.le_of_ble_eq_true rfl) rfl (c_X12_isWord _ hI.1 _) (fun x39 h38 zx39 ph38 => ?_)
                  obtain ⟨rfl, p_x39⟩ := ph38
                  refine sx_if_eq (tgt := 159) dX12_sortHere_140 (by decide) (fun c40 => ?_) (fun c40 => ?_)
                  ·
                    refine sx_aload_n dX12_sortHere_159 rfl ?_
                    refine sx_ldc2 kc_X12_240 ⟨by decide, by decide⟩ dX12_sortHere_160 ?_
                    refine sx_callVz lk_X12_355 cl_12 s_224 (by decide) dX12_sortHere_163 (vs := [_]) rfl rfl (Nat.le_of_ble_eq_true rfl) (Nat.le_of_ble_eq_true rfl) rfl (c_X12_isWord _ hI.1 _) (fun x42 h41 zx42 ph41 => ?_)
                    obtain ⟨rfl, p_x42⟩ := ph41
                    refine sx_if_eq (tgt := 180) dX12_sortHere_166 (by decide) (fun c43 => ?_) (fun c43 => ?_)
                    ·
                      refine sx_iconst dX12_sortHere_180 ⟨by decide, by decide⟩ ?_
                      refine sx_ireturn dX12_sortHere_181 ?_
                      exact ⟨_, rfl, ⟨rfl, by omega, by unfold shP; omega, fun q => by omega⟩⟩
                    ·
                      refine sx_iload_n dX12_sortHere_169 rfl ?_
                      refine sx_bipush dX12_sortHere_170 ⟨by decide, by decide, by decide⟩ ?_
                      refine sx_icmp_ne (tgt := 180) dX12_sortHere_172 (by decide) (fun c44 => ?_) (fun c44 => ?_)
                      ·
                        refine sx_iconst dX12_sortHere_180 ⟨by decide, by decide⟩ ?_
                        refine sx_ireturn dX12_sortHere_181 ?_
                        exact ⟨_, rfl, ⟨rfl, by omega, by unfold shP; omega, fun q => by omega⟩⟩
                      ·
                        exact absurd c44 (by decide)
                  ·
                    refine sx_iload_n dX12_sortHere_143 rfl ?_
                    refine sx_iconst dX12_sortHere_144 ⟨by decide, by decide⟩ ?_
                    refine sx_icmp_eq (tgt := 153) dX12_sortHere_145 (by decide) (fun c45 => ?_) (fun c45 => ?_)
                    ·
                      exact absurd c45 (by decide)
                    ·
                      refine sx_iload_n dX12_sortHere_148 rfl ?_
                      refine sx_iconst dX12_sortHere_149 ⟨by decide, by decide⟩ ?_
                      refine sx_icmp_ne (tgt := 157) dX12_sortHere_150 (by decide) (fun c46 => ?_) (fun c46 => ?_)
                      ·
                        refine sx_iconst dX12_sortHere_157 ⟨by decide, by decide⟩ ?_
                        refine sx_ireturn dX12_sortHere_158 ?_
                        exact ⟨_, rfl, ⟨rfl, by omega, by unfold shP; omega, fun q => by omega⟩⟩
                      ·
                        exact absurd c46 (by decide)
                ·
                  refine sx_iload_n dX12_sortHere_122 rfl ?_
                  refine sx_iconst dX12_sortHere_123 ⟨by decide, by decide⟩ ?_
                  refine sx_icmp_ne (tgt := 131) dX12_sortHere_124 (by decide) (fun c47 => ?_) (fun c47 => ?_)
                  ·
                    refine sx_iconst dX12_sortHere_131 ⟨by decide, by decide⟩ ?_
                    refine sx_ireturn dX12_sortHere_132 ?_
                    exact ⟨_, rfl, ⟨rfl, by omega, by unfold shP; omega, fun q => by omega⟩⟩
                  ·
                    exact absurd c47 (by decide)
            ·
              refine sx_aload_n dX12_sortHere_62 rfl ?_
              refine sx_getI (k := 55) cl_12 fl_X12_397 dX12_sortHere_63 s_224 (by decide) rfl (by decide) ?_
              refine sx_iconst dX12_sortHere_66 ⟨by decide, by decide⟩ ?_
              refine sx_icmp_ne (tgt := 74) dX12_sortHere_67 (by decide) (fun c48 => ?_) (fun c48 => ?_)
              ·
                refine sx_aload_n dX12_sortHere_74 rfl ?_
                refine sx_ldc2 kc_X12_232 ⟨by decide, by decide⟩ dX12_sortHere_75 ?_
                refine sx_callVz lk_X12_355 cl_12 s_224 (by decide) dX12_sortHere_78 (vs := [_]) rfl rfl (Nat.le_of_ble_eq_true rfl) (Nat.le_of_ble_eq_true rfl) rfl (c_X12_isWord _ hI.1 _) (fun x50 h49 zx50 ph49 => ?_)
                obtain ⟨rfl, p_x50⟩ := ph49
                refine sx_if_eq (tgt := 88) dX12_sortHere_81 (by decide) (fun c51 => ?_) (fun c51 => ?_)
                ·
                  refine sx_bipush dX12_sortHere_88 ⟨by decide, by decide, by decide⟩ ?_
                  refine sx_ireturn dX12_sortHere_90 ?_
                  exact ⟨_, rfl, ⟨rfl, by omega, by unfold shP; omega, fun q => by omega⟩⟩
                ·
                  refine sx_iconst dX12_sortHere_84 ⟨by decide, by decide⟩ ?_
                  refine sx_goto (tgt := 90) dX12_sortHere_85 (by decide) ?_
                  refine sx_ireturn dX12_sortHere_90 ?_
                  exact ⟨_, rfl, ⟨rfl, by omega, by unfold shP; omega, fun q => by omega⟩⟩
              ·
                refine sx_iconst dX12_sortHere_70 ⟨by decide, by decide⟩ ?_
                refine sx_goto (tgt := 90) dX12_sortHere_71 (by decide) ?_
                refine sx_ireturn dX12_sortHere_90 ?_
                exact ⟨_, rfl, ⟨rfl, by omega, by unfold shP; omega, fun q => by omega⟩⟩
        ·
          refine sx_iconst dX12_sortHere_40 ⟨by decide, by decide⟩ ?_
          refine sx_ireturn dX12_sortHere_41 ?_
          exact ⟨_, rfl, ⟨rfl, by omega, by unfold shP; omega, fun q => by omega⟩⟩
      ·
        refine sx_iconst dX12_sortHere_28 ⟨by decide, by decide⟩ ?_
        refine sx_ireturn dX12_sortHere_29 ?_
        exact ⟨_, rfl, ⟨rfl, by omega, by unfold shP; omega, fun q => by omega⟩⟩
    ·
      refine sx_iconst dX12_sortHere_18 ⟨by decide, by decide⟩ ?_
      refine sx_ireturn dX12_sortHere_19 ?_
      exact ⟨_, rfl, ⟨rfl, by omega, by unfold shP; omega, fun q => by omega⟩⟩
  ·
    refine sx_iconst dX12_sortHere_8 ⟨by decide, by decide⟩ ?_
    refine sx_ireturn dX12_sortHere_9 ?_
    exact ⟨_, rfl, ⟨rfl, by omega, by unfold shP; omega, fun q => by omega⟩⟩

-- ===== shuffled, exactly =====
def dgI (s : Int) (k : Nat) : Int := sw_w ((sw_w (s.tdiv (pw 10 k))).tmod 10)
def tI (s : Int) (k : Nat) : Int := sw_w (dgI s k - 1)
def shF : Nat → Int → Int → Int
  | 0, _, v => v
  | k + 1, s, v => if v < 0 then v else shF k s (if 0 ≤ tI s k ∧ tI s k ≤ 6 then shI v (tI s k) else -1)
def st0 (n : Int) : Int := if n = 0 then 0 else if n = 1 then 1 else if n = 2 then 12 else 123
def XF (v : Int) : Int := if v < 0 then -1 else if dgs v ≤ 4 then v else -1
def XS (n s : Int) : Int := if (0 ≤ n ∧ n ≤ 3) ∧ (0 ≤ s ∧ s ≤ 9999999) then XF (shF (dgs s).toNat s (st0 n)) else -1
theorem shF_neg {k : Nat} {s v : Int} (h : v < 0) : shF k s v = v := by
  cases k with
  | zero => rfl
  | succ k => show (if v < 0 then v else _) = v; rw [if_pos h]
theorem shF_c {a b : Nat} {s v w : Int} (e : a = b) (q : v = w) : shF a s v = shF b s w := by rw [e, q]
theorem shF_next {k v w s R : Int} (hk : 0 ≤ k) (hv : ¬ v < 0) (j : shF (k + 1).toNat s v = R) (hw : w = if 0 ≤ tI s k.toNat ∧ tI s k.toNat ≤ 6 then shI v (tI s k.toNat) else -1) : shF (k + -1 + 1).toNat s w = R := by
  rw [show (k + -1 + 1).toNat = k.toNat by omega, hw, ← j, show (k + 1).toNat = k.toNat + 1 by omega]
  show _ = (if v < 0 then v else _)
  rw [if_neg hv]
theorem XS_1 {n s : Int} (h : ¬ (0 ≤ n ∧ n ≤ 3)) : -1 = XS n s := by
  unfold XS
  rw [if_neg (fun q => h q.1)]
theorem XS_2 {n s : Int} (h : ¬ (0 ≤ s ∧ s ≤ 9999999)) : -1 = XS n s := by
  unfold XS
  rw [if_neg (fun q => h q.2)]
theorem XS_r {n s v k z : Int} (hn : 0 ≤ n ∧ n ≤ 3) (hs : 0 ≤ s ∧ s ≤ 9999999) (j : shF (k + 1).toNat s v = shF (dgs s).toNat s (st0 n)) (hk : -1 ≤ k) (e : k < 0 ∨ v < 0) (hz : z = XF v) : z = XS n s := by
  unfold XS
  rw [if_pos ⟨hn, hs⟩, ← j, hz]
  rcases e with e | e
  · rw [show (k + 1).toNat = 0 by omega]; rfl
  · rw [shF_neg e]

set_option maxRecDepth 20000 in
set_option maxHeartbeats 4000000 in
theorem x_X12_shuffled {G : sw_G} (d : Nat) {h0 : sw_H} (hJ : mI h0) (y1 y2 : Int) (hB : mB h0)  : sw_E G NH SH (d + 3) mX12_shuffled 0 [some (sw_r 224), some (sw_i y1), some (sw_i y2), none, none, none] [] h0 (sw_Qi (fun z h' => mK (prW [67] [262]) h0 h' ∧ (mB h') ∧ (h' 224 100 = h0 224 100) ∧ (z = XS y1 y2))) := by
  have hI : mK (prW [67] [262]) h0 h0 := mK.refl hJ
  refine sx_iload_n dX12_shuffled_0 rfl ?_
  refine sx_iconst dX12_shuffled_1 ⟨by decide, by decide⟩ ?_
  refine sx_iconst dX12_shuffled_2 ⟨by decide, by decide⟩ ?_
  refine sx_callSz lk_X12_500 dX12_shuffled_3 (vs := [_, _, _]) rfl rfl (Nat.le_of_ble_eq_true rfl) (Nat.le_of_ble_eq_true rfl) rfl (c_X12_isIn _ hI.1 _ _ _) (fun x2 h1 zx2 ph1 => ?_)
  obtain ⟨rfl, p_x2⟩ := ph1
  refine sx_if_eq (tgt := 20) dX12_shuffled_6 (by decide) (fun c3 => ?_) (fun c3 => ?_)
  ·
    replace p_x2 := mt p_x2.mpr (show ¬ (x2 = 1) by rw [c3]; decide)
    clear zx2
    refine sx_iconst dX12_shuffled_20 ⟨by decide, by decide⟩ ?_
    refine sx_ireturn dX12_shuffled_21 ?_
    exact ⟨_, rfl, ⟨hI, mB_mK hI rfl rfl hJ hB, hI.2 224 100 rfl, by first | exact XS_1 p_x2 | exact XS_2 p_x5 | exact XS_r p_x2 p_x5 jf jk (by omega) (by first | (unfold XF; rw [if_pos (by omega)]; done) | (unfold XF; rw [if_neg (by omega), if_pos (by omega)]; done) | (unfold XF; rw [if_neg (by omega), if_neg (by omega)]))⟩⟩
  ·
    have vx2 : x2 = 1 := by rcases zx2 with q | q; (exact absurd q c3); exact q
    replace p_x2 := p_x2.mp vx2
    clear zx2
    refine sx_iload_n dX12_shuffled_9 rfl ?_
    refine sx_iconst dX12_shuffled_10 ⟨by decide, by decide⟩ ?_
    refine sx_ldcw kc_X12_647 ⟨by decide, by decide⟩ dX12_shuffled_11 ?_
    refine sx_callSz lk_X12_500 dX12_shuffled_14 (vs := [_, _, _]) rfl rfl (Nat.le_of_ble_eq_true rfl) (Nat.le_of_ble_eq_true rfl) rfl (c_X12_isIn _ hI.1 _ _ _) (fun x5 h4 zx5 ph4 => ?_)
    obtain ⟨rfl, p_x5⟩ := ph4
    refine sx_if_ne (tgt := 22) dX12_shuffled_17 (by decide) (fun c6 => ?_) (fun c6 => ?_)
    ·
      have vx5 : x5 = 1 := by rcases zx5 with q | q; (exact absurd q c6); exact q
      replace p_x5 := p_x5.mp vx5
      clear zx5
      refine sx_iload_n dX12_shuffled_22 rfl ?_
      refine sx_callSi lk_X12_629 dX12_shuffled_23 (vs := [_]) rfl rfl (Nat.le_of_ble_eq_true rfl) (Nat.le_of_ble_eq_true rfl) rfl (c_X12_startOf _ hI.1 _) (fun x8 h7 ph7 => ?_)
      obtain ⟨rfl, p_x8⟩ := ph7
      have vs := V_start p_x8
      have vr := V_rng vs.1
      refine sx_istore_n dX12_shuffled_26 (by decide) ?_
      refine sx_iload_n dX12_shuffled_27 rfl ?_
      refine sx_callSi lk_X12_610 dX12_shuffled_28 (vs := [_]) rfl rfl (Nat.le_of_ble_eq_true rfl) (Nat.le_of_ble_eq_true rfl) rfl (c_X12_digitsOf _ hI.1 _ (by first | omega | (rw [Int.tmod_eq_emod_of_nonneg (by omega)]; omega) | (rw [Int.tdiv_eq_ediv_of_nonneg (by omega)]; omega))) (fun x10 h9 ph9 => ?_)
      obtain ⟨rfl, p_x10⟩ := ph9
      have d7 := dgs_7 y2
      refine sx_iconst dX12_shuffled_31 ⟨by decide, by decide⟩ ?_
      refine sx_isub dX12_shuffled_32 ?_
      refine sy_topw (by omega) ?_
      refine sy_top (fun v11 ev11 => ?_)
      refine sx_istore dX12_shuffled_33 (by decide) ?_
      refine sx_loop2 (fun (h : sw_H) (v : Int) (k : Int) => (mK (prW [67] [262]) h0 h) ∧ (-1 ≤ k) ∧ (k ≤ 6) ∧ (v = -1 ∨ V v) ∧ (-1 ≤ v ∧ v ≤ 99999) ∧ (shF (k + 1).toNat y2 v = shF (dgs y2).toNat y2 (st0 y1))) (fun (h : sw_H) (v : Int) (k : Int) => (k + 1).toNat) (fun (h : sw_H) (v : Int) (k : Int) => sw_E G NH SH (d + 3) mX12_shuffled 35 [some (sw_r 224), some (sw_i y1), some (sw_i y2), some (sw_i v), some (sw_i k), none] [] h (sw_Qi (fun z h' => mK (prW [67] [262]) h0 h' ∧ (mB h') ∧ (h' 224 100 = h0 224 100) ∧ (z = XS y1 y2)))) ?_ _ _ _ ?_
      · rintro h12 v_13 k_14 ⟨Ih12, jk, jk6, jv, jv0, jf⟩ ihh12
        try dsimp only at ihh12
        refine sx_iload dX12_shuffled_35 rfl ?_
        refine sx_if_lt (tgt := 89) dX12_shuffled_37 (by decide) (fun c15 => ?_) (fun c15 => ?_)
        ·
          refine sx_iload_n dX12_shuffled_89 rfl ?_
          refine sx_if_lt (tgt := 101) dX12_shuffled_90 (by decide) (fun c16 => ?_) (fun c16 => ?_)
          ·
            refine sx_iconst dX12_shuffled_101 ⟨by decide, by decide⟩ ?_
            refine sx_goto (tgt := 106) dX12_shuffled_102 (by decide) ?_
            refine sx_ireturn dX12_shuffled_106 ?_
            exact ⟨_, rfl, ⟨Ih12, mB_mK Ih12 rfl rfl hJ hB, Ih12.2 224 100 rfl, by first | exact XS_1 p_x2 | exact XS_2 p_x5 | exact XS_r p_x2 p_x5 jf jk (by omega) (by first | (unfold XF; rw [if_pos (by omega)]; done) | (unfold XF; rw [if_neg (by omega), if_pos (by omega)]; done) | (unfold XF; rw [if_neg (by omega), if_neg (by omega)]))⟩⟩
          ·
            refine sx_iload_n dX12_shuffled_93 rfl ?_
            refine sx_callSi lk_X12_610 dX12_shuffled_94 (vs := [_]) rfl rfl (Nat.le_of_ble_eq_true rfl) (Nat.le_of_ble_eq_true rfl) rfl (c_X12_digitsOf _ Ih12.1 _ (by first | omega | (rw [Int.tmod_eq_emod_of_nonneg (by omega)]; omega) | (rw [Int.tdiv_eq_ediv_of_nonneg (by omega)]; omega))) (fun x18 h17 ph17 => ?_)
            obtain ⟨rfl, p_x18⟩ := ph17
            refine sx_iconst dX12_shuffled_97 ⟨by decide, by decide⟩ ?_
            refine sx_icmp_le (tgt := 105) dX12_shuffled_98 (by decide) (fun c19 => ?_) (fun c19 => ?_)
            ·
              refine sx_iload_n dX12_shuffled_105 rfl ?_
              refine sx_ireturn dX12_shuffled_106 ?_
              exact ⟨_, rfl, ⟨Ih12, mB_mK Ih12 rfl rfl hJ hB, Ih12.2 224 100 rfl, by first | exact XS_1 p_x2 | exact XS_2 p_x5 | exact XS_r p_x2 p_x5 jf jk (by omega) (by first | (unfold XF; rw [if_pos (by omega)]; done) | (unfold XF; rw [if_neg (by omega), if_pos (by omega)]; done) | (unfold XF; rw [if_neg (by omega), if_neg (by omega)]))⟩⟩
            ·
              refine sx_iconst dX12_shuffled_101 ⟨by decide, by decide⟩ ?_
              refine sx_goto (tgt := 106) dX12_shuffled_102 (by decide) ?_
              refine sx_ireturn dX12_shuffled_106 ?_
              exact ⟨_, rfl, ⟨Ih12, mB_mK Ih12 rfl rfl hJ hB, Ih12.2 224 100 rfl, by first | exact XS_1 p_x2 | exact XS_2 p_x5 | exact XS_r p_x2 p_x5 jf jk (by omega) (by first | (unfold XF; rw [if_pos (by omega)]; done) | (unfold XF; rw [if_neg (by omega), if_pos (by omega)]; done) | (unfold XF; rw [if_neg (by omega), if_neg (by omega)]))⟩⟩
        ·
          refine sx_iload_n dX12_shuffled_40 rfl ?_
          refine sx_if_lt (tgt := 89) dX12_shuffled_41 (by decide) (fun c20 => ?_) (fun c20 => ?_)
          ·
            refine sx_iload_n dX12_shuffled_89 rfl ?_
            refine sx_if_lt (tgt := 101) dX12_shuffled_90 (by decide) (fun c21 => ?_) (fun c21 => ?_)
            ·
              refine sx_iconst dX12_shuffled_101 ⟨by decide, by decide⟩ ?_
              refine sx_goto (tgt := 106) dX12_shuffled_102 (by decide) ?_
              refine sx_ireturn dX12_shuffled_106 ?_
              exact ⟨_, rfl, ⟨Ih12, mB_mK Ih12 rfl rfl hJ hB, Ih12.2 224 100 rfl, by first | exact XS_1 p_x2 | exact XS_2 p_x5 | exact XS_r p_x2 p_x5 jf jk (by omega) (by first | (unfold XF; rw [if_pos (by omega)]; done) | (unfold XF; rw [if_neg (by omega), if_pos (by omega)]; done) | (unfold XF; rw [if_neg (by omega), if_neg (by omega)]))⟩⟩
            ·
              refine sx_iload_n dX12_shuffled_93 rfl ?_
              refine sx_callSi lk_X12_610 dX12_shuffled_94 (vs := [_]) rfl rfl (Nat.le_of_ble_eq_true rfl) (Nat.le_of_ble_eq_true rfl) rfl (c_X12_digitsOf _ Ih12.1 _ (by first | omega | (rw [Int.tmod_eq_emod_of_nonneg (by omega)]; omega) | (rw [Int.tdiv_eq_ediv_of_nonneg (by omega)]; omega))) (fun x23 h22 ph22 => ?_)
              obtain ⟨rfl, p_x23⟩ := ph22
              refine sx_iconst dX12_shuffled_97 ⟨by decide, by decide⟩ ?_
              refine sx_icmp_le (tgt := 105) dX12_shuffled_98 (by decide) (fun c24 => ?_) (fun c24 => ?_)
              ·
                refine sx_iload_n dX12_shuffled_105 rfl ?_
                refine sx_ireturn dX12_shuffled_106 ?_
                exact ⟨_, rfl, ⟨Ih12, mB_mK Ih12 rfl rfl hJ hB, Ih12.2 224 100 rfl, by first | exact XS_1 p_x2 | exact XS_2 p_x5 | exact XS_r p_x2 p_x5 jf jk (by omega) (by first | (unfold XF; rw [if_pos (by omega)]; done) | (unfold XF; rw [if_neg (by omega), if_pos (by omega)]; done) | (unfold XF; rw [if_neg (by omega), if_neg (by omega)]))⟩⟩
              ·
                refine sx_iconst dX12_shuffled_101 ⟨by decide, by decide⟩ ?_
                refine sx_goto (tgt := 106) dX12_shuffled_102 (by decide) ?_
                refine sx_ireturn dX12_shuffled_106 ?_
                exact ⟨_, rfl, ⟨Ih12, mB_mK Ih12 rfl rfl hJ hB, Ih12.2 224 100 rfl, by first | exact XS_1 p_x2 | exact XS_2 p_x5 | exact XS_r p_x2 p_x5 jf jk (by omega) (by first | (unfold XF; rw [if_pos (by omega)]; done) | (unfold XF; rw [if_neg (by omega), if_pos (by omega)]; done) | (unfold XF; rw [if_neg (by omega), if_neg (by omega)]))⟩⟩
          ·
            refine sx_iload_n dX12_shuffled_44 rfl ?_
            refine sx_bipush dX12_shuffled_45 ⟨by decide, by decide, by decide⟩ ?_
            refine sx_iload dX12_shuffled_47 rfl ?_
            refine sx_callSi lk_X12_598 dX12_shuffled_49 (vs := [_, _]) rfl rfl (Nat.le_of_ble_eq_true rfl) (Nat.le_of_ble_eq_true rfl) rfl (c_X12_power _ Ih12.1 _ _ (by first | omega | (rw [Int.tmod_eq_emod_of_nonneg (by omega)]; omega) | (rw [Int.tdiv_eq_ediv_of_nonneg (by omega)]; omega))) (fun x26 h25 ph25 => ?_)
            obtain ⟨rfl, p_x26⟩ := ph25
            have p10 := pw_10 (n := k_14) (by omega) (by omega)
            refine sx_idiv dX12_shuffled_52 (by omega) ?_
            refine sx_bipush dX12_shuffled_53 ⟨by decide, by decide, by decide⟩ ?_
            refine sx_irem dX12_shuffled_55 (by decide) ?_
            refine sx_iconst dX12_shuffled_56 ⟨by decide, by decide⟩ ?_
            refine sx_isub dX12_shuffled_57 ?_
            refine sy_top (fun v27 ev27 => ?_)
            refine sx_istore dX12_shuffled_58 (by decide) ?_
            have et : tI y2 k_14.toNat = v27 := by rw [ev27, p_x26]; rfl
            refine sx_iload dX12_shuffled_60 rfl ?_
            refine sx_iconst dX12_shuffled_62 ⟨by decide, by decide⟩ ?_
            refine sx_bipush dX12_shuffled_63 ⟨by decide, by decide, by decide⟩ ?_
            refine sx_callSz lk_X12_500 dX12_shuffled_65 (vs := [_, _, _]) rfl rfl (Nat.le_of_ble_eq_true rfl) (Nat.le_of_ble_eq_true rfl) rfl (c_X12_isIn _ Ih12.1 _ _ _) (fun x29 h28 zx29 ph28 => ?_)
            obtain ⟨rfl, p_x29⟩ := ph28
            refine sx_if_eq (tgt := 81) dX12_shuffled_68 (by decide) (fun c30 => ?_) (fun c30 => ?_)
            ·
              replace p_x29 := mt p_x29.mpr (show ¬ (x29 = 1) by rw [c30]; decide)
              clear zx29
              refine sx_iconst dX12_shuffled_81 ⟨by decide, by decide⟩ ?_
              refine sx_istore_n dX12_shuffled_82 (by decide) ?_
              refine sx_iinc dX12_shuffled_83 (by decide) rfl ?_
              rw [sw_w_id (by omega) (by omega)]
              refine sx_goto (tgt := 35) dX12_shuffled_86 (by decide) ?_
              refine sx_kill 5 ?_
              exact ihh12 _ _ _ ⟨Ih12, by omega, by omega, by first | exact jv2 | exact Or.inl rfl, by omega, by first | exact shF_next (by omega) (by omega) jf (by rw [if_pos (by rw [et]; exact p_x29), et]; exact z_h31) | exact shF_next (by omega) (by omega) jf (by rw [if_neg (by rw [et]; exact p_x29)])⟩ (by exact sy_dec (by omega) (by omega))
            ·
              have vx29 : x29 = 1 := by rcases zx29 with q | q; (exact absurd q c30); exact q
              replace p_x29 := p_x29.mp vx29
              clear zx29
              refine sx_aload_n dX12_shuffled_71 rfl ?_
              refine sx_iload_n dX12_shuffled_72 rfl ?_
              refine sx_iload dX12_shuffled_73 rfl ?_
              refine sx_callVi lk_X12_616 cl_12 s_224 (by decide) dX12_shuffled_75 (vs := [_, _]) rfl rfl (Nat.le_of_ble_eq_true rfl) (Nat.le_of_ble_eq_true rfl) rfl (c_X12_shuffledBy _ Ih12.1 _ _ (jv.resolve_left (by omega)) (by omega)) (fun x32 h31 ph31 => ?_)
              obtain ⟨Kh31, z_h31⟩ := ph31
              have Ih31 := Ih12.tr Kh31 (prW_sub rfl rfl)
              have jv2 : x32 = -1 ∨ V x32 := by rw [z_h31]; exact shI_V (jv.resolve_left (by omega)) (by omega)
              have jvr : -1 ≤ x32 ∧ x32 ≤ 99999 := by rcases jv2 with q | q; omega; (have := V_rng q; omega)
              refine sx_goto (tgt := 82) dX12_shuffled_78 (by decide) ?_
              refine sx_istore_n dX12_shuffled_82 (by decide) ?_
              refine sx_iinc dX12_shuffled_83 (by decide) rfl ?_
              rw [sw_w_id (by omega) (by omega)]
              refine sx_goto (tgt := 35) dX12_shuffled_86 (by decide) ?_
              refine sx_kill 5 ?_
              exact ihh12 _ _ _ ⟨Ih31, by omega, by omega, by first | exact jv2 | exact Or.inl rfl, by omega, by first | exact shF_next (by omega) (by omega) jf (by rw [if_pos (by rw [et]; exact p_x29), et]; exact z_h31) | exact shF_next (by omega) (by omega) jf (by rw [if_neg (by rw [et]; exact p_x29)])⟩ (by exact sy_dec (by omega) (by omega))
      · exact ⟨hI, by omega, by omega, by exact Or.inr vs.1, by omega, by exact shF_c (by omega) p_x8⟩
    ·
      replace p_x5 := mt p_x5.mpr (show ¬ (x5 = 1) by rw [c6]; decide)
      clear zx5
      refine sx_iconst dX12_shuffled_20 ⟨by decide, by decide⟩ ?_
      refine sx_ireturn dX12_shuffled_21 ?_
      exact ⟨_, rfl, ⟨hI, mB_mK hI rfl rfl hJ hB, hI.2 224 100 rfl, by first | exact XS_1 p_x2 | exact XS_2 p_x5 | exact XS_r p_x2 p_x5 jf jk (by omega) (by first | (unfold XF; rw [if_pos (by omega)]; done) | (unfold XF; rw [if_neg (by omega), if_pos (by omega)]; done) | (unfold XF; rw [if_neg (by omega), if_neg (by omega)]))⟩⟩

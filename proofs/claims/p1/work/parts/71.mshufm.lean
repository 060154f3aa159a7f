-- ===== the shuffles' methods =====
theorem ior01 {x y : Int} (hx : x = 0 ∨ x = 1) (hy : y = 0 ∨ y = 1) : ((Int32.ofInt x ||| Int32.ofInt y).toInt = 0 ∧ x = 0 ∧ y = 0) ∨ ((Int32.ofInt x ||| Int32.ofInt y).toInt = 1 ∧ (x = 1 ∨ y = 1)) := by
  rcases hx with rfl | rfl <;> rcases hy with rfl | rfl <;> decide
theorem pw_10 {n : Int} (h0 : 0 ≤ n) (h1 : n ≤ 6) : 1 ≤ pw 10 n.toNat := by
  have : n = 0 ∨ n = 1 ∨ n = 2 ∨ n = 3 ∨ n = 4 ∨ n = 5 ∨ n = 6 := by omega
  rcases this with rfl | rfl | rfl | rfl | rfl | rfl | rfl <;> decide
theorem dgs_7 (v : Int) : 0 ≤ dgs v ∧ dgs v ≤ 7 := by unfold dgs; (repeat' split) <;> omega
theorem LV_0 {h : sw_H} {to : Int} (e : ∀ j : Nat, (j : Int) < h 224 79 → h 271 j = if (j : Int) = to then 0 else 100000000) : LV h to := by
  refine ⟨fun k hk => ?_, fun k hk => ?_⟩
  · rw [e k hk]
    by_cases q : (k : Int) = to
    · rw [if_pos q]; exact ⟨by decide, by decide, fun _ => q, fun _ => rfl⟩
    · rw [if_neg q]; exact ⟨by decide, by decide, fun q2 => absurd q2 (by decide), fun q2 => absurd q2 q⟩
  · rw [e k hk]
    by_cases q : (k : Int) = to
    · exact Or.inr (Or.inl q)
    · rw [if_neg q]; exact Or.inl rfl
set_option maxRecDepth 20000 in
set_option maxHeartbeats 4000000 in
theorem c_X12_shuffledBy {G : sw_G} (d : Nat) {h0 : sw_H} (hJ : mI h0) (y1 y2 : Int) (hv : V y1) (ht : 0 ≤ y2 ∧ y2 ≤ 6)  : sw_E G NH SH (d + 2) mX12_shuffledBy 0 [some (sw_r 224), some (sw_i y1), some (sw_i y2), none, none, none] [] h0 (sw_Qi (fun z h' => mK (prW [67] [262]) h0 h' ∧ (z = shI y1 y2))) := by
  have hI : mK (prW [67] [262]) h0 h0 := mK.refl hJ
  obtain ⟨vr1, vr2, vr3, vr4⟩ := V_rng hv
  have tkb : 1 ≤ tk y2 ∧ tk y2 ≤ 3 := by unfold tk; omega
  have ldb : 0 ≤ ld y2 ∧ ld y2 ≤ 3 := by unfold ld; omega
  refine sx_iload_n dX12_shuffledBy_0 rfl ?_
  refine sx_callSi lk_X12_610 dX12_shuffledBy_1 (vs := [_]) rfl rfl (Nat.le_of_ble_eq_true rfl) (Nat.le_of_ble_eq_true rfl) rfl (c_X12_digitsOf _ hI.1 _ (by first | omega | (rw [Int.tmod_eq_emod_of_nonneg (by omega)]; omega) | (rw [Int.tdiv_eq_ediv_of_nonneg (by omega)]; omega))) (fun x2 h1 ph1 => ?_)
  obtain ⟨rfl, p_x2⟩ := ph1
  refine sx_istore_n dX12_shuffledBy_4 (by decide) ?_
  refine sx_iload_n dX12_shuffledBy_5 rfl ?_
  refine sx_iload_n dX12_shuffledBy_6 rfl ?_
  refine sx_callSi lk_X12_443 dX12_shuffledBy_7 (vs := [_]) rfl rfl (Nat.le_of_ble_eq_true rfl) (Nat.le_of_ble_eq_true rfl) rfl (c_X12_taken _ hI.1 _) (fun x4 h3 ph3 => ?_)
  obtain ⟨rfl, p_x4⟩ := ph3
  refine sx_icmp_lt (tgt := 28) dX12_shuffledBy_10 (by decide) (fun c5 => ?_) (fun c5 => ?_)
  ·
    refine sx_iconst dX12_shuffledBy_28 ⟨by decide, by decide⟩ ?_
    refine sx_ireturn dX12_shuffledBy_29 ?_
    exact ⟨_, rfl, ⟨hI, (shI_bad hv ht (by omega)).symm⟩⟩
  ·
    refine sx_iload_n dX12_shuffledBy_13 rfl ?_
    refine sx_iload_n dX12_shuffledBy_14 rfl ?_
    refine sx_callSi lk_X12_443 dX12_shuffledBy_15 (vs := [_]) rfl rfl (Nat.le_of_ble_eq_true rfl) (Nat.le_of_ble_eq_true rfl) rfl (c_X12_taken _ hI.1 _) (fun x7 h6 ph6 => ?_)
    obtain ⟨rfl, p_x7⟩ := ph6
    refine sx_isub dX12_shuffledBy_18 ?_
    refine sy_topw (by omega) ?_
    refine sx_iload_n dX12_shuffledBy_19 rfl ?_
    refine sx_callSi lk_X12_446 dX12_shuffledBy_20 (vs := [_]) rfl rfl (Nat.le_of_ble_eq_true rfl) (Nat.le_of_ble_eq_true rfl) rfl (c_X12_laidBy _ hI.1 _) (fun x9 h8 ph8 => ?_)
    obtain ⟨rfl, p_x9⟩ := ph8
    refine sx_iadd dX12_shuffledBy_23 ?_
    refine sy_topw (by omega) ?_
    refine sx_iconst dX12_shuffledBy_24 ⟨by decide, by decide⟩ ?_
    refine sx_icmp_le (tgt := 30) dX12_shuffledBy_25 (by decide) (fun c10 => ?_) (fun c10 => ?_)
    ·
      obtain ⟨ok1, ok2, ok3⟩ := shI_ok hv ht (by omega)
      refine sx_aload_n dX12_shuffledBy_30 rfl ?_
      refine sx_iconst dX12_shuffledBy_31 ⟨by decide, by decide⟩ ?_
      refine sy_putI (k := 67) cl_12 fl_X12_522 dX12_shuffledBy_32 s_224 (by decide) rfl (by decide) rfl rfl (fun h11 eh11 => ?_)
      have Ih11 := hI.up eh11 trivial rfl
      have th11_224_67 := eh11.1
      refine sx_iload_n dX12_shuffledBy_35 rfl ?_
      refine sx_iconst dX12_shuffledBy_36 ⟨by decide, by decide⟩ ?_
      refine sx_isub dX12_shuffledBy_37 ?_
      refine sy_topw (by omega) ?_
      refine sy_top (fun v12 ev12 => ?_)
      refine sx_istore dX12_shuffledBy_38 (by decide) ?_
      refine sx_loop1 (fun (h : sw_H) (k : Int) => (mK (prW [67] [262]) h0 h) ∧ (-1 ≤ k) ∧ (k < dgs y1) ∧ (h 224 67 = dgs y1 - 1 - k) ∧ (∀ j : Nat, (j : Int) < dgs y1 - 1 - k → h 262 j = dgt y1 (dgs y1) j)) (fun (h : sw_H) (k : Int) => (k + 1).toNat) (fun (h : sw_H) (k : Int) => sw_E G NH SH (d + 2) mX12_shuffledBy 40 [some (sw_r 224), some (sw_i y1), some (sw_i y2), some (sw_i x2), some (sw_i k), none] [] h (sw_Qi (fun z h' => mK (prW [67] [262]) h0 h' ∧ (z = shI y1 y2)))) ?_ _ _ ?_
      · rintro h13 k_14 ⟨Ih13, jk0, jk1, jc, jd⟩ ihh13
        try dsimp only at ihh13
        refine sx_iload dX12_shuffledBy_40 rfl ?_
        refine sx_if_lt (tgt := 67) dX12_shuffledBy_42 (by decide) (fun c15 => ?_) (fun c15 => ?_)
        ·
          refine sx_aload_n dX12_shuffledBy_67 rfl ?_
          refine sx_iload_n dX12_shuffledBy_68 rfl ?_
          refine sx_callVv lk_X12_525 cl_12 s_224 (by decide) dX12_shuffledBy_69 (vs := [_]) rfl rfl (Nat.le_of_ble_eq_true rfl) (Nat.le_of_ble_eq_true rfl) rfl (c_X12_shuffle _ Ih13.1 _ (by omega) (by omega)) (fun h16 ph16 => ?_)
          obtain ⟨Kh16, c_h16, v_h16⟩ := ph16
          have Ih16 := Ih13.tr Kh16 (prW_sub rfl rfl)
          have hc : ∀ k : Nat, (k : Int) < dgs y1 - tk y2 + ld y2 → h16 262 k = shC y2 (dgs y1) (dgt y1 (dgs y1)) k := fun k hk => by rw [v_h16, show h13 224 67 = dgs y1 by omega]; exact shC_congr ht (by omega) (fun j hj => jd j (by omega)) k hk
          refine sx_iconst dX12_shuffledBy_72 ⟨by decide, by decide⟩ ?_
          refine sx_istore dX12_shuffledBy_73 (by decide) ?_
          refine sx_iconst dX12_shuffledBy_75 ⟨by decide, by decide⟩ ?_
          refine sx_istore dX12_shuffledBy_76 (by decide) ?_
          refine sx_loop2 (fun (h : sw_H) (its : Int) (k : Int) => (h16 = h) ∧ (0 ≤ k) ∧ (k ≤ dgs y1 - tk y2 + ld y2) ∧ (its = fo (shC y2 (dgs y1) (dgt y1 (dgs y1))) k.toNat)) (fun (h : sw_H) (its : Int) (k : Int) => (10 - k).toNat) (fun (h : sw_H) (its : Int) (k : Int) => sw_E G NH SH (d + 2) mX12_shuffledBy 78 [some (sw_r 224), some (sw_i y1), some (sw_i y2), some (sw_i x2), some (sw_i its), some (sw_i k)] [] h (sw_Qi (fun z h' => mK (prW [67] [262]) h0 h' ∧ (z = shI y1 y2)))) ?_ _ _ _ ?_
          · rintro h18 its_19 k_20 ⟨rfl, jk, jk2, ji⟩ ihh18
            try dsimp only at ihh18
            refine sx_iload dX12_shuffledBy_78 rfl ?_
            refine sx_aload_n dX12_shuffledBy_80 rfl ?_
            refine sx_getI (k := 67) cl_12 fl_X12_522 dX12_shuffledBy_81 s_224 (by decide) rfl (by decide) ?_
            refine sx_icmp_ge (tgt := 108) dX12_shuffledBy_84 (by decide) (fun c21 => ?_) (fun c21 => ?_)
            ·
              refine sx_iload dX12_shuffledBy_108 rfl ?_
              refine sx_ireturn dX12_shuffledBy_110 ?_
              exact ⟨_, rfl, ⟨Ih16, by rw [ok1, show (dgs y1 - tk y2 + ld y2).toNat = (k_20).toNat by omega]; exact ji⟩⟩
            ·
              have b3 := ok3 (k_20).toNat (by omega)
              have c3 := hc (k_20).toNat (by omega)
              rw [← ji] at b3
              refine sx_bipush dX12_shuffledBy_87 ⟨by decide, by decide, by decide⟩ ?_
              refine sx_iload dX12_shuffledBy_89 rfl ?_
              refine sx_imul dX12_shuffledBy_91 ?_
              refine sy_topw (by omega) ?_
              refine sx_aload_n dX12_shuffledBy_92 rfl ?_
              refine sx_getS (k := 62) (t := 262) cl_12 fl_X12_127 dX12_shuffledBy_93 s_224 (by decide) rfl (by decide) ?_
              refine sx_iload dX12_shuffledBy_96 rfl ?_
              refine sx_iaload dX12_shuffledBy_98 s_262 (by decide) (by decide) ⟨by omega, by omega⟩ ?_
              refine sx_iadd dX12_shuffledBy_99 ?_
              refine sy_topw (by omega) ?_
              refine sy_top (fun v22 ev22 => ?_)
              refine sx_istore dX12_shuffledBy_100 (by decide) ?_
              have ji2 : v22 = fo (shC y2 (dgs y1) (dgt y1 (dgs y1))) (k_20 + 1).toNat := by rw [show (k_20 + 1).toNat = (k_20).toNat + 1 by omega]; simp only [fo]; rw [← ji, ← c3]; omega
              refine sx_iinc dX12_shuffledBy_102 (by decide) rfl ?_
              rw [sw_w_id (by omega) (by omega)]
              refine sx_goto (tgt := 78) dX12_shuffledBy_105 (by decide) ?_
              exact ihh18 _ _ _ ⟨rfl, by omega, by omega, by exact ji2⟩ (by exact sy_dec (by omega) (by omega))
          · exact ⟨rfl, by omega, by omega, by rfl⟩
        ·
          refine sx_aload_n dX12_shuffledBy_45 rfl ?_
          refine sx_iload_n dX12_shuffledBy_46 rfl ?_
          refine sx_bipush dX12_shuffledBy_47 ⟨by decide, by decide, by decide⟩ ?_
          refine sx_iload dX12_shuffledBy_49 rfl ?_
          refine sx_callSi lk_X12_598 dX12_shuffledBy_51 (vs := [_, _]) rfl rfl (Nat.le_of_ble_eq_true rfl) (Nat.le_of_ble_eq_true rfl) rfl (c_X12_power _ Ih13.1 _ _ (by first | omega | (rw [Int.tmod_eq_emod_of_nonneg (by omega)]; omega) | (rw [Int.tdiv_eq_ediv_of_nonneg (by omega)]; omega))) (fun x24 h23 ph23 => ?_)
          obtain ⟨rfl, p_x24⟩ := ph23
          have dw1 := dgt_w (v := y1) (k := k_14) ⟨vr1, vr2⟩ (by omega) p_x24
          refine sx_idiv dX12_shuffledBy_54 (by exact dw1.1) ?_
          refine sx_bipush dX12_shuffledBy_55 ⟨by decide, by decide, by decide⟩ ?_
          refine sx_irem dX12_shuffledBy_57 (by decide) ?_
          refine sx_callVv lk_X12_534 cl_12 s_224 (by decide) dX12_shuffledBy_58 (vs := [_]) rfl rfl (Nat.le_of_ble_eq_true rfl) (Nat.le_of_ble_eq_true rfl) rfl (c_X12_push _ Ih13.1 _ (by first | omega | (rw [Int.tmod_eq_emod_of_nonneg (by omega)]; omega) | (rw [Int.tdiv_eq_ediv_of_nonneg (by omega)]; omega))) (fun h25 ph25 => ?_)
          obtain ⟨Kh25, c_h25, v_h25⟩ := ph25
          have Ih25 := Ih13.tr Kh25 (prW_sub rfl rfl)
          refine sx_iinc dX12_shuffledBy_61 (by decide) rfl ?_
          rw [sw_w_id (by omega) (by omega)]
          have jd2 : ∀ j : Nat, (j : Int) < dgs y1 - 1 - (k_14 + (-1)) → h25 262 j = dgt y1 (dgs y1) j := fun j hj => by rw [v_h25]; by_cases q : (j : Int) = h13 224 67; (rw [if_pos q, dw1.2]; unfold dgt; rw [show (dgs y1 - 1 - (j : Int)).toNat = (k_14).toNat by omega]); (rw [if_neg q]; exact jd j (by omega))
          refine sx_goto (tgt := 40) dX12_shuffledBy_64 (by decide) ?_
          exact ihh13 _ _ ⟨Ih25, by omega, by omega, by omega, by exact jd2⟩ (by exact sy_dec (by omega) (by omega))
      · exact ⟨Ih11, by omega, by omega, by omega, by (intro j hj; omega)⟩
    ·
      refine sx_iconst dX12_shuffledBy_28 ⟨by decide, by decide⟩ ?_
      refine sx_ireturn dX12_shuffledBy_29 ?_
      exact ⟨_, rfl, ⟨hI, (shI_bad hv ht (by omega)).symm⟩⟩
set_option maxRecDepth 20000 in
set_option maxHeartbeats 4000000 in
theorem c_X12_indexOf {G : sw_G} (d : Nat) {h0 : sw_H} (hJ : mI h0) (y1 : Int)  : sw_E G NH SH (d) mX12_indexOf 0 [some (sw_r 224), some (sw_i y1), none] [] h0 (sw_Qi (fun z h' => h0 = h' ∧ (-1 ≤ z ∧ z < h0 224 79) ∧ (0 ≤ z → h0 270 z.toNat = y1) ∧ (z = -1 → ∀ k : Nat, (k : Int) < h0 224 79 → h0 270 k ≠ y1))) := by
  have hI : mK (prW [] []) h0 h0 := mK.refl hJ
  have r79 : (0 : Int) ≤ h0 224 79 ∧ h0 224 79 ≤ 364 := hJ 224 79
  refine sx_iconst dX12_indexOf_0 ⟨by decide, by decide⟩ ?_
  refine sx_istore_n dX12_indexOf_1 (by decide) ?_
  refine sx_loop1 (fun (h : sw_H) (k : Int) => (h0 = h) ∧ (0 ≤ k) ∧ (∀ j : Nat, (j : Int) < k → h0 270 j ≠ y1)) (fun (h : sw_H) (k : Int) => (400 - k).toNat) (fun (h : sw_H) (k : Int) => sw_E G NH SH (d) mX12_indexOf 2 [some (sw_r 224), some (sw_i y1), some (sw_i k)] [] h (sw_Qi (fun z h' => h0 = h' ∧ (-1 ≤ z ∧ z < h0 224 79) ∧ (0 ≤ z → h0 270 z.toNat = y1) ∧ (z = -1 → ∀ k : Nat, (k : Int) < h0 224 79 → h0 270 k ≠ y1)))) ?_ _ _ ?_
  · rintro h1 k_2 ⟨rfl, k0, kn⟩ ihh1
    try dsimp only at ihh1
    refine sx_iload_n dX12_indexOf_2 rfl ?_
    refine sx_aload_n dX12_indexOf_3 rfl ?_
    refine sx_getI (k := 79) cl_12 fl_X12_613 dX12_indexOf_4 s_224 (by decide) rfl (by decide) ?_
    have r3 : (0 : Int) ≤ h0 224 79 ∧ h0 224 79 ≤ 364 := hI.1 224 79
    refine sx_icmp_ge (tgt := 28) dX12_indexOf_7 (by decide) (fun c4 => ?_) (fun c4 => ?_)
    ·
      refine sx_iconst dX12_indexOf_28 ⟨by decide, by decide⟩ ?_
      refine sx_ireturn dX12_indexOf_29 ?_
      exact ⟨_, rfl, ⟨rfl, by omega, fun q => absurd q (by decide), fun _ k hk => kn k (by omega)⟩⟩
    ·
      refine sx_aload_n dX12_indexOf_10 rfl ?_
      refine sx_getS (k := 77) (t := 270) cl_12 fl_X12_154 dX12_indexOf_11 s_224 (by decide) rfl (by decide) ?_
      refine sx_iload_n dX12_indexOf_14 rfl ?_
      refine sx_iaload dX12_indexOf_15 s_270 (by decide) (by decide) ⟨by omega, by omega⟩ ?_
      refine sx_iload_n dX12_indexOf_16 rfl ?_
      refine sx_icmp_ne (tgt := 22) dX12_indexOf_17 (by decide) (fun c5 => ?_) (fun c5 => ?_)
      ·
        have kn2 : ∀ j : Nat, (j : Int) < k_2 + 1 → h0 270 j ≠ y1 := fun j hj => by by_cases q : (j : Int) = k_2; (rw [show j = (k_2).toNat by omega]; assumption); exact kn j (by omega)
        refine sx_iinc dX12_indexOf_22 (by decide) rfl ?_
        rw [sw_w_id (by omega) (by omega)]
        refine sx_goto (tgt := 2) dX12_indexOf_25 (by decide) ?_
        exact ihh1 _ _ ⟨rfl, by omega, by exact kn2⟩ (by exact sy_dec (by omega) (by omega))
      ·
        refine sx_iload_n dX12_indexOf_20 rfl ?_
        refine sx_ireturn dX12_indexOf_21 ?_
        exact ⟨_, rfl, ⟨rfl, by omega, fun _ => by assumption, fun q => by exfalso; omega⟩⟩
  · exact ⟨rfl, by omega, by (intro j hj; omega)⟩
set_option maxRecDepth 20000 in
set_option maxHeartbeats 4000000 in
theorem c_X12_spreadFrom {G : sw_G} (d : Nat) {h0 : sw_H} (hJ : mI h0) (y1 : Int) (hs : V y1)  : sw_E G NH SH (d + 3) mX12_spreadFrom 0 [some (sw_r 224), some (sw_i y1), none, none, none, none] [] h0 (sw_Qv (fun h' => mK (prW [67, 79] [262, 270, 272]) h0 h' ∧ (SP h' y1 364 0))) := by
  have hI : mK (prW [67, 79] [262, 270, 272]) h0 h0 := mK.refl hJ
  refine sx_aload_n dX12_spreadFrom_0 rfl ?_
  refine sx_getS (k := 77) (t := 270) cl_12 fl_X12_154 dX12_spreadFrom_1 s_224 (by decide) rfl (by decide) ?_
  refine sx_iconst dX12_spreadFrom_4 ⟨by decide, by decide⟩ ?_
  refine sx_iload_n dX12_spreadFrom_5 rfl ?_
  refine sy_iastore dX12_spreadFrom_6 s_270 (by decide) (by decide) ⟨by omega, by omega⟩ (fun h1 eh1 => ?_)
  have Ih1 := hI.up eh1 trivial rfl
  have th1_224_79 := eh1.2 (224) 79 (by omega)
  refine sx_aload_n dX12_spreadFrom_7 rfl ?_
  refine sx_iconst dX12_spreadFrom_8 ⟨by decide, by decide⟩ ?_
  refine sy_putI (k := 79) cl_12 fl_X12_613 dX12_spreadFrom_9 s_224 (by decide) rfl (by decide) rfl rfl (fun h2 eh2 => ?_)
  have Ih2 := Ih1.up eh2 (show (0 : Int) ≤ _ ∧ _ ≤ (364 : Int) from ⟨by omega, by omega⟩) rfl
  have th2_224_79 := eh2.1
  refine sx_iconst dX12_spreadFrom_12 ⟨by decide, by decide⟩ ?_
  refine sx_istore_n dX12_spreadFrom_13 (by decide) ?_
  have SP0 : SP h2 y1 0 0 := SP_new hs (by rw [eh2.2 270 0 (by omega)]; exact eh1.1) eh2.1
  refine sx_loop1 (fun (h : sw_H) (k : Int) => (mK (prW [67, 79] [262, 270, 272]) h0 h) ∧ (0 ≤ k) ∧ (SP h y1 k 0)) (fun (h : sw_H) (k : Int) => (400 - k).toNat) (fun (h : sw_H) (k : Int) => sw_E G NH SH (d + 3) mX12_spreadFrom 14 [some (sw_r 224), some (sw_i y1), some (sw_i k), none, none, none] [] h (sw_Qv (fun h' => mK (prW [67, 79] [262, 270, 272]) h0 h' ∧ (SP h' y1 364 0)))) ?_ _ _ ?_
  · rintro h3 k_4 ⟨Ih3, jk, jS⟩ ihh3
    try dsimp only at ihh3
    refine sx_iload_n dX12_spreadFrom_14 rfl ?_
    have p2 := jS.2.1
    have p1 := jS.1
    refine sx_aload_n dX12_spreadFrom_15 rfl ?_
    refine sx_getI (k := 79) cl_12 fl_X12_613 dX12_spreadFrom_16 s_224 (by decide) rfl (by decide) ?_
    have r5 : (0 : Int) ≤ h3 224 79 ∧ h3 224 79 ≤ 364 := Ih3.1 224 79
    refine sx_icmp_ge (tgt := 120) dX12_spreadFrom_19 (by decide) (fun c6 => ?_) (fun c6 => ?_)
    ·
      refine sx_ret dX12_spreadFrom_120 ?_
      exact ⟨rfl, ⟨Ih3, SP_all jS (by omega)⟩⟩
    ·
      refine sx_iconst dX12_spreadFrom_22 ⟨by decide, by decide⟩ ?_
      refine sx_istore_n dX12_spreadFrom_23 (by decide) ?_
      refine sx_loop1 (fun (h : sw_H) (t : Int) => (mK (prW [67, 79] [262, 270, 272]) h0 h) ∧ (0 ≤ t) ∧ (t ≤ 7) ∧ (k_4 < h 224 79) ∧ (SP h y1 k_4 t)) (fun (h : sw_H) (t : Int) => (10 - t).toNat) (fun (h : sw_H) (t : Int) => sw_E G NH SH (d + 3) mX12_spreadFrom 24 [some (sw_r 224), some (sw_i y1), some (sw_i k_4), some (sw_i t), none, none] [] h (sw_Qv (fun h' => mK (prW [67, 79] [262, 270, 272]) h0 h' ∧ (SP h' y1 364 0)))) ?_ _ _ ?_
      · rintro h7 t_8 ⟨Ih7, jt, jt7, jkm, jS⟩ ihh7
        try dsimp only at ihh7
        have p2 := jS.2.1
        have p1 := jS.1
        refine sx_iload_n dX12_spreadFrom_24 rfl ?_
        refine sx_bipush dX12_spreadFrom_25 ⟨by decide, by decide, by decide⟩ ?_
        refine sx_icmp_ge (tgt := 114) dX12_spreadFrom_27 (by decide) (fun c9 => ?_) (fun c9 => ?_)
        ·
          refine sx_iinc dX12_spreadFrom_114 (by decide) rfl ?_
          rw [sw_w_id (by omega) (by omega)]
          refine sx_goto (tgt := 14) dX12_spreadFrom_117 (by decide) ?_
          refine sx_kill 3 ?_
          exact ihh3 _ _ ⟨Ih7, by omega, by exact SP_row jS (by omega)⟩ (by exact sy_dec (by omega) (by omega))
        ·
          refine sx_aload_n dX12_spreadFrom_30 rfl ?_
          refine sx_aload_n dX12_spreadFrom_31 rfl ?_
          refine sx_getS (k := 77) (t := 270) cl_12 fl_X12_154 dX12_spreadFrom_32 s_224 (by decide) rfl (by decide) ?_
          refine sx_iload_n dX12_spreadFrom_35 rfl ?_
          refine sx_iaload dX12_spreadFrom_36 s_270 (by decide) (by decide) ⟨by omega, by omega⟩ ?_
          refine sx_iload_n dX12_spreadFrom_37 rfl ?_
          refine sx_callVi lk_X12_616 cl_12 s_224 (by decide) dX12_spreadFrom_38 (vs := [_, _]) rfl rfl (Nat.le_of_ble_eq_true rfl) (Nat.le_of_ble_eq_true rfl) rfl (c_X12_shuffledBy _ Ih7.1 _ _ (jS.2.2.2.1 _ (by omega)) (by omega)) (fun x11 h10 ph10 => ?_)
          obtain ⟨Kh10, z_h10⟩ := ph10
          have Ih10 := Ih7.tr Kh10 (prW_sub rfl rfl)
          have th10_224_79 := Kh10.2 224 79 rfl
          refine sx_istore dX12_spreadFrom_41 (by decide) ?_
          have jS1 : SP h10 y1 k_4 t_8 := SP_eq (fun k => Kh10.2 270 k rfl) (Kh10.2 224 79 rfl) (fun k => Kh10.2 272 k rfl) jS
          have ev : x11 = shI (h10 270 (k_4).toNat) t_8 := by rw [z_h10, Kh10.2 270 _ rfl]
          have eV := shI_V (v := h10 270 (k_4).toNat) (t := t_8) (jS1.2.2.2.1 (k_4).toNat (by omega)) (by omega)
          rw [← ev] at eV
          have eV0 : x11 = -1 ∨ 0 ≤ x11 := by rcases eV with q | q; exact Or.inl q; exact Or.inr (V_rng q).1
          refine sx_iload dX12_spreadFrom_43 rfl ?_
          refine sx_if_ge (tgt := 52) dX12_spreadFrom_45 (by decide) (fun c12 => ?_) (fun c12 => ?_)
          ·
            refine sx_aload_n dX12_spreadFrom_52 rfl ?_
            refine sx_iload dX12_spreadFrom_53 rfl ?_
            refine sx_callVi lk_X12_619 cl_12 s_224 (by decide) dX12_spreadFrom_55 (vs := [_]) rfl rfl (Nat.le_of_ble_eq_true rfl) (Nat.le_of_ble_eq_true rfl) rfl (c_X12_indexOf _ Ih10.1 _) (fun x14 h13 ph13 => ?_)
            obtain ⟨rfl, p_x14, a_x14, b_x14⟩ := ph13
            have hnb := b_x14
            have hia := a_x14
            clear b_x14 a_x14
            refine sx_istore dX12_spreadFrom_58 (by decide) ?_
            refine sx_iload dX12_spreadFrom_60 rfl ?_
            refine sx_if_lt (tgt := 95) dX12_spreadFrom_62 (by decide) (fun c15 => ?_) (fun c15 => ?_)
            ·
              exfalso; omega
            ·
              refine sx_iload dX12_spreadFrom_65 rfl ?_
              refine sx_if_ge (tgt := 95) dX12_spreadFrom_67 (by decide) (fun c16 => ?_) (fun c16 => ?_)
              ·
                have jS2 := jS1
                have ha1 : shI (h10 270 (k_4).toNat) t_8 = -1 → x14 = -1 := fun q => by exfalso; rw [← ev] at q; omega
                have ha2 : shI (h10 270 (k_4).toNat) t_8 ≠ -1 → 0 ≤ x14 ∧ x14 < h10 224 79 ∧ h10 270 (x14).toNat = shI (h10 270 (k_4).toNat) t_8 := fun _ => ⟨by omega, by omega, (hia (by omega)).trans ev⟩
                refine sx_aload_n dX12_spreadFrom_95 rfl ?_
                refine sx_getS (k := 80) (t := 272) cl_12 fl_X12_160 dX12_spreadFrom_96 s_224 (by decide) rfl (by decide) ?_
                refine sx_bipush dX12_spreadFrom_99 ⟨by decide, by decide, by decide⟩ ?_
                refine sx_iload_n dX12_spreadFrom_101 rfl ?_
                refine sx_imul dX12_spreadFrom_102 ?_
                refine sy_topw (by omega) ?_
                refine sx_iload_n dX12_spreadFrom_103 rfl ?_
                refine sx_iadd dX12_spreadFrom_104 ?_
                refine sy_topw (by omega) ?_
                refine sx_iload dX12_spreadFrom_105 rfl ?_
                refine sy_iastore dX12_spreadFrom_107 s_272 (by decide) (by decide) ⟨by omega, by omega⟩ (fun h17 eh17 => ?_)
                have Ih17 := Ih10.up eh17 trivial rfl
                have th17_224_79 := eh17.2 (224) 79 (by omega)
                have jS3 : SP h17 y1 k_4 (t_8 + 1) := SP_set (z := x14) jS2 (by omega) (by omega) (fun k => eh17.2 270 k (by omega)) (eh17.2 224 79 (by omega)) (fun k => by rw [eh17.at 272 k]; simp only [true_and]; by_cases q : (k : Int) = 7 * k_4 + t_8; (rw [if_pos (by omega), if_pos q]); (rw [if_neg (by omega), if_neg q])) ha1 ha2
                refine sx_iinc dX12_spreadFrom_108 (by decide) rfl ?_
                rw [sw_w_id (by omega) (by omega)]
                refine sx_goto (tgt := 24) dX12_spreadFrom_111 (by decide) ?_
                refine sx_kill 4 ?_
                refine sx_kill 5 ?_
                exact ihh7 _ _ ⟨Ih17, by omega, by omega, by omega, by exact jS3⟩ (by exact sy_dec (by omega) (by omega))
              ·
                have hn := hnb (by omega)
                have hV : V x11 := eV.resolve_left (by omega)
                have hroom := SP_room jS1 hV hn
                refine sx_aload_n dX12_spreadFrom_70 rfl ?_
                refine sx_getI (k := 79) cl_12 fl_X12_613 dX12_spreadFrom_71 s_224 (by decide) rfl (by decide) ?_
                have r18 : (0 : Int) ≤ h10 224 79 ∧ h10 224 79 ≤ 364 := Ih10.1 224 79
                refine sy_top (fun v19 ev19 => ?_)
                refine sx_istore dX12_spreadFrom_74 (by decide) ?_
                refine sx_aload_n dX12_spreadFrom_76 rfl ?_
                refine sx_getS (k := 77) (t := 270) cl_12 fl_X12_154 dX12_spreadFrom_77 s_224 (by decide) rfl (by decide) ?_
                refine sx_iload dX12_spreadFrom_80 rfl ?_
                refine sx_iload dX12_spreadFrom_82 rfl ?_
                refine sy_iastore dX12_spreadFrom_84 s_270 (by decide) (by decide) ⟨by omega, by omega⟩ (fun h20 eh20 => ?_)
                have Ih20 := Ih10.up eh20 trivial rfl
                have th20_224_79 := eh20.2 (224) 79 (by omega)
                refine sx_aload_n dX12_spreadFrom_85 rfl ?_
                refine sx_dupr dX12_spreadFrom_86 ?_
                refine sx_getI (k := 79) cl_12 fl_X12_613 dX12_spreadFrom_87 s_224 (by decide) rfl (by decide) ?_
                have r21 : (0 : Int) ≤ h20 224 79 ∧ h20 224 79 ≤ 364 := Ih20.1 224 79
                refine sx_iconst dX12_spreadFrom_90 ⟨by decide, by decide⟩ ?_
                refine sx_iadd dX12_spreadFrom_91 ?_
                refine sy_topw (by omega) ?_
                refine sy_putI (k := 79) cl_12 fl_X12_613 dX12_spreadFrom_92 s_224 (by decide) rfl (by decide) rfl rfl (fun h22 eh22 => ?_)
                have Ih22 := Ih20.up eh22 (show (0 : Int) ≤ _ ∧ _ ≤ (364 : Int) from ⟨by omega, by omega⟩) rfl
                have th22_224_79 := eh22.1
                have e0 : ∀ k : Nat, h22 270 k = if (k : Int) = h10 224 79 then x11 else h10 270 k := fun k => by rw [eh22.2 270 k (by omega), eh20.at 270 k]; simp only [true_and]; by_cases q : (k : Int) = h10 224 79; (rw [if_pos (by omega), if_pos q]); (rw [if_neg (by omega), if_neg q])
                have jS2 : SP h22 y1 k_4 t_8 := SP_add jS1 hV hn (by omega) e0 (by omega) (fun k => by rw [eh22.2 272 k (by omega), eh20.2 272 k (by omega)])
                have ek : h22 270 (k_4).toNat = h10 270 (k_4).toNat := by rw [e0, if_neg (by omega)]
                have ei : h22 270 (v19).toNat = x11 := by rw [e0, if_pos (by omega)]
                have ha1 : shI (h22 270 (k_4).toNat) t_8 = -1 → v19 = -1 := fun q => by exfalso; rw [ek, ← ev] at q; omega
                have ha2 : shI (h22 270 (k_4).toNat) t_8 ≠ -1 → 0 ≤ v19 ∧ v19 < h22 224 79 ∧ h22 270 (v19).toNat = shI (h22 270 (k_4).toNat) t_8 := fun _ => ⟨by omega, by omega, by rw [ei, ek]; exact ev⟩
                refine sx_aload_n dX12_spreadFrom_95 rfl ?_
                refine sx_getS (k := 80) (t := 272) cl_12 fl_X12_160 dX12_spreadFrom_96 s_224 (by decide) rfl (by decide) ?_
                refine sx_bipush dX12_spreadFrom_99 ⟨by decide, by decide, by decide⟩ ?_
                refine sx_iload_n dX12_spreadFrom_101 rfl ?_
                refine sx_imul dX12_spreadFrom_102 ?_
                refine sy_topw (by omega) ?_
                refine sx_iload_n dX12_spreadFrom_103 rfl ?_
                refine sx_iadd dX12_spreadFrom_104 ?_
                refine sy_topw (by omega) ?_
                refine sx_iload dX12_spreadFrom_105 rfl ?_
                refine sy_iastore dX12_spreadFrom_107 s_272 (by decide) (by decide) ⟨by omega, by omega⟩ (fun h23 eh23 => ?_)
                have Ih23 := Ih22.up eh23 trivial rfl
                have th23_224_79 := eh23.2 (224) 79 (by omega)
                have jS3 : SP h23 y1 k_4 (t_8 + 1) := SP_set (z := v19) jS2 (by omega) (by omega) (fun k => eh23.2 270 k (by omega)) (eh23.2 224 79 (by omega)) (fun k => by rw [eh23.at 272 k]; simp only [true_and]; by_cases q : (k : Int) = 7 * k_4 + t_8; (rw [if_pos (by omega), if_pos q]); (rw [if_neg (by omega), if_neg q])) ha1 ha2
                refine sx_iinc dX12_spreadFrom_108 (by decide) rfl ?_
                rw [sw_w_id (by omega) (by omega)]
                refine sx_goto (tgt := 24) dX12_spreadFrom_111 (by decide) ?_
                refine sx_kill 4 ?_
                refine sx_kill 5 ?_
                exact ihh7 _ _ ⟨Ih23, by omega, by omega, by omega, by exact jS3⟩ (by exact sy_dec (by omega) (by omega))
          ·
            refine sx_iconst dX12_spreadFrom_48 ⟨by decide, by decide⟩ ?_
            refine sx_goto (tgt := 58) dX12_spreadFrom_49 (by decide) ?_
            refine sx_istore dX12_spreadFrom_58 (by decide) ?_
            refine sx_iload dX12_spreadFrom_60 rfl ?_
            refine sx_if_lt (tgt := 95) dX12_spreadFrom_62 (by decide) (fun c24 => ?_) (fun c24 => ?_)
            ·
              have jS2 := jS1
              have ha1 : shI (h10 270 (k_4).toNat) t_8 = -1 → ((-1) : Int) = -1 := fun _ => rfl
              have ha2 : shI (h10 270 (k_4).toNat) t_8 ≠ -1 → 0 ≤ ((-1) : Int) ∧ ((-1) : Int) < h10 224 79 ∧ h10 270 ((-1) : Int).toNat = shI (h10 270 (k_4).toNat) t_8 := fun q => absurd (ev.symm.trans (by omega)) q
              refine sx_aload_n dX12_spreadFrom_95 rfl ?_
              refine sx_getS (k := 80) (t := 272) cl_12 fl_X12_160 dX12_spreadFrom_96 s_224 (by decide) rfl (by decide) ?_
              refine sx_bipush dX12_spreadFrom_99 ⟨by decide, by decide, by decide⟩ ?_
              refine sx_iload_n dX12_spreadFrom_101 rfl ?_
              refine sx_imul dX12_spreadFrom_102 ?_
              refine sy_topw (by omega) ?_
              refine sx_iload_n dX12_spreadFrom_103 rfl ?_
              refine sx_iadd dX12_spreadFrom_104 ?_
              refine sy_topw (by omega) ?_
              refine sx_iload dX12_spreadFrom_105 rfl ?_
              refine sy_iastore dX12_spreadFrom_107 s_272 (by decide) (by decide) ⟨by omega, by omega⟩ (fun h25 eh25 => ?_)
              have Ih25 := Ih10.up eh25 trivial rfl
              have th25_224_79 := eh25.2 (224) 79 (by omega)
              have jS3 : SP h25 y1 k_4 (t_8 + 1) := SP_set (z := (-1)) jS2 (by omega) (by omega) (fun k => eh25.2 270 k (by omega)) (eh25.2 224 79 (by omega)) (fun k => by rw [eh25.at 272 k]; simp only [true_and]; by_cases q : (k : Int) = 7 * k_4 + t_8; (rw [if_pos (by omega), if_pos q]); (rw [if_neg (by omega), if_neg q])) ha1 ha2
              refine sx_iinc dX12_spreadFrom_108 (by decide) rfl ?_
              rw [sw_w_id (by omega) (by omega)]
              refine sx_goto (tgt := 24) dX12_spreadFrom_111 (by decide) ?_
              refine sx_kill 4 ?_
              refine sx_kill 5 ?_
              exact ihh7 _ _ ⟨Ih25, by omega, by omega, by omega, by exact jS3⟩ (by exact sy_dec (by omega) (by omega))
            ·
              exfalso; omega
      · exact ⟨Ih3, by omega, by omega, by omega, by exact jS⟩
  · exact ⟨Ih2, by omega, by exact SP0⟩
set_option maxRecDepth 20000 in
set_option maxHeartbeats 4000000 in
theorem c_X12_isLessBy {G : sw_G} (d : Nat) {h0 : sw_H} (hJ : mI h0) (s : Int) (to : Int) (y1 : Int) (hp : SP h0 s 364 0) (hw : WG h0) (hl : LV h0 to) (hk : 0 ≤ y1 ∧ y1 < h0 224 79)  : sw_E G NH SH (d) mX12_isLessBy 0 [some (sw_r 224), some (sw_i y1), none, none, none] [] h0 (sw_Qz (fun z h' => mK (prW [] [271]) h0 h' ∧ (LV h' to) ∧ (z = 1 → sumL (h' 271) (h0 224 79).toNat < sumL (h0 271) (h0 224 79).toNat) ∧ (imp (z = 0) ((∀ j, h' 271 j = h0 271 j) ∧ FXk h' y1.toNat)))) := by
  have hI : mK (prW [] [271]) h0 h0 := mK.refl hJ
  have p2 := hp.2.1
  have p1 := hp.1
  refine sx_iconst dX12_isLessBy_0 ⟨by decide, by decide⟩ ?_
  refine sx_istore_n dX12_isLessBy_1 (by decide) ?_
  refine sx_iconst dX12_isLessBy_2 ⟨by decide, by decide⟩ ?_
  refine sx_istore_n dX12_isLessBy_3 (by decide) ?_
  refine sx_loop2 (fun (h : sw_H) (is : Int) (t : Int) => (mK (prW [] [271]) h0 h) ∧ (0 ≤ t) ∧ (is = 0 ∨ is = 1) ∧ (LV h to) ∧ (is = 1 → sumL (h 271) (h0 224 79).toNat < sumL (h0 271) (h0 224 79).toNat) ∧ (imp (is = 0) ((∀ j, h 271 j = h0 271 j) ∧ ∀ t2 : Nat, (t2 : Int) < t → 0 ≤ h 272 (7 * y1.toNat + t2) → h 271 y1.toNat ≤ h 271 (h 272 (7 * y1.toNat + t2)).toNat + h 273 t2))) (fun (h : sw_H) (is : Int) (t : Int) => (10 - t).toNat) (fun (h : sw_H) (is : Int) (t : Int) => sw_E G NH SH (d) mX12_isLessBy 4 [some (sw_r 224), some (sw_i y1), some (sw_i is), some (sw_i t), none] [] h (sw_Qz (fun z h' => mK (prW [] [271]) h0 h' ∧ (LV h' to) ∧ (z = 1 → sumL (h' 271) (h0 224 79).toNat < sumL (h0 271) (h0 224 79).toNat) ∧ (imp (z = 0) ((∀ j, h' 271 j = h0 271 j) ∧ FXk h' y1.toNat))))) ?_ _ _ _ ?_
  · rintro h1 is_2 t_3 ⟨Ih1, jt, ji, jL, jA, jB⟩ ihh1
    try dsimp only at ihh1
    have jP : SP h1 s 364 0 := SP_eq (fun k => Ih1.2 270 k rfl) (Ih1.2 224 79 rfl) (fun k => Ih1.2 272 k rfl) hp
    have jW : WG h1 := WG_eq (fun k => Ih1.2 273 k rfl) hw
    have e79 : h1 224 79 = h0 224 79 := Ih1.2 224 79 rfl
    refine sx_iload_n dX12_isLessBy_4 rfl ?_
    refine sx_bipush dX12_isLessBy_5 ⟨by decide, by decide, by decide⟩ ?_
    refine sx_icmp_ge (tgt := 82) dX12_isLessBy_7 (by decide) (fun c4 => ?_) (fun c4 => ?_)
    ·
      refine sx_iload_n dX12_isLessBy_82 rfl ?_
      refine sx_ireturn dX12_isLessBy_83 ?_
      exact ⟨_, rfl, by omega, ⟨Ih1, jL, jA, fun q => ⟨(jB q).1, fun t ht ha => (jB q).2 t (by omega) ha⟩⟩⟩
    ·
      refine sx_aload_n dX12_isLessBy_10 rfl ?_
      refine sx_getS (k := 80) (t := 272) cl_12 fl_X12_160 dX12_isLessBy_11 s_224 (by decide) rfl (by decide) ?_
      refine sx_bipush dX12_isLessBy_14 ⟨by decide, by decide, by decide⟩ ?_
      refine sx_iload_n dX12_isLessBy_16 rfl ?_
      refine sx_imul dX12_isLessBy_17 ?_
      refine sy_topw (by omega) ?_
      refine sx_iload_n dX12_isLessBy_18 rfl ?_
      refine sx_iadd dX12_isLessBy_19 ?_
      refine sy_topw (by omega) ?_
      refine sx_iaload dX12_isLessBy_20 s_272 (by decide) (by decide) ⟨by omega, by omega⟩ ?_
      have rg := SP_rng jP (k := y1) (t := t_3) (by omega) (by omega)
      have wg := WG_of jW (t := t_3) (by omega)
      have lk := LV_rng jL (k := y1) (by omega)
      refine sy_top (fun v5 ev5 => ?_)
      refine sx_istore dX12_isLessBy_21 (by decide) ?_
      refine sx_iload dX12_isLessBy_23 rfl ?_
      refine sx_if_lt (tgt := 76) dX12_isLessBy_25 (by decide) (fun c6 => ?_) (fun c6 => ?_)
      ·
        have jL2 := jL
        have jA2 := jA
        have jB2 : imp (is_2 = 0) ((∀ j, h1 271 j = h0 271 j) ∧ ∀ t2 : Nat, (t2 : Int) < t_3 + 1 → 0 ≤ h1 272 (7 * y1.toNat + t2) → h1 271 y1.toNat ≤ h1 271 (h1 272 (7 * y1.toNat + t2)).toNat + h1 273 t2) := fun q => ⟨(jB q).1, fun t2 q2 q3 => by by_cases q4 : (t2 : Int) = t_3; (rw [show 7 * y1.toNat + t2 = (7 * y1 + t_3).toNat by omega] at q3 ⊢; rw [show t2 = (t_3).toNat by omega]; rw [← ev5] at q3 ⊢; first | omega | (exfalso; omega)); exact (jB q).2 t2 (by omega) q3⟩
        refine sx_iinc dX12_isLessBy_76 (by decide) rfl ?_
        rw [sw_w_id (by omega) (by omega)]
        refine sx_goto (tgt := 4) dX12_isLessBy_79 (by decide) ?_
        refine sx_kill 4 ?_
        exact ihh1 _ _ _ ⟨Ih1, by omega, by omega, by exact jL2, by exact jA2, by exact jB2⟩ (by exact sy_dec (by omega) (by omega))
      ·
        have la := LV_rng jL (k := v5) (by omega)
        refine sx_aload_n dX12_isLessBy_28 rfl ?_
        refine sx_getS (k := 78) (t := 271) cl_12 fl_X12_157 dX12_isLessBy_29 s_224 (by decide) rfl (by decide) ?_
        refine sx_iload dX12_isLessBy_32 rfl ?_
        refine sx_iaload dX12_isLessBy_34 s_271 (by decide) (by decide) ⟨by omega, by omega⟩ ?_
        refine sx_aload_n dX12_isLessBy_35 rfl ?_
        refine sx_getS (k := 81) (t := 273) cl_12 fl_X12_163 dX12_isLessBy_36 s_224 (by decide) rfl (by decide) ?_
        refine sx_iload_n dX12_isLessBy_39 rfl ?_
        refine sx_iaload dX12_isLessBy_40 s_273 (by decide) (by decide) ⟨by omega, by omega⟩ ?_
        refine sx_iadd dX12_isLessBy_41 ?_
        refine sy_topw (by omega) ?_
        refine sx_aload_n dX12_isLessBy_42 rfl ?_
        refine sx_getS (k := 78) (t := 271) cl_12 fl_X12_157 dX12_isLessBy_43 s_224 (by decide) rfl (by decide) ?_
        refine sx_iload_n dX12_isLessBy_46 rfl ?_
        refine sx_iaload dX12_isLessBy_47 s_271 (by decide) (by decide) ⟨by omega, by omega⟩ ?_
        refine sx_icmp_lt (tgt := 54) dX12_isLessBy_48 (by decide) (fun c7 => ?_) (fun c7 => ?_)
        ·
          refine sx_aload_n dX12_isLessBy_54 rfl ?_
          refine sx_getS (k := 78) (t := 271) cl_12 fl_X12_157 dX12_isLessBy_55 s_224 (by decide) rfl (by decide) ?_
          refine sx_iload_n dX12_isLessBy_58 rfl ?_
          refine sx_aload_n dX12_isLessBy_59 rfl ?_
          refine sx_getS (k := 78) (t := 271) cl_12 fl_X12_157 dX12_isLessBy_60 s_224 (by decide) rfl (by decide) ?_
          refine sx_iload dX12_isLessBy_63 rfl ?_
          refine sx_iaload dX12_isLessBy_65 s_271 (by decide) (by decide) ⟨by omega, by omega⟩ ?_
          refine sx_aload_n dX12_isLessBy_66 rfl ?_
          refine sx_getS (k := 81) (t := 273) cl_12 fl_X12_163 dX12_isLessBy_67 s_224 (by decide) rfl (by decide) ?_
          refine sx_iload_n dX12_isLessBy_70 rfl ?_
          refine sx_iaload dX12_isLessBy_71 s_273 (by decide) (by decide) ⟨by omega, by omega⟩ ?_
          refine sx_iadd dX12_isLessBy_72 ?_
          refine sy_topw (by omega) ?_
          refine sy_iastore dX12_isLessBy_73 s_271 (by decide) (by decide) ⟨by omega, by omega⟩ (fun h8 eh8 => ?_)
          have Ih8 := Ih1.up eh8 trivial rfl
          refine sx_iconst dX12_isLessBy_74 ⟨by decide, by decide⟩ ?_
          refine sx_istore_n dX12_isLessBy_75 (by decide) ?_
          have ST := LV_step (h1 := h8) (T := t_3) jP jW jL (K := y1) (by omega) (by omega) (by omega) (by rw [← ev5]; omega) (eh8.2 224 79 (by omega)) (fun k => eh8.2 272 k (by omega)) (fun k => eh8.2 273 k (by omega)) (fun k => by rw [eh8.at 271 k]; simp only [true_and]; by_cases q : (k : Int) = y1; (rw [if_pos (by omega), if_pos q, ← ev5]); (rw [if_neg (by omega), if_neg q]))
          have jL2 := ST.1
          have jA2 : (1 : Int) = 1 → sumL (h8 271) (h0 224 79).toNat < sumL (h0 271) (h0 224 79).toNat := fun _ => by have q := ST.2; rw [e79] at q; rcases ji with q2 | q2; (have q3 := (jB q2).1; rw [sumL_eq (f := h1 271) (g := h0 271) _ (fun k _ => q3 k)] at q; exact q); (have q3 := jA q2; omega)
          have jB2 : imp ((1 : Int) = 0) ((∀ j, h8 271 j = h0 271 j) ∧ ∀ t2 : Nat, (t2 : Int) < t_3 + 1 → 0 ≤ h8 272 (7 * y1.toNat + t2) → h8 271 y1.toNat ≤ h8 271 (h8 272 (7 * y1.toNat + t2)).toNat + h8 273 t2) := fun q => absurd q (by decide)
          refine sx_iinc dX12_isLessBy_76 (by decide) rfl ?_
          rw [sw_w_id (by omega) (by omega)]
          refine sx_goto (tgt := 4) dX12_isLessBy_79 (by decide) ?_
          refine sx_kill 4 ?_
          exact ihh1 _ _ _ ⟨Ih8, by omega, by omega, by exact jL2, by exact jA2, by exact jB2⟩ (by exact sy_dec (by omega) (by omega))
        ·
          refine sx_goto (tgt := 76) dX12_isLessBy_51 (by decide) ?_
          have jL2 := jL
          have jA2 := jA
          have jB2 : imp (is_2 = 0) ((∀ j, h1 271 j = h0 271 j) ∧ ∀ t2 : Nat, (t2 : Int) < t_3 + 1 → 0 ≤ h1 272 (7 * y1.toNat + t2) → h1 271 y1.toNat ≤ h1 271 (h1 272 (7 * y1.toNat + t2)).toNat + h1 273 t2) := fun q => ⟨(jB q).1, fun t2 q2 q3 => by by_cases q4 : (t2 : Int) = t_3; (rw [show 7 * y1.toNat + t2 = (7 * y1 + t_3).toNat by omega] at q3 ⊢; rw [show t2 = (t_3).toNat by omega]; rw [← ev5] at q3 ⊢; first | omega | (exfalso; omega)); exact (jB q).2 t2 (by omega) q3⟩
          refine sx_iinc dX12_isLessBy_76 (by decide) rfl ?_
          rw [sw_w_id (by omega) (by omega)]
          refine sx_goto (tgt := 4) dX12_isLessBy_79 (by decide) ?_
          refine sx_kill 4 ?_
          exact ihh1 _ _ _ ⟨Ih1, by omega, by omega, by exact jL2, by exact jA2, by exact jB2⟩ (by exact sy_dec (by omega) (by omega))
  · exact ⟨hI, by omega, by omega, by exact hl, by omega, by exact fun _ => ⟨fun _ => rfl, fun t2 q => by omega⟩⟩
set_option maxRecDepth 20000 in
set_option maxHeartbeats 4000000 in
theorem c_X12_spreadTo {G : sw_G} (d : Nat) {h0 : sw_H} (hJ : mI h0) (s : Int) (y1 : Int) (hp : SP h0 s 364 0) (hw : WG h0) (hs : s = 0 ∨ s = 1 ∨ s = 12 ∨ s = 123)  : sw_E G NH SH (d + 1) mX12_spreadTo 0 [some (sw_r 224), some (sw_i y1), none, none, none] [] h0 (sw_Qz (fun z h' => mK (prW [] [271]) h0 h' ∧ (imp (z = 1) (∃ to, RW h' s to)))) := by
  have hI : mK (prW [] [271]) h0 h0 := mK.refl hJ
  have p2 := hp.2.1
  have p1 := hp.1
  refine sx_aload_n dX12_spreadTo_0 rfl ?_
  refine sx_iload_n dX12_spreadTo_1 rfl ?_
  refine sx_callVi lk_X12_619 cl_12 s_224 (by decide) dX12_spreadTo_2 (vs := [_]) rfl rfl (Nat.le_of_ble_eq_true rfl) (Nat.le_of_ble_eq_true rfl) rfl (c_X12_indexOf _ hI.1 _) (fun x2 h1 ph1 => ?_)
  obtain ⟨rfl, p_x2, a_x2, b_x2⟩ := ph1
  refine sx_istore_n dX12_spreadTo_5 (by decide) ?_
  refine sx_iconst dX12_spreadTo_6 ⟨by decide, by decide⟩ ?_
  refine sx_istore_n dX12_spreadTo_7 (by decide) ?_
  refine sx_loop1 (fun (h : sw_H) (k : Int) => (mK (prW [] [271]) h0 h) ∧ (0 ≤ k) ∧ (∀ j : Nat, (j : Int) < k → h 271 j = if (j : Int) = x2 then 0 else 100000000)) (fun (h : sw_H) (k : Int) => (400 - k).toNat) (fun (h : sw_H) (k : Int) => sw_E G NH SH (d + 1) mX12_spreadTo 8 [some (sw_r 224), some (sw_i y1), some (sw_i x2), some (sw_i k), none] [] h (sw_Qz (fun z h' => mK (prW [] [271]) h0 h' ∧ (imp (z = 1) (∃ to, RW h' s to))))) ?_ _ _ ?_
  · rintro h3 k_4 ⟨Ih3, jk, jz⟩ ihh3
    try dsimp only at ihh3
    have e79 : h3 224 79 = h0 224 79 := Ih3.2 224 79 rfl
    refine sx_iload_n dX12_spreadTo_8 rfl ?_
    refine sx_aload_n dX12_spreadTo_9 rfl ?_
    refine sx_getI (k := 79) cl_12 fl_X12_613 dX12_spreadTo_10 s_224 (by decide) rfl (by decide) ?_
    have r5 : (0 : Int) ≤ h3 224 79 ∧ h3 224 79 ≤ 364 := Ih3.1 224 79
    refine sx_icmp_ge (tgt := 40) dX12_spreadTo_13 (by decide) (fun c6 => ?_) (fun c6 => ?_)
    ·
      refine sx_iload_n dX12_spreadTo_40 rfl ?_
      refine sx_if_lt (tgt := 48) dX12_spreadTo_41 (by decide) (fun c7 => ?_) (fun c7 => ?_)
      ·
        refine sx_iconst dX12_spreadTo_48 ⟨by decide, by decide⟩ ?_
        refine sx_istore_n dX12_spreadTo_49 (by decide) ?_
        refine sx_loop1 (fun (h : sw_H) (less : Int) => (mK (prW [] [271]) h0 h) ∧ (LV h x2) ∧ (less = 0 ∨ less = 1) ∧ (imp (less = 0) (x2 < 0 ∨ ∀ k : Nat, (k : Int) < h0 224 79 → FXk h k))) (fun (h : sw_H) (less : Int) => (less + 2 * sumL (h 271) (h0 224 79).toNat).toNat) (fun (h : sw_H) (less : Int) => sw_E G NH SH (d + 1) mX12_spreadTo 50 [some (sw_r 224), some (sw_i y1), some (sw_i x2), some (sw_i less), none] [] h (sw_Qz (fun z h' => mK (prW [] [271]) h0 h' ∧ (imp (z = 1) (∃ to, RW h' s to))))) ?_ _ _ ?_
        · rintro h8 less_9 ⟨Ih8, jL, jl, jf⟩ ihh8
          try dsimp only at ihh8
          have jP : SP h8 s 364 0 := SP_eq (fun k => Ih8.2 270 k rfl) (Ih8.2 224 79 rfl) (fun k => Ih8.2 272 k rfl) hp
          have jW : WG h8 := WG_eq (fun k => Ih8.2 273 k rfl) hw
          have e79 : h8 224 79 = h0 224 79 := Ih8.2 224 79 rfl
          have sn := sumL_nn (f := h8 271) (h0 224 79).toNat (fun k hk => (jL.1 k (by omega)).1)
          refine sx_iload_n dX12_spreadTo_50 rfl ?_
          refine sx_if_eq (tgt := 87) dX12_spreadTo_51 (by decide) (fun c10 => ?_) (fun c10 => ?_)
          ·
            refine sx_iload_n dX12_spreadTo_87 rfl ?_
            refine sx_if_lt (tgt := 107) dX12_spreadTo_88 (by decide) (fun c11 => ?_) (fun c11 => ?_)
            ·
              refine sx_iconst dX12_spreadTo_107 ⟨by decide, by decide⟩ ?_
              refine sx_ireturn dX12_spreadTo_108 ?_
              exact ⟨_, rfl, by omega, ⟨Ih8, fun q => absurd q (by decide)⟩⟩
            ·
              refine sx_aload_n dX12_spreadTo_91 rfl ?_
              refine sx_getS (k := 78) (t := 271) cl_12 fl_X12_157 dX12_spreadTo_92 s_224 (by decide) rfl (by decide) ?_
              refine sx_iconst dX12_spreadTo_95 ⟨by decide, by decide⟩ ?_
              refine sx_iaload dX12_spreadTo_96 s_271 (by decide) (by decide) ⟨by omega, by omega⟩ ?_
              refine sx_ldcw kc_X12_622 ⟨by decide, by decide⟩ dX12_spreadTo_97 ?_
              refine sx_icmp_ge (tgt := 107) dX12_spreadTo_100 (by decide) (fun c12 => ?_) (fun c12 => ?_)
              ·
                refine sx_iconst dX12_spreadTo_107 ⟨by decide, by decide⟩ ?_
                refine sx_ireturn dX12_spreadTo_108 ?_
                exact ⟨_, rfl, by omega, ⟨Ih8, fun q => absurd q (by decide)⟩⟩
              ·
                refine sx_iconst dX12_spreadTo_103 ⟨by decide, by decide⟩ ?_
                refine sx_goto (tgt := 108) dX12_spreadTo_104 (by decide) ?_
                refine sx_ireturn dX12_spreadTo_108 ?_
                exact ⟨_, rfl, by omega, ⟨Ih8, (fun _ => ⟨x2, jP, jW, jL, fun k hk => (jf (by omega)).resolve_left (by omega) k (by omega), hs, by first | omega | assumption⟩)⟩⟩
          ·
            refine sx_iconst dX12_spreadTo_54 ⟨by decide, by decide⟩ ?_
            refine sx_istore_n dX12_spreadTo_55 (by decide) ?_
            refine sx_aload_n dX12_spreadTo_56 rfl ?_
            refine sx_getI (k := 79) cl_12 fl_X12_613 dX12_spreadTo_57 s_224 (by decide) rfl (by decide) ?_
            have r13 : (0 : Int) ≤ h8 224 79 ∧ h8 224 79 ≤ 364 := Ih8.1 224 79
            refine sx_iconst dX12_spreadTo_60 ⟨by decide, by decide⟩ ?_
            refine sx_isub dX12_spreadTo_61 ?_
            refine sy_topw (by omega) ?_
            refine sy_top (fun v14 ev14 => ?_)
            refine sx_istore dX12_spreadTo_62 (by decide) ?_
            refine sx_loop2 (fun (h : sw_H) (less : Int) (k : Int) => (mK (prW [] [271]) h0 h) ∧ (LV h x2) ∧ (less = 0 ∨ less = 1) ∧ (-1 ≤ k) ∧ (k < h0 224 79) ∧ (less = 1 → sumL (h 271) (h0 224 79).toNat < sumL (h8 271) (h0 224 79).toNat) ∧ (imp (less = 0) ((∀ j, h 271 j = h8 271 j) ∧ ∀ j : Nat, k < (j : Int) → (j : Int) < h0 224 79 → FXk h j))) (fun (h : sw_H) (less : Int) (k : Int) => (k + 1).toNat) (fun (h : sw_H) (less : Int) (k : Int) => sw_E G NH SH (d + 1) mX12_spreadTo 64 [some (sw_r 224), some (sw_i y1), some (sw_i x2), some (sw_i less), some (sw_i k)] [] h (sw_Qz (fun z h' => mK (prW [] [271]) h0 h' ∧ (imp (z = 1) (∃ to, RW h' s to))))) ?_ _ _ _ ?_
            · rintro h15 less_16 k_17 ⟨Ih15, jL, jl2, jk1, jk2, jA, jB⟩ ihh15
              try dsimp only at ihh15
              have jP : SP h15 s 364 0 := SP_eq (fun k => Ih15.2 270 k rfl) (Ih15.2 224 79 rfl) (fun k => Ih15.2 272 k rfl) hp
              have jW : WG h15 := WG_eq (fun k => Ih15.2 273 k rfl) hw
              have e79 : h15 224 79 = h0 224 79 := Ih15.2 224 79 rfl
              refine sx_iload dX12_spreadTo_64 rfl ?_
              refine sx_if_lt (tgt := 84) dX12_spreadTo_66 (by decide) (fun c18 => ?_) (fun c18 => ?_)
              ·
                refine sx_goto (tgt := 50) dX12_spreadTo_84 (by decide) ?_
                refine sx_kill 4 ?_
                exact ihh8 _ _ ⟨Ih15, jL, by omega, fun q => Or.inr (fun k hk => (jB q).2 k (by omega) hk)⟩ (by rcases jl2 with q | q; (have q2 := (jB q).1; rw [sumL_eq (f := h15 271) (g := h8 271) _ (fun k _ => q2 k)]; omega); (have q2 := jA q; omega))
              ·
                refine sx_iload_n dX12_spreadTo_69 rfl ?_
                refine sx_aload_n dX12_spreadTo_70 rfl ?_
                refine sx_iload dX12_spreadTo_71 rfl ?_
                refine sx_callVz lk_X12_623 cl_12 s_224 (by decide) dX12_spreadTo_73 (vs := [_]) rfl rfl (Nat.le_of_ble_eq_true rfl) (Nat.le_of_ble_eq_true rfl) rfl (c_X12_isLessBy _ Ih15.1 s _ _ (jP) (jW) (jL) (by omega)) (fun x20 h19 zx20 ph19 => ?_)
                obtain ⟨Kh19, l_h19, a_h19, b_h19⟩ := ph19
                have Ih19 := Ih15.tr Kh19 (prW_sub rfl rfl)
                have jl3 := l_h19
                have zz := zx20
                obtain ⟨zq, ezq⟩ : ∃ q : Int, q = x20 := ⟨_, rfl⟩
                refine sx_ior dX12_spreadTo_76 ?_
                refine sy_top (fun v21 ev21 => ?_)
                refine sx_istore_n dX12_spreadTo_77 (by decide) ?_
                have io := ior01 (x := less_16) (by omega) zz
                rw [← ev21] at io
                have jl2 : v21 = 0 ∨ v21 = 1 := by omega
                have jA2 : v21 = 1 → sumL (h19 271) (h0 224 79).toNat < sumL (h8 271) (h0 224 79).toNat := fun q => by have q1 := a_h19; rcases io with q2 | q2; (exfalso; omega); by_cases q3 : zq = 1; (have q4 := q1 (by omega); by_cases q5 : less_16 = 1; (have q6 := jA q5; rw [e79] at q4; omega); (have q6 := (jB (by omega)).1; rw [e79, sumL_eq (f := h15 271) (g := h8 271) _ (fun k _ => q6 k)] at q4; exact q4)); (have q4 := (b_h19 (by omega)).1; have q6 := jA (by omega); rw [sumL_eq (f := h19 271) (g := h15 271) _ (fun k _ => q4 k)]; exact q6)
                have jB2 : imp (v21 = 0) ((∀ j, h19 271 j = h8 271 j) ∧ ∀ j : Nat, k_17 - 1 < (j : Int) → (j : Int) < h0 224 79 → FXk h19 j) := fun q => by obtain ⟨b1, b2⟩ := b_h19 (by omega); obtain ⟨c1, c2⟩ := jB (by omega); exact ⟨fun j => (b1 j).trans (c1 j), fun j q1 q2 => by by_cases q3 : (j : Int) = k_17; (rw [show j = (k_17).toNat by omega]; exact b2); exact FXk_eq b1 (fun k => Kh19.2 272 k rfl) (fun k => Kh19.2 273 k rfl) (c2 j (by omega) q2)⟩
                refine sx_iinc dX12_spreadTo_78 (by decide) rfl ?_
                rw [sw_w_id (by omega) (by omega)]
                refine sx_goto (tgt := 64) dX12_spreadTo_81 (by decide) ?_
                exact ihh15 _ _ _ ⟨Ih19, by exact jl3, by exact jl2, by omega, by omega, by exact jA2, by exact jB2⟩ (by exact sy_dec (by omega) (by omega))
            · exact ⟨Ih8, by exact jL, by omega, by omega, by omega, by omega, by exact fun _ => ⟨fun _ => rfl, fun j q1 q2 => by omega⟩⟩
        · exact ⟨Ih3, by exact LV_0 (fun j hj => jz j (by omega)), by omega, by exact fun q => by first | (exfalso; omega) | (left; omega)⟩
      ·
        refine sx_iconst dX12_spreadTo_44 ⟨by decide, by decide⟩ ?_
        refine sx_goto (tgt := 49) dX12_spreadTo_45 (by decide) ?_
        refine sx_istore_n dX12_spreadTo_49 (by decide) ?_
        refine sx_loop1 (fun (h : sw_H) (less : Int) => (mK (prW [] [271]) h0 h) ∧ (LV h x2) ∧ (less = 0 ∨ less = 1) ∧ (imp (less = 0) (x2 < 0 ∨ ∀ k : Nat, (k : Int) < h0 224 79 → FXk h k))) (fun (h : sw_H) (less : Int) => (less + 2 * sumL (h 271) (h0 224 79).toNat).toNat) (fun (h : sw_H) (less : Int) => sw_E G NH SH (d + 1) mX12_spreadTo 50 [some (sw_r 224), some (sw_i y1), some (sw_i x2), some (sw_i less), none] [] h (sw_Qz (fun z h' => mK (prW [] [271]) h0 h' ∧ (imp (z = 1) (∃ to, RW h' s to))))) ?_ _ _ ?_
        · rintro h22 less_23 ⟨Ih22, jL, jl, jf⟩ ihh22
          try dsimp only at ihh22
          have jP : SP h22 s 364 0 := SP_eq (fun k => Ih22.2 270 k rfl) (Ih22.2 224 79 rfl) (fun k => Ih22.2 272 k rfl) hp
          have jW : WG h22 := WG_eq (fun k => Ih22.2 273 k rfl) hw
          have e79 : h22 224 79 = h0 224 79 := Ih22.2 224 79 rfl
          have sn := sumL_nn (f := h22 271) (h0 224 79).toNat (fun k hk => (jL.1 k (by omega)).1)
          refine sx_iload_n dX12_spreadTo_50 rfl ?_
          refine sx_if_eq (tgt := 87) dX12_spreadTo_51 (by decide) (fun c24 => ?_) (fun c24 => ?_)
          ·
            refine sx_iload_n dX12_spreadTo_87 rfl ?_
            refine sx_if_lt (tgt := 107) dX12_spreadTo_88 (by decide) (fun c25 => ?_) (fun c25 => ?_)
            ·
              refine sx_iconst dX12_spreadTo_107 ⟨by decide, by decide⟩ ?_
              refine sx_ireturn dX12_spreadTo_108 ?_
              exact ⟨_, rfl, by omega, ⟨Ih22, fun q => absurd q (by decide)⟩⟩
            ·
              refine sx_aload_n dX12_spreadTo_91 rfl ?_
              refine sx_getS (k := 78) (t := 271) cl_12 fl_X12_157 dX12_spreadTo_92 s_224 (by decide) rfl (by decide) ?_
              refine sx_iconst dX12_spreadTo_95 ⟨by decide, by decide⟩ ?_
              refine sx_iaload dX12_spreadTo_96 s_271 (by decide) (by decide) ⟨by omega, by omega⟩ ?_
              refine sx_ldcw kc_X12_622 ⟨by decide, by decide⟩ dX12_spreadTo_97 ?_
              refine sx_icmp_ge (tgt := 107) dX12_spreadTo_100 (by decide) (fun c26 => ?_) (fun c26 => ?_)
              ·
                refine sx_iconst dX12_spreadTo_107 ⟨by decide, by decide⟩ ?_
                refine sx_ireturn dX12_spreadTo_108 ?_
                exact ⟨_, rfl, by omega, ⟨Ih22, fun q => absurd q (by decide)⟩⟩
              ·
                refine sx_iconst dX12_spreadTo_103 ⟨by decide, by decide⟩ ?_
                refine sx_goto (tgt := 108) dX12_spreadTo_104 (by decide) ?_
                refine sx_ireturn dX12_spreadTo_108 ?_
                exact ⟨_, rfl, by omega, ⟨Ih22, (fun _ => ⟨x2, jP, jW, jL, fun k hk => (jf (by omega)).resolve_left (by omega) k (by omega), hs, by first | omega | assumption⟩)⟩⟩
          ·
            refine sx_iconst dX12_spreadTo_54 ⟨by decide, by decide⟩ ?_
            refine sx_istore_n dX12_spreadTo_55 (by decide) ?_
            refine sx_aload_n dX12_spreadTo_56 rfl ?_
            refine sx_getI (k := 79) cl_12 fl_X12_613 dX12_spreadTo_57 s_224 (by decide) rfl (by decide) ?_
            have r27 : (0 : Int) ≤ h22 224 79 ∧ h22 224 79 ≤ 364 := Ih22.1 224 79
            refine sx_iconst dX12_spreadTo_60 ⟨by decide, by decide⟩ ?_
            refine sx_isub dX12_spreadTo_61 ?_
            refine sy_topw (by omega) ?_
            refine sy_top (fun v28 ev28 => ?_)
            refine sx_istore dX12_spreadTo_62 (by decide) ?_
            refine sx_loop2 (fun (h : sw_H) (less : Int) (k : Int) => (mK (prW [] [271]) h0 h) ∧ (LV h x2) ∧ (less = 0 ∨ less = 1) ∧ (-1 ≤ k) ∧ (k < h0 224 79) ∧ (less = 1 → sumL (h 271) (h0 224 79).toNat < sumL (h22 271) (h0 224 79).toNat) ∧ (imp (less = 0) ((∀ j, h 271 j = h22 271 j) ∧ ∀ j : Nat, k < (j : Int) → (j : Int) < h0 224 79 → FXk h j))) (fun (h : sw_H) (less : Int) (k : Int) => (k + 1).toNat) (fun (h : sw_H) (less : Int) (k : Int) => sw_E G NH SH (d + 1) mX12_spreadTo 64 [some (sw_r 224), some (sw_i y1), some (sw_i x2), some (sw_i less), some (sw_i k)] [] h (sw_Qz (fun z h' => mK (prW [] [271]) h0 h' ∧ (imp (z = 1) (∃ to, RW h' s to))))) ?_ _ _ _ ?_
            · rintro h29 less_30 k_31 ⟨Ih29, jL, jl2, jk1, jk2, jA, jB⟩ ihh29
              try dsimp only at ihh29
              have jP : SP h29 s 364 0 := SP_eq (fun k => Ih29.2 270 k rfl) (Ih29.2 224 79 rfl) (fun k => Ih29.2 272 k rfl) hp
              have jW : WG h29 := WG_eq (fun k => Ih29.2 273 k rfl) hw
              have e79 : h29 224 79 = h0 224 79 := Ih29.2 224 79 rfl
              refine sx_iload dX12_spreadTo_64 rfl ?_
              refine sx_if_lt (tgt := 84) dX12_spreadTo_66 (by decide) (fun c32 => ?_) (fun c32 => ?_)
              ·
                refine sx_goto (tgt := 50) dX12_spreadTo_84 (by decide) ?_
                refine sx_kill 4 ?_
                exact ihh22 _ _ ⟨Ih29, jL, by omega, fun q => Or.inr (fun k hk => (jB q).2 k (by omega) hk)⟩ (by rcases jl2 with q | q; (have q2 := (jB q).1; rw [sumL_eq (f := h29 271) (g := h22 271) _ (fun k _ => q2 k)]; omega); (have q2 := jA q; omega))
              ·
                refine sx_iload_n dX12_spreadTo_69 rfl ?_
                refine sx_aload_n dX12_spreadTo_70 rfl ?_
                refine sx_iload dX12_spreadTo_71 rfl ?_
                refine sx_callVz lk_X12_623 cl_12 s_224 (by decide) dX12_spreadTo_73 (vs := [_]) rfl rfl (Nat.le_of_ble_eq_true rfl) (Nat.le_of_ble_eq_true rfl) rfl (c_X12_isLessBy _ Ih29.1 s _ _ (jP) (jW) (jL) (by omega)) (fun x34 h33 zx34 ph33 => ?_)
                obtain ⟨Kh33, l_h33, a_h33, b_h33⟩ := ph33
                have Ih33 := Ih29.tr Kh33 (prW_sub rfl rfl)
                have jl3 := l_h33
                have zz := zx34
                obtain ⟨zq, ezq⟩ : ∃ q : Int, q = x34 := ⟨_, rfl⟩
                refine sx_ior dX12_spreadTo_76 ?_
                refine sy_top (fun v35 ev35 => ?_)
                refine sx_istore_n dX12_spreadTo_77 (by decide) ?_
                have io := ior01 (x := less_30) (by omega) zz
                rw [← ev35] at io
                have jl2 : v35 = 0 ∨ v35 = 1 := by omega
                have jA2 : v35 = 1 → sumL (h33 271) (h0 224 79).toNat < sumL (h22 271) (h0 224 79).toNat := fun q => by have q1 := a_h33; rcases io with q2 | q2; (exfalso; omega); by_cases q3 : zq = 1; (have q4 := q1 (by omega); by_cases q5 : less_30 = 1; (have q6 := jA q5; rw [e79] at q4; omega); (have q6 := (jB (by omega)).1; rw [e79, sumL_eq (f := h29 271) (g := h22 271) _ (fun k _ => q6 k)] at q4; exact q4)); (have q4 := (b_h33 (by omega)).1; have q6 := jA (by omega); rw [sumL_eq (f := h33 271) (g := h29 271) _ (fun k _ => q4 k)]; exact q6)
                have jB2 : imp (v35 = 0) ((∀ j, h33 271 j = h22 271 j) ∧ ∀ j : Nat, k_31 - 1 < (j : Int) → (j : Int) < h0 224 79 → FXk h33 j) := fun q => by obtain ⟨b1, b2⟩ := b_h33 (by omega); obtain ⟨c1, c2⟩ := jB (by omega); exact ⟨fun j => (b1 j).trans (c1 j), fun j q1 q2 => by by_cases q3 : (j : Int) = k_31; (rw [show j = (k_31).toNat by omega]; exact b2); exact FXk_eq b1 (fun k => Kh33.2 272 k rfl) (fun k => Kh33.2 273 k rfl) (c2 j (by omega) q2)⟩
                refine sx_iinc dX12_spreadTo_78 (by decide) rfl ?_
                rw [sw_w_id (by omega) (by omega)]
                refine sx_goto (tgt := 64) dX12_spreadTo_81 (by decide) ?_
                exact ihh29 _ _ _ ⟨Ih33, by exact jl3, by exact jl2, by omega, by omega, by exact jA2, by exact jB2⟩ (by exact sy_dec (by omega) (by omega))
            · exact ⟨Ih22, by exact jL, by omega, by omega, by omega, by omega, by exact fun _ => ⟨fun _ => rfl, fun j q1 q2 => by omega⟩⟩
        · exact ⟨Ih3, by exact LV_0 (fun j hj => jz j (by omega)), by omega, by exact fun q => by first | (exfalso; omega) | (left; omega)⟩
    ·
      refine sx_aload_n dX12_spreadTo_16 rfl ?_
      refine sx_getS (k := 78) (t := 271) cl_12 fl_X12_157 dX12_spreadTo_17 s_224 (by decide) rfl (by decide) ?_
      refine sx_iload_n dX12_spreadTo_20 rfl ?_
      refine sx_iload_n dX12_spreadTo_21 rfl ?_
      refine sx_iload_n dX12_spreadTo_22 rfl ?_
      refine sx_icmp_ne (tgt := 30) dX12_spreadTo_23 (by decide) (fun c36 => ?_) (fun c36 => ?_)
      ·
        refine sx_ldcw kc_X12_622 ⟨by decide, by decide⟩ dX12_spreadTo_30 ?_
        refine sy_iastore dX12_spreadTo_33 s_271 (by decide) (by decide) ⟨by omega, by omega⟩ (fun h37 eh37 => ?_)
        have Ih37 := Ih3.up eh37 trivial rfl
        have jz2 : ∀ j : Nat, (j : Int) < k_4 + 1 → h37 271 j = if (j : Int) = x2 then 0 else 100000000 := fun j hj => by rw [eh37.at 271 j]; simp only [true_and]; by_cases q : j = (k_4).toNat; (focus (rw [if_pos q]; first | (rw [if_pos (show (j : Int) = x2 by omega)]; done) | (rw [if_neg (show ¬ (j : Int) = x2 by omega)]; done))); (rw [if_neg q]; exact jz j (by omega))
        refine sx_iinc dX12_spreadTo_34 (by decide) rfl ?_
        rw [sw_w_id (by omega) (by omega)]
        refine sx_goto (tgt := 8) dX12_spreadTo_37 (by decide) ?_
        exact ihh3 _ _ ⟨Ih37, by omega, by exact jz2⟩ (by exact sy_dec (by omega) (by omega))
      ·
        refine sx_iconst dX12_spreadTo_26 ⟨by decide, by decide⟩ ?_
        refine sx_goto (tgt := 33) dX12_spreadTo_27 (by decide) ?_
        refine sy_iastore dX12_spreadTo_33 s_271 (by decide) (by decide) ⟨by omega, by omega⟩ (fun h38 eh38 => ?_)
        have Ih38 := Ih3.up eh38 trivial rfl
        have jz2 : ∀ j : Nat, (j : Int) < k_4 + 1 → h38 271 j = if (j : Int) = x2 then 0 else 100000000 := fun j hj => by rw [eh38.at 271 j]; simp only [true_and]; by_cases q : j = (k_4).toNat; (focus (rw [if_pos q]; first | (rw [if_pos (show (j : Int) = x2 by omega)]; done) | (rw [if_neg (show ¬ (j : Int) = x2 by omega)]; done))); (rw [if_neg q]; exact jz j (by omega))
        refine sx_iinc dX12_spreadTo_34 (by decide) rfl ?_
        rw [sw_w_id (by omega) (by omega)]
        refine sx_goto (tgt := 8) dX12_spreadTo_37 (by decide) ?_
        exact ihh3 _ _ ⟨Ih38, by omega, by exact jz2⟩ (by exact sy_dec (by omega) (by omega))
  · exact ⟨hI, by omega, by (intro j hj; omega)⟩

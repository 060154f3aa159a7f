set_option maxRecDepth 20000 in
set_option maxHeartbeats 4000000 in
theorem c_X6_rowOfRun_1 {G : sw_G} (d : Nat) {h0 : sw_H} (hJ : cJ h0) (f n : Int) (hf : 0 ≤ f ∧ 0 ≤ n ∧ n ≤ 6 ∧ f + n ≤ 60) (hv : ∀ i : Int, f ≤ i → i < f + n → 0 ≤ h0 3 i.toNat ∧ h0 3 i.toNat ≤ 6) : sw_E G NH SH (d + 2) mX6_rowOfRun 0 [some (sw_r 182), some (sw_r 1), some (sw_i f), some (sw_i n), none, none, none, none] [] h0 (sw_Qi (fun z h' => cK prH h0 h' ∧ h' 182 8 = (nd (h0 3) f.toNat n.toNat).2 ∧ (z ≠ -1 → h' 182 8 ≤ 3) ∧ -1 ≤ z ∧ z ≤ 1023)) := by
  have hI : cK prH h0 h0 := cK.refl hJ
  refine sx_iconst dX6_rowOfRun_0 ⟨by decide, by decide⟩ ?_
  refine sx_istore dX6_rowOfRun_1 (by decide) ?_
  refine sx_iconst dX6_rowOfRun_3 ⟨by decide, by decide⟩ ?_
  refine sx_istore dX6_rowOfRun_4 (by decide) ?_
  refine sx_iload_n dX6_rowOfRun_6 rfl ?_
  refine sx_istore dX6_rowOfRun_7 (by decide) ?_
  refine sx_loop3 (fun (h : sw_H) (a : Int) (b : Int) (i : Int) => (h0 = h) ∧ (f ≤ i) ∧ (i ≤ f + n) ∧ (a = (nd (h0 3) f.toNat (i - f).toNat).1) ∧ (b = (nd (h0 3) f.toNat (i - f).toNat).2) ∧ (-(3 * (i - f)) ≤ a) ∧ (a ≤ 3 * (i - f)) ∧ (0 ≤ b) ∧ (b ≤ 3 + 3 * (i - f))) (fun (h : sw_H) (a : Int) (b : Int) (i : Int) => (f + n - i).toNat) (fun (h : sw_H) (a : Int) (b : Int) (i : Int) => sw_E G NH SH (d + 2) mX6_rowOfRun 9 [some (sw_r 182), some (sw_r 1), some (sw_i f), some (sw_i n), some (sw_i a), some (sw_i b), some (sw_i i), none] [] h (sw_Qi (fun z h' => cK prH h0 h' ∧ h' 182 8 = (nd (h0 3) f.toNat n.toNat).2 ∧ (z ≠ -1 → h' 182 8 ≤ 3) ∧ -1 ≤ z ∧ z ≤ 1023))) ?_ _ _ _ _ ?_
  · rintro h1 a_2 b_3 i_4 ⟨rfl, j5, j6, j7, j8, j9, j10, j11, j12⟩ ihh1
    try dsimp only at ihh1
    refine sx_iload dX6_rowOfRun_9 rfl ?_
    refine sx_iload_n dX6_rowOfRun_11 rfl ?_
    refine sx_iload_n dX6_rowOfRun_12 rfl ?_
    refine sx_iadd dX6_rowOfRun_13 ?_
    refine sy_topw (by omega) ?_
    refine sx_icmp_ge (tgt := 66) dX6_rowOfRun_14 (by decide) (fun c13 => ?_) (fun c13 => ?_)
    ·
      have hni : b_3 = (nd (h0 3) f.toNat n.toNat).2 := by have q : (i_4 - f).toNat = n.toNat := (by omega); rw [← q]; assumption
      refine sx_aload_n dX6_rowOfRun_66 rfl ?_
      refine sx_iload dX6_rowOfRun_67 rfl ?_
      refine sy_putI (k := 8) cl_6 fl_X6_97 dX6_rowOfRun_69 s_182 (by decide) rfl (by decide) rfl rfl (fun h14 eh14 => ?_)
      have Ih14 := hI.up eh14 trivial rfl rfl
      have th14_182_8 := eh14.1
      refine sx_iload dX6_rowOfRun_72 rfl ?_
      refine sx_iconst dX6_rowOfRun_74 ⟨by decide, by decide⟩ ?_
      refine sx_icmp_le (tgt := 82) dX6_rowOfRun_75 (by decide) (fun c15 => ?_) (fun c15 => ?_)
      ·
        refine sx_iload dX6_rowOfRun_82 rfl ?_
        refine sx_callSi lk_X6_52 dX6_rowOfRun_84 (vs := [_]) rfl rfl (Nat.le_of_ble_eq_true rfl) (Nat.le_of_ble_eq_true rfl) rfl (c_X6_firstRow _ Ih14.1 _ (by omega)) (fun x17 h16 ph16 => ?_)
        obtain ⟨rfl, s_x17⟩ := ph16
        refine sx_istore dX6_rowOfRun_87 (by decide) ?_
        refine sx_iload_n dX6_rowOfRun_89 rfl ?_
        refine sx_istore dX6_rowOfRun_90 (by decide) ?_
        refine sx_loop2 (fun (h : sw_H) (r : Int) (i : Int) => (h14 = h) ∧ (f ≤ i) ∧ (r = -1 ∨ (0 ≤ r ∧ r ≤ 1023)) ∧ (r ≠ -1 → b_3 ≤ 3)) (fun (h : sw_H) (r : Int) (i : Int) => (f + n - i).toNat) (fun (h : sw_H) (r : Int) (i : Int) => sw_E G NH SH (d + 2) mX6_rowOfRun 92 [some (sw_r 182), some (sw_r 1), some (sw_i f), some (sw_i n), some (sw_i a_2), some (sw_i b_3), some (sw_i r), some (sw_i i)] [] h (sw_Qi (fun z h' => cK prH h0 h' ∧ h' 182 8 = (nd (h0 3) f.toNat n.toNat).2 ∧ (z ≠ -1 → h' 182 8 ≤ 3) ∧ -1 ≤ z ∧ z ≤ 1023))) ?_ _ _ _ ?_
        · rintro h18 r_19 i_20 ⟨rfl, j21, j22, j23⟩ ihh18
          try dsimp only at ihh18
          refine sx_iload dX6_rowOfRun_92 rfl ?_
          refine sx_iload_n dX6_rowOfRun_94 rfl ?_
          refine sx_iload_n dX6_rowOfRun_95 rfl ?_
          refine sx_iadd dX6_rowOfRun_96 ?_
          refine sy_topw (by omega) ?_
          refine sx_icmp_ge (tgt := 126) dX6_rowOfRun_97 (by decide) (fun c24 => ?_) (fun c24 => ?_)
          ·
            refine sx_iload dX6_rowOfRun_126 rfl ?_
            refine sx_ireturn dX6_rowOfRun_128 ?_
            exact ⟨_, rfl, ⟨Ih14, by omega, fun q => by omega, by omega, by omega⟩⟩
          ·
            refine sx_iload dX6_rowOfRun_100 rfl ?_
            refine sx_iconst dX6_rowOfRun_102 ⟨by decide, by decide⟩ ?_
            refine sx_icmp_eq (tgt := 126) dX6_rowOfRun_103 (by decide) (fun c25 => ?_) (fun c25 => ?_)
            ·
              refine sx_iload dX6_rowOfRun_126 rfl ?_
              refine sx_ireturn dX6_rowOfRun_128 ?_
              exact ⟨_, rfl, ⟨Ih14, by omega, fun q => by omega, by omega, by omega⟩⟩
            ·
              have hvi := hv i_20 (by omega) (by omega)
              have hfe : h14 3 = h0 3 := funext (fun k => Ih14.2 3 k rfl)
              refine sx_iload dX6_rowOfRun_106 rfl ?_
              refine sx_aload_n dX6_rowOfRun_108 rfl ?_
              refine sx_getS (k := 6) (t := 3) cl_0 fl_X6_112 dX6_rowOfRun_109 s_1 (by decide) rfl (by decide) ?_
              refine sx_iload dX6_rowOfRun_112 rfl ?_
              refine sx_iaload dX6_rowOfRun_114 s_3 (by decide) (by decide) ⟨by omega, by omega⟩ ?_
              rw [hfe]
              refine sx_callSi lk_X6_68 dX6_rowOfRun_115 (vs := [_, _]) rfl rfl (Nat.le_of_ble_eq_true rfl) (Nat.le_of_ble_eq_true rfl) rfl (c_X6_shuffle _ Ih14.1 _ _ (by omega) (by omega)) (fun x27 h26 ph26 => ?_)
              obtain ⟨rfl, s_x27⟩ := ph26
              refine sx_istore dX6_rowOfRun_118 (by decide) ?_
              refine sx_iinc dX6_rowOfRun_120 (by decide) rfl ?_
              rw [sw_w_id (by omega) (by omega)]
              refine sx_goto (tgt := 92) dX6_rowOfRun_123 (by decide) ?_
              exact ihh18 _ _ _ ⟨rfl, by omega, by omega, by omega⟩ (by exact sy_dec (by omega) (by omega))
        · exact ⟨rfl, by omega, by omega, by omega⟩
      ·
        refine sx_iconst dX6_rowOfRun_78 ⟨by decide, by decide⟩ ?_
        refine sx_goto (tgt := 87) dX6_rowOfRun_79 (by decide) ?_
        refine sx_istore dX6_rowOfRun_87 (by decide) ?_
        refine sx_iload_n dX6_rowOfRun_89 rfl ?_
        refine sx_istore dX6_rowOfRun_90 (by decide) ?_
        refine sx_loop2 (fun (h : sw_H) (r : Int) (i : Int) => (h14 = h) ∧ (f ≤ i) ∧ (r = -1 ∨ (0 ≤ r ∧ r ≤ 1023)) ∧ (r ≠ -1 → b_3 ≤ 3)) (fun (h : sw_H) (r : Int) (i : Int) => (f + n - i).toNat) (fun (h : sw_H) (r : Int) (i : Int) => sw_E G NH SH (d + 2) mX6_rowOfRun 92 [some (sw_r 182), some (sw_r 1), some (sw_i f), some (sw_i n), some (sw_i a_2), some (sw_i b_3), some (sw_i r), some (sw_i i)] [] h (sw_Qi (fun z h' => cK prH h0 h' ∧ h' 182 8 = (nd (h0 3) f.toNat n.toNat).2 ∧ (z ≠ -1 → h' 182 8 ≤ 3) ∧ -1 ≤ z ∧ z ≤ 1023))) ?_ _ _ _ ?_
        · rintro h28 r_29 i_30 ⟨rfl, j31, j32, j33⟩ ihh28
          try dsimp only at ihh28
          refine sx_iload dX6_rowOfRun_92 rfl ?_
          refine sx_iload_n dX6_rowOfRun_94 rfl ?_
          refine sx_iload_n dX6_rowOfRun_95 rfl ?_
          refine sx_iadd dX6_rowOfRun_96 ?_
          refine sy_topw (by omega) ?_
          refine sx_icmp_ge (tgt := 126) dX6_rowOfRun_97 (by decide) (fun c34 => ?_) (fun c34 => ?_)
          ·
            refine sx_iload dX6_rowOfRun_126 rfl ?_
            refine sx_ireturn dX6_rowOfRun_128 ?_
            exact ⟨_, rfl, ⟨Ih14, by omega, fun q => by omega, by omega, by omega⟩⟩
          ·
            refine sx_iload dX6_rowOfRun_100 rfl ?_
            refine sx_iconst dX6_rowOfRun_102 ⟨by decide, by decide⟩ ?_
            refine sx_icmp_eq (tgt := 126) dX6_rowOfRun_103 (by decide) (fun c35 => ?_) (fun c35 => ?_)
            ·
              refine sx_iload dX6_rowOfRun_126 rfl ?_
              refine sx_ireturn dX6_rowOfRun_128 ?_
              exact ⟨_, rfl, ⟨Ih14, by omega, fun q => by omega, by omega, by omega⟩⟩
            ·
              have hvi := hv i_30 (by omega) (by omega)
              have hfe : h14 3 = h0 3 := funext (fun k => Ih14.2 3 k rfl)
              refine sx_iload dX6_rowOfRun_106 rfl ?_
              refine sx_aload_n dX6_rowOfRun_108 rfl ?_
              refine sx_getS (k := 6) (t := 3) cl_0 fl_X6_112 dX6_rowOfRun_109 s_1 (by decide) rfl (by decide) ?_
              refine sx_iload dX6_rowOfRun_112 rfl ?_
              refine sx_iaload dX6_rowOfRun_114 s_3 (by decide) (by decide) ⟨by omega, by omega⟩ ?_
              rw [hfe]
              refine sx_callSi lk_X6_68 dX6_rowOfRun_115 (vs := [_, _]) rfl rfl (Nat.le_of_ble_eq_true rfl) (Nat.le_of_ble_eq_true rfl) rfl (c_X6_shuffle _ Ih14.1 _ _ (by omega) (by omega)) (fun x37 h36 ph36 => ?_)
              obtain ⟨rfl, s_x37⟩ := ph36
              refine sx_istore dX6_rowOfRun_118 (by decide) ?_
              refine sx_iinc dX6_rowOfRun_120 (by decide) rfl ?_
              rw [sw_w_id (by omega) (by omega)]
              refine sx_goto (tgt := 92) dX6_rowOfRun_123 (by decide) ?_
              exact ihh28 _ _ _ ⟨rfl, by omega, by omega, by omega⟩ (by exact sy_dec (by omega) (by omega))
        · exact ⟨rfl, by omega, by omega, by omega⟩
    ·
      refine sx_aload_n dX6_rowOfRun_17 rfl ?_
      refine sx_getS (k := 6) (t := 3) cl_0 fl_X6_112 dX6_rowOfRun_18 s_1 (by decide) rfl (by decide) ?_
      refine sx_iload dX6_rowOfRun_21 rfl ?_
      refine sx_iaload dX6_rowOfRun_23 s_3 (by decide) (by decide) ⟨by omega, by omega⟩ ?_
      refine sy_top (fun v38 ev38 => ?_)
      refine sx_istore dX6_rowOfRun_24 (by decide) ?_
      subst ev38
      have hvi := hv i_4 (by omega) (by omega)
      have hst := nd_step (h0 3) f i_4 (by omega) (by omega)
      refine sx_iload dX6_rowOfRun_26 rfl ?_
      refine sx_gets (t := 0) (by decide) sl_X6_37 dX6_rowOfRun_28 ?_
      refine sx_iload dX6_rowOfRun_31 rfl ?_
      refine sy_sia (t := 0) (n := 15) (by decide) dX6_rowOfRun_33 rfl ⟨by omega, by omega⟩ (fun r39 => ?_)
      refine sx_iload dX6_rowOfRun_34 rfl ?_
      refine sx_isub dX6_rowOfRun_36 ?_
      refine sy_topw (by omega) ?_
      refine sx_max lm_X6_100 lw_max dX6_rowOfRun_37 (Nat.le_of_ble_eq_true rfl) ?_
      refine sy_max (fun m40 em40 fm40 gm40 => ?_)
      refine sy_top (fun v41 ev41 => ?_)
      refine sx_istore dX6_rowOfRun_40 (by decide) ?_
      refine sx_iload dX6_rowOfRun_42 rfl ?_
      refine sx_gets (t := 1) (by decide) sl_X6_34 dX6_rowOfRun_44 ?_
      refine sx_iload dX6_rowOfRun_47 rfl ?_
      refine sy_sia (t := 1) (n := 15) (by decide) dX6_rowOfRun_49 rfl ⟨by omega, by omega⟩ (fun r42 => ?_)
      refine sx_gets (t := 0) (by decide) sl_X6_37 dX6_rowOfRun_50 ?_
      refine sx_iload dX6_rowOfRun_53 rfl ?_
      refine sy_sia (t := 0) (n := 15) (by decide) dX6_rowOfRun_55 rfl ⟨by omega, by omega⟩ (fun r43 => ?_)
      refine sx_isub dX6_rowOfRun_56 ?_
      refine sy_topw (by omega) ?_
      refine sx_iadd dX6_rowOfRun_57 ?_
      refine sy_topw (by omega) ?_
      refine sy_top (fun v44 ev44 => ?_)
      refine sx_istore dX6_rowOfRun_58 (by decide) ?_
      refine sx_iinc dX6_rowOfRun_60 (by decide) rfl ?_
      rw [sw_w_id (by omega) (by omega)]
      refine sx_goto (tgt := 9) dX6_rowOfRun_63 (by decide) ?_
      refine sx_kill 7 ?_
      exact ihh1 _ _ _ _ ⟨rfl, by first | omega | (rw [hst]; dsimp only; omega) | (rw [hst]; dsimp only; split <;> omega), by first | omega | (rw [hst]; dsimp only; omega) | (rw [hst]; dsimp only; split <;> omega), by first | omega | (rw [hst]; dsimp only; omega) | (rw [hst]; dsimp only; split <;> omega), by first | omega | (rw [hst]; dsimp only; omega) | (rw [hst]; dsimp only; split <;> omega), by first | omega | (rw [hst]; dsimp only; omega) | (rw [hst]; dsimp only; split <;> omega), by first | omega | (rw [hst]; dsimp only; omega) | (rw [hst]; dsimp only; split <;> omega), by first | omega | (rw [hst]; dsimp only; omega) | (rw [hst]; dsimp only; split <;> omega), by first | omega | (rw [hst]; dsimp only; omega) | (rw [hst]; dsimp only; split <;> omega)⟩ (by exact sy_dec (by omega) (by omega))
  · exact ⟨rfl, by omega, by omega, by simp [nd], by simp [nd], by omega, by omega, by omega, by omega⟩
set_option maxRecDepth 20000 in
set_option maxHeartbeats 4000000 in
theorem c_X6_rowOfRun_13 {G : sw_G} (d : Nat) {h0 : sw_H} (hJ : cJ h0) (f n : Int) (hf : 0 ≤ f ∧ 0 ≤ n ∧ n ≤ 6 ∧ f + n ≤ 60) (hv : ∀ i : Int, f ≤ i → i < f + n → 0 ≤ h0 15 i.toNat ∧ h0 15 i.toNat ≤ 6) : sw_E G NH SH (d + 2) mX6_rowOfRun 0 [some (sw_r 182), some (sw_r 13), some (sw_i f), some (sw_i n), none, none, none, none] [] h0 (sw_Qi (fun z h' => cK prH h0 h' ∧ h' 182 8 = (nd (h0 15) f.toNat n.toNat).2 ∧ (z ≠ -1 → h' 182 8 ≤ 3) ∧ -1 ≤ z ∧ z ≤ 1023)) := by
  have hI : cK prH h0 h0 := cK.refl hJ
  refine sx_iconst dX6_rowOfRun_0 ⟨by decide, by decide⟩ ?_
  refine sx_istore dX6_rowOfRun_1 (by decide) ?_
  refine sx_iconst dX6_rowOfRun_3 ⟨by decide, by decide⟩ ?_
  refine sx_istore dX6_rowOfRun_4 (by decide) ?_
  refine sx_iload_n dX6_rowOfRun_6 rfl ?_
  refine sx_istore dX6_rowOfRun_7 (by decide) ?_
  refine sx_loop3 (fun (h : sw_H) (a : Int) (b : Int) (i : Int) => (h0 = h) ∧ (f ≤ i) ∧ (i ≤ f + n) ∧ (a = (nd (h0 15) f.toNat (i - f).toNat).1) ∧ (b = (nd (h0 15) f.toNat (i - f).toNat).2) ∧ (-(3 * (i - f)) ≤ a) ∧ (a ≤ 3 * (i - f)) ∧ (0 ≤ b) ∧ (b ≤ 3 + 3 * (i - f))) (fun (h : sw_H) (a : Int) (b : Int) (i : Int) => (f + n - i).toNat) (fun (h : sw_H) (a : Int) (b : Int) (i : Int) => sw_E G NH SH (d + 2) mX6_rowOfRun 9 [some (sw_r 182), some (sw_r 13), some (sw_i f), some (sw_i n), some (sw_i a), some (sw_i b), some (sw_i i), none] [] h (sw_Qi (fun z h' => cK prH h0 h' ∧ h' 182 8 = (nd (h0 15) f.toNat n.toNat).2 ∧ (z ≠ -1 → h' 182 8 ≤ 3) ∧ -1 ≤ z ∧ z ≤ 1023))) ?_ _ _ _ _ ?_
  · rintro h1 a_2 b_3 i_4 ⟨rfl, j5, j6, j7, j8, j9, j10, j11, j12⟩ ihh1
    try dsimp only at ihh1
    refine sx_iload dX6_rowOfRun_9 rfl ?_
    refine sx_iload_n dX6_rowOfRun_11 rfl ?_
    refine sx_iload_n dX6_rowOfRun_12 rfl ?_
    refine sx_iadd dX6_rowOfRun_13 ?_
    refine sy_topw (by omega) ?_
    refine sx_icmp_ge (tgt := 66) dX6_rowOfRun_14 (by decide) (fun c13 => ?_) (fun c13 => ?_)
    ·
      have hni : b_3 = (nd (h0 15) f.toNat n.toNat).2 := by have q : (i_4 - f).toNat = n.toNat := (by omega); rw [← q]; assumption
      refine sx_aload_n dX6_rowOfRun_66 rfl ?_
      refine sx_iload dX6_rowOfRun_67 rfl ?_
      refine sy_putI (k := 8) cl_6 fl_X6_97 dX6_rowOfRun_69 s_182 (by decide) rfl (by decide) rfl rfl (fun h14 eh14 => ?_)
      have Ih14 := hI.up eh14 trivial rfl rfl
      have th14_182_8 := eh14.1
      refine sx_iload dX6_rowOfRun_72 rfl ?_
      refine sx_iconst dX6_rowOfRun_74 ⟨by decide, by decide⟩ ?_
      refine sx_icmp_le (tgt := 82) dX6_rowOfRun_75 (by decide) (fun c15 => ?_) (fun c15 => ?_)
      ·
        refine sx_iload dX6_rowOfRun_82 rfl ?_
        refine sx_callSi lk_X6_52 dX6_rowOfRun_84 (vs := [_]) rfl rfl (Nat.le_of_ble_eq_true rfl) (Nat.le_of_ble_eq_true rfl) rfl (c_X6_firstRow _ Ih14.1 _ (by omega)) (fun x17 h16 ph16 => ?_)
        obtain ⟨rfl, s_x17⟩ := ph16
        refine sx_istore dX6_rowOfRun_87 (by decide) ?_
        refine sx_iload_n dX6_rowOfRun_89 rfl ?_
        refine sx_istore dX6_rowOfRun_90 (by decide) ?_
        refine sx_loop2 (fun (h : sw_H) (r : Int) (i : Int) => (h14 = h) ∧ (f ≤ i) ∧ (r = -1 ∨ (0 ≤ r ∧ r ≤ 1023)) ∧ (r ≠ -1 → b_3 ≤ 3)) (fun (h : sw_H) (r : Int) (i : Int) => (f + n - i).toNat) (fun (h : sw_H) (r : Int) (i : Int) => sw_E G NH SH (d + 2) mX6_rowOfRun 92 [some (sw_r 182), some (sw_r 13), some (sw_i f), some (sw_i n), some (sw_i a_2), some (sw_i b_3), some (sw_i r), some (sw_i i)] [] h (sw_Qi (fun z h' => cK prH h0 h' ∧ h' 182 8 = (nd (h0 15) f.toNat n.toNat).2 ∧ (z ≠ -1 → h' 182 8 ≤ 3) ∧ -1 ≤ z ∧ z ≤ 1023))) ?_ _ _ _ ?_
        · rintro h18 r_19 i_20 ⟨rfl, j21, j22, j23⟩ ihh18
          try dsimp only at ihh18
          refine sx_iload dX6_rowOfRun_92 rfl ?_
          refine sx_iload_n dX6_rowOfRun_94 rfl ?_
          refine sx_iload_n dX6_rowOfRun_95 rfl ?_
          refine sx_iadd dX6_rowOfRun_96 ?_
          refine sy_topw (by omega) ?_
          refine sx_icmp_ge (tgt := 126) dX6_rowOfRun_97 (by decide) (fun c24 => ?_) (fun c24 => ?_)
          ·
            refine sx_iload dX6_rowOfRun_126 rfl ?_
            refine sx_ireturn dX6_rowOfRun_128 ?_
            exact ⟨_, rfl, ⟨Ih14, by omega, fun q => by omega, by omega, by omega⟩⟩
          ·
            refine sx_iload dX6_rowOfRun_100 rfl ?_
            refine sx_iconst dX6_rowOfRun_102 ⟨by decide, by decide⟩ ?_
            refine sx_icmp_eq (tgt := 126) dX6_rowOfRun_103 (by decide) (fun c25 => ?_) (fun c25 => ?_)
            ·
              refine sx_iload dX6_rowOfRun_126 rfl ?_
              refine sx_ireturn dX6_rowOfRun_128 ?_
              exact ⟨_, rfl, ⟨Ih14, by omega, fun q => by omega, by omega, by omega⟩⟩
            ·
              have hvi := hv i_20 (by omega) (by omega)
              have hfe : h14 15 = h0 15 := funext (fun k => Ih14.2 15 k rfl)
              refine sx_iload dX6_rowOfRun_106 rfl ?_
              refine sx_aload_n dX6_rowOfRun_108 rfl ?_
              refine sx_getS (k := 6) (t := 15) cl_0 fl_X6_112 dX6_rowOfRun_109 s_13 (by decide) rfl (by decide) ?_
              refine sx_iload dX6_rowOfRun_112 rfl ?_
              refine sx_iaload dX6_rowOfRun_114 s_15 (by decide) (by decide) ⟨by omega, by omega⟩ ?_
              rw [hfe]
              refine sx_callSi lk_X6_68 dX6_rowOfRun_115 (vs := [_, _]) rfl rfl (Nat.le_of_ble_eq_true rfl) (Nat.le_of_ble_eq_true rfl) rfl (c_X6_shuffle _ Ih14.1 _ _ (by omega) (by omega)) (fun x27 h26 ph26 => ?_)
              obtain ⟨rfl, s_x27⟩ := ph26
              refine sx_istore dX6_rowOfRun_118 (by decide) ?_
              refine sx_iinc dX6_rowOfRun_120 (by decide) rfl ?_
              rw [sw_w_id (by omega) (by omega)]
              refine sx_goto (tgt := 92) dX6_rowOfRun_123 (by decide) ?_
              exact ihh18 _ _ _ ⟨rfl, by omega, by omega, by omega⟩ (by exact sy_dec (by omega) (by omega))
        · exact ⟨rfl, by omega, by omega, by omega⟩
      ·
        refine sx_iconst dX6_rowOfRun_78 ⟨by decide, by decide⟩ ?_
        refine sx_goto (tgt := 87) dX6_rowOfRun_79 (by decide) ?_
        refine sx_istore dX6_rowOfRun_87 (by decide) ?_
        refine sx_iload_n dX6_rowOfRun_89 rfl ?_
        refine sx_istore dX6_rowOfRun_90 (by decide) ?_
        refine sx_loop2 (fun (h : sw_H) (r : Int) (i : Int) => (h14 = h) ∧ (f ≤ i) ∧ (r = -1 ∨ (0 ≤ r ∧ r ≤ 1023)) ∧ (r ≠ -1 → b_3 ≤ 3)) (fun (h : sw_H) (r : Int) (i : Int) => (f + n - i).toNat) (fun (h : sw_H) (r : Int) (i : Int) => sw_E G NH SH (d + 2) mX6_rowOfRun 92 [some (sw_r 182), some (sw_r 13), some (sw_i f), some (sw_i n), some (sw_i a_2), some (sw_i b_3), some (sw_i r), some (sw_i i)] [] h (sw_Qi (fun z h' => cK prH h0 h' ∧ h' 182 8 = (nd (h0 15) f.toNat n.toNat).2 ∧ (z ≠ -1 → h' 182 8 ≤ 3) ∧ -1 ≤ z ∧ z ≤ 1023))) ?_ _ _ _ ?_
        · rintro h28 r_29 i_30 ⟨rfl, j31, j32, j33⟩ ihh28
          try dsimp only at ihh28
          refine sx_iload dX6_rowOfRun_92 rfl ?_
          refine sx_iload_n dX6_rowOfRun_94 rfl ?_
          refine sx_iload_n dX6_rowOfRun_95 rfl ?_
          refine sx_iadd dX6_rowOfRun_96 ?_
          refine sy_topw (by omega) ?_
          refine sx_icmp_ge (tgt := 126) dX6_rowOfRun_97 (by decide) (fun c34 => ?_) (fun c34 => ?_)
          ·
            refine sx_iload dX6_rowOfRun_126 rfl ?_
            refine sx_ireturn dX6_rowOfRun_128 ?_
            exact ⟨_, rfl, ⟨Ih14, by omega, fun q => by omega, by omega, by omega⟩⟩
          ·
            refine sx_iload dX6_rowOfRun_100 rfl ?_
            refine sx_iconst dX6_rowOfRun_102 ⟨by decide, by decide⟩ ?_
            refine sx_icmp_eq (tgt := 126) dX6_rowOfRun_103 (by decide) (fun c35 => ?_) (fun c35 => ?_)
            ·
              refine sx_iload dX6_rowOfRun_126 rfl ?_
              refine sx_ireturn dX6_rowOfRun_128 ?_
              exact ⟨_, rfl, ⟨Ih14, by omega, fun q => by omega, by omega, by omega⟩⟩
            ·
              have hvi := hv i_30 (by omega) (by omega)
              have hfe : h14 15 = h0 15 := funext (fun k => Ih14.2 15 k rfl)
              refine sx_iload dX6_rowOfRun_106 rfl ?_
              refine sx_aload_n dX6_rowOfRun_108 rfl ?_
              refine sx_getS (k := 6) (t := 15) cl_0 fl_X6_112 dX6_rowOfRun_109 s_13 (by decide) rfl (by decide) ?_
              refine sx_iload dX6_rowOfRun_112 rfl ?_
              refine sx_iaload dX6_rowOfRun_114 s_15 (by decide) (by decide) ⟨by omega, by omega⟩ ?_
              rw [hfe]
              refine sx_callSi lk_X6_68 dX6_rowOfRun_115 (vs := [_, _]) rfl rfl (Nat.le_of_ble_eq_true rfl) (Nat.le_of_ble_eq_true rfl) rfl (c_X6_shuffle _ Ih14.1 _ _ (by omega) (by omega)) (fun x37 h36 ph36 => ?_)
              obtain ⟨rfl, s_x37⟩ := ph36
              refine sx_istore dX6_rowOfRun_118 (by decide) ?_
              refine sx_iinc dX6_rowOfRun_120 (by decide) rfl ?_
              rw [sw_w_id (by omega) (by omega)]
              refine sx_goto (tgt := 92) dX6_rowOfRun_123 (by decide) ?_
              exact ihh28 _ _ _ ⟨rfl, by omega, by omega, by omega⟩ (by exact sy_dec (by omega) (by omega))
        · exact ⟨rfl, by omega, by omega, by omega⟩
    ·
      refine sx_aload_n dX6_rowOfRun_17 rfl ?_
      refine sx_getS (k := 6) (t := 15) cl_0 fl_X6_112 dX6_rowOfRun_18 s_13 (by decide) rfl (by decide) ?_
      refine sx_iload dX6_rowOfRun_21 rfl ?_
      refine sx_iaload dX6_rowOfRun_23 s_15 (by decide) (by decide) ⟨by omega, by omega⟩ ?_
      refine sy_top (fun v38 ev38 => ?_)
      refine sx_istore dX6_rowOfRun_24 (by decide) ?_
      subst ev38
      have hvi := hv i_4 (by omega) (by omega)
      have hst := nd_step (h0 15) f i_4 (by omega) (by omega)
      refine sx_iload dX6_rowOfRun_26 rfl ?_
      refine sx_gets (t := 0) (by decide) sl_X6_37 dX6_rowOfRun_28 ?_
      refine sx_iload dX6_rowOfRun_31 rfl ?_
      refine sy_sia (t := 0) (n := 15) (by decide) dX6_rowOfRun_33 rfl ⟨by omega, by omega⟩ (fun r39 => ?_)
      refine sx_iload dX6_rowOfRun_34 rfl ?_
      refine sx_isub dX6_rowOfRun_36 ?_
      refine sy_topw (by omega) ?_
      refine sx_max lm_X6_100 lw_max dX6_rowOfRun_37 (Nat.le_of_ble_eq_true rfl) ?_
      refine sy_max (fun m40 em40 fm40 gm40 => ?_)
      refine sy_top (fun v41 ev41 => ?_)
      refine sx_istore dX6_rowOfRun_40 (by decide) ?_
      refine sx_iload dX6_rowOfRun_42 rfl ?_
      refine sx_gets (t := 1) (by decide) sl_X6_34 dX6_rowOfRun_44 ?_
      refine sx_iload dX6_rowOfRun_47 rfl ?_
      refine sy_sia (t := 1) (n := 15) (by decide) dX6_rowOfRun_49 rfl ⟨by omega, by omega⟩ (fun r42 => ?_)
      refine sx_gets (t := 0) (by decide) sl_X6_37 dX6_rowOfRun_50 ?_
      refine sx_iload dX6_rowOfRun_53 rfl ?_
      refine sy_sia (t := 0) (n := 15) (by decide) dX6_rowOfRun_55 rfl ⟨by omega, by omega⟩ (fun r43 => ?_)
      refine sx_isub dX6_rowOfRun_56 ?_
      refine sy_topw (by omega) ?_
      refine sx_iadd dX6_rowOfRun_57 ?_
      refine sy_topw (by omega) ?_
      refine sy_top (fun v44 ev44 => ?_)
      refine sx_istore dX6_rowOfRun_58 (by decide) ?_
      refine sx_iinc dX6_rowOfRun_60 (by decide) rfl ?_
      rw [sw_w_id (by omega) (by omega)]
      refine sx_goto (tgt := 9) dX6_rowOfRun_63 (by decide) ?_
      refine sx_kill 7 ?_
      exact ihh1 _ _ _ _ ⟨rfl, by first | omega | (rw [hst]; dsimp only; omega) | (rw [hst]; dsimp only; split <;> omega), by first | omega | (rw [hst]; dsimp only; omega) | (rw [hst]; dsimp only; split <;> omega), by first | omega | (rw [hst]; dsimp only; omega) | (rw [hst]; dsimp only; split <;> omega), by first | omega | (rw [hst]; dsimp only; omega) | (rw [hst]; dsimp only; split <;> omega), by first | omega | (rw [hst]; dsimp only; omega) | (rw [hst]; dsimp only; split <;> omega), by first | omega | (rw [hst]; dsimp only; omega) | (rw [hst]; dsimp only; split <;> omega), by first | omega | (rw [hst]; dsimp only; omega) | (rw [hst]; dsimp only; split <;> omega), by first | omega | (rw [hst]; dsimp only; omega) | (rw [hst]; dsimp only; split <;> omega)⟩ (by exact sy_dec (by omega) (by omega))
  · exact ⟨rfl, by omega, by omega, by simp [nd], by simp [nd], by omega, by omega, by omega, by omega⟩
set_option maxRecDepth 20000 in
set_option maxHeartbeats 4000000 in
theorem c_X6_longestRun_1 {G : sw_G} (d : Nat) {h0 : sw_H} (hJ : cJ h0) (f u : Int) (hf : 0 ≤ f ∧ f ≤ u ∧ u ≤ 60) : sw_E G NH SH (d + 3) mX6_longestRun 0 [some (sw_r 182), some (sw_r 1), some (sw_i f), some (sw_i u), none, none, none] [] h0 (sw_Qi (fun z h' => cK prH h0 h' ∧ 0 ≤ z ∧ z ≤ 6 ∧ f + z ≤ u ∧ (∀ i : Int, f ≤ i → i < f + z → 0 ≤ h0 3 i.toNat ∧ h0 3 i.toNat ≤ 6) ∧ (2 ≤ z → (nd (h0 3) f.toNat z.toNat).2 ≤ 3))) := by
  have hI : cK prH h0 h0 := cK.refl hJ
  refine sx_iconst dX6_longestRun_0 ⟨by decide, by decide⟩ ?_
  refine sx_istore dX6_longestRun_1 (by decide) ?_
  refine sx_loop1 (fun (h : sw_H) (m : Int) => (h0 = h) ∧ (0 ≤ m) ∧ (m ≤ 6) ∧ (f + m ≤ u) ∧ (∀ i : Int, f ≤ i → i < f + m → 0 ≤ h0 3 i.toNat ∧ h0 3 i.toNat ≤ 6)) (fun (h : sw_H) (m : Int) => (6 - m).toNat) (fun (h : sw_H) (m : Int) => sw_E G NH SH (d + 3) mX6_longestRun 3 [some (sw_r 182), some (sw_r 1), some (sw_i f), some (sw_i u), some (sw_i m), none, none] [] h (sw_Qi (fun z h' => cK prH h0 h' ∧ 0 ≤ z ∧ z ≤ 6 ∧ f + z ≤ u ∧ (∀ i : Int, f ≤ i → i < f + z → 0 ≤ h0 3 i.toNat ∧ h0 3 i.toNat ≤ 6) ∧ (2 ≤ z → (nd (h0 3) f.toNat z.toNat).2 ≤ 3)))) ?_ _ _ ?_
  · rintro h1 m_2 ⟨rfl, m0, m1, m2, hvm⟩ ihh1
    try dsimp only at ihh1
    obtain ⟨mm, hmm⟩ : ∃ x, x = m_2 := ⟨_, rfl⟩
    refine sx_iload dX6_longestRun_3 rfl ?_
    refine sx_bipush dX6_longestRun_5 ⟨by decide, by decide, by decide⟩ ?_
    refine sx_icmp_ge (tgt := 35) dX6_longestRun_7 (by decide) (fun c3 => ?_) (fun c3 => ?_)
    ·
      refine sx_iload dX6_longestRun_35 rfl ?_
      refine sx_istore dX6_longestRun_37 (by decide) ?_
      refine sx_loop1 (fun (h : sw_H) (l : Int) => (cK prH h0 h) ∧ (l ≤ m_2)) (fun (h : sw_H) (l : Int) => l.toNat) (fun (h : sw_H) (l : Int) => sw_E G NH SH (d + 3) mX6_longestRun 39 [some (sw_r 182), some (sw_r 1), some (sw_i f), some (sw_i u), some (sw_i m_2), some (sw_i l), none] [] h (sw_Qi (fun z h' => cK prH h0 h' ∧ 0 ≤ z ∧ z ≤ 6 ∧ f + z ≤ u ∧ (∀ i : Int, f ≤ i → i < f + z → 0 ≤ h0 3 i.toNat ∧ h0 3 i.toNat ≤ 6) ∧ (2 ≤ z → (nd (h0 3) f.toNat z.toNat).2 ≤ 3)))) ?_ _ _ ?_
      · rintro h4 l_5 ⟨Ih4, j6⟩ ihh4
        try dsimp only at ihh4
        refine sx_iload dX6_longestRun_39 rfl ?_
        refine sx_iconst dX6_longestRun_41 ⟨by decide, by decide⟩ ?_
        refine sx_icmp_le (tgt := 78) dX6_longestRun_42 (by decide) (fun c7 => ?_) (fun c7 => ?_)
        ·
          refine sx_iload dX6_longestRun_78 rfl ?_
          refine sx_iconst dX6_longestRun_80 ⟨by decide, by decide⟩ ?_
          refine sx_min lm_X6_109 lw_min dX6_longestRun_81 (Nat.le_of_ble_eq_true rfl) ?_
          refine sy_min (fun m8 em8 fm8 gm8 => ?_)
          refine sx_ireturn dX6_longestRun_84 ?_
          exact ⟨_, rfl, ⟨Ih4, by omega, by omega, by omega, fun i q1 q2 => hvm i q1 (by omega), fun _ => by omega⟩⟩
        ·
          refine sx_aload_n dX6_longestRun_45 rfl ?_
          refine sx_aload_n dX6_longestRun_46 rfl ?_
          refine sx_iload_n dX6_longestRun_47 rfl ?_
          refine sx_iload dX6_longestRun_48 rfl ?_
          refine sx_callVi lk_X6_94 cl_6 s_182 (by decide) dX6_longestRun_50 (vs := [_, _, _]) rfl rfl (Nat.le_of_ble_eq_true rfl) (Nat.le_of_ble_eq_true rfl) rfl (c_X6_rowOfRun_1 _ Ih4.1 _ _ (by omega) (by intro i q1 q2; rw [Ih4.2 3 _ rfl]; exact hvm i q1 (by omega))) (fun x10 h9 ph9 => ?_)
          obtain ⟨Kh9, n_h9, m_h9, lo_h9, hi_h9⟩ := ph9
          have Ih9 := Ih4.tr Kh9 sb_prH_prH
          have hfe_h9 : h4 3 = h0 3 := funext (fun k => Ih4.2 3 k rfl)
          rw [hfe_h9] at n_h9
          refine sx_istore dX6_longestRun_53 (by decide) ?_
          refine sx_iload dX6_longestRun_55 rfl ?_
          refine sx_iconst dX6_longestRun_57 ⟨by decide, by decide⟩ ?_
          refine sx_icmp_eq (tgt := 72) dX6_longestRun_58 (by decide) (fun c11 => ?_) (fun c11 => ?_)
          ·
            refine sx_iinc dX6_longestRun_72 (by decide) rfl ?_
            rw [sw_w_id (by omega) (by omega)]
            refine sx_goto (tgt := 39) dX6_longestRun_75 (by decide) ?_
            refine sx_kill 6 ?_
            exact ihh4 _ _ ⟨Ih9, by omega⟩ (by exact sy_dec (by omega) (by omega))
          ·
            refine sx_iload dX6_longestRun_61 rfl ?_
            refine sx_sipush dX6_longestRun_63 ⟨by decide, by decide, by decide⟩ ?_
            refine sx_icmp_gt (tgt := 72) dX6_longestRun_66 (by decide) (fun c12 => ?_) (fun c12 => ?_)
            ·
              refine sx_iinc dX6_longestRun_72 (by decide) rfl ?_
              rw [sw_w_id (by omega) (by omega)]
              refine sx_goto (tgt := 39) dX6_longestRun_75 (by decide) ?_
              refine sx_kill 6 ?_
              exact ihh4 _ _ ⟨Ih9, by omega⟩ (by exact sy_dec (by omega) (by omega))
            ·
              refine sx_iload dX6_longestRun_69 rfl ?_
              refine sx_ireturn dX6_longestRun_71 ?_
              exact ⟨_, rfl, ⟨Ih9, by omega, by omega, by omega, fun i q1 q2 => hvm i q1 (by omega), fun _ => by omega⟩⟩
      · exact ⟨hI, by omega⟩
    ·
      refine sx_iload_n dX6_longestRun_10 rfl ?_
      refine sx_iload dX6_longestRun_11 rfl ?_
      refine sx_iadd dX6_longestRun_13 ?_
      refine sy_topw (by omega) ?_
      refine sx_iload_n dX6_longestRun_14 rfl ?_
      refine sx_icmp_ge (tgt := 35) dX6_longestRun_15 (by decide) (fun c13 => ?_) (fun c13 => ?_)
      ·
        refine sx_iload dX6_longestRun_35 rfl ?_
        refine sx_istore dX6_longestRun_37 (by decide) ?_
        refine sx_loop1 (fun (h : sw_H) (l : Int) => (cK prH h0 h) ∧ (l ≤ m_2)) (fun (h : sw_H) (l : Int) => l.toNat) (fun (h : sw_H) (l : Int) => sw_E G NH SH (d + 3) mX6_longestRun 39 [some (sw_r 182), some (sw_r 1), some (sw_i f), some (sw_i u), some (sw_i m_2), some (sw_i l), none] [] h (sw_Qi (fun z h' => cK prH h0 h' ∧ 0 ≤ z ∧ z ≤ 6 ∧ f + z ≤ u ∧ (∀ i : Int, f ≤ i → i < f + z → 0 ≤ h0 3 i.toNat ∧ h0 3 i.toNat ≤ 6) ∧ (2 ≤ z → (nd (h0 3) f.toNat z.toNat).2 ≤ 3)))) ?_ _ _ ?_
        · rintro h14 l_15 ⟨Ih14, j16⟩ ihh14
          try dsimp only at ihh14
          refine sx_iload dX6_longestRun_39 rfl ?_
          refine sx_iconst dX6_longestRun_41 ⟨by decide, by decide⟩ ?_
          refine sx_icmp_le (tgt := 78) dX6_longestRun_42 (by decide) (fun c17 => ?_) (fun c17 => ?_)
          ·
            refine sx_iload dX6_longestRun_78 rfl ?_
            refine sx_iconst dX6_longestRun_80 ⟨by decide, by decide⟩ ?_
            refine sx_min lm_X6_109 lw_min dX6_longestRun_81 (Nat.le_of_ble_eq_true rfl) ?_
            refine sy_min (fun m18 em18 fm18 gm18 => ?_)
            refine sx_ireturn dX6_longestRun_84 ?_
            exact ⟨_, rfl, ⟨Ih14, by omega, by omega, by omega, fun i q1 q2 => hvm i q1 (by omega), fun _ => by omega⟩⟩
          ·
            refine sx_aload_n dX6_longestRun_45 rfl ?_
            refine sx_aload_n dX6_longestRun_46 rfl ?_
            refine sx_iload_n dX6_longestRun_47 rfl ?_
            refine sx_iload dX6_longestRun_48 rfl ?_
            refine sx_callVi lk_X6_94 cl_6 s_182 (by decide) dX6_longestRun_50 (vs := [_, _, _]) rfl rfl (Nat.le_of_ble_eq_true rfl) (Nat.le_of_ble_eq_true rfl) rfl (c_X6_rowOfRun_1 _ Ih14.1 _ _ (by omega) (by intro i q1 q2; rw [Ih14.2 3 _ rfl]; exact hvm i q1 (by omega))) (fun x20 h19 ph19 => ?_)
            obtain ⟨Kh19, n_h19, m_h19, lo_h19, hi_h19⟩ := ph19
            have Ih19 := Ih14.tr Kh19 sb_prH_prH
            have hfe_h19 : h14 3 = h0 3 := funext (fun k => Ih14.2 3 k rfl)
            rw [hfe_h19] at n_h19
            refine sx_istore dX6_longestRun_53 (by decide) ?_
            refine sx_iload dX6_longestRun_55 rfl ?_
            refine sx_iconst dX6_longestRun_57 ⟨by decide, by decide⟩ ?_
            refine sx_icmp_eq (tgt := 72) dX6_longestRun_58 (by decide) (fun c21 => ?_) (fun c21 => ?_)
            ·
              refine sx_iinc dX6_longestRun_72 (by decide) rfl ?_
              rw [sw_w_id (by omega) (by omega)]
              refine sx_goto (tgt := 39) dX6_longestRun_75 (by decide) ?_
              refine sx_kill 6 ?_
              exact ihh14 _ _ ⟨Ih19, by omega⟩ (by exact sy_dec (by omega) (by omega))
            ·
              refine sx_iload dX6_longestRun_61 rfl ?_
              refine sx_sipush dX6_longestRun_63 ⟨by decide, by decide, by decide⟩ ?_
              refine sx_icmp_gt (tgt := 72) dX6_longestRun_66 (by decide) (fun c22 => ?_) (fun c22 => ?_)
              ·
                refine sx_iinc dX6_longestRun_72 (by decide) rfl ?_
                rw [sw_w_id (by omega) (by omega)]
                refine sx_goto (tgt := 39) dX6_longestRun_75 (by decide) ?_
                refine sx_kill 6 ?_
                exact ihh14 _ _ ⟨Ih19, by omega⟩ (by exact sy_dec (by omega) (by omega))
              ·
                refine sx_iload dX6_longestRun_69 rfl ?_
                refine sx_ireturn dX6_longestRun_71 ?_
                exact ⟨_, rfl, ⟨Ih19, by omega, by omega, by omega, fun i q1 q2 => hvm i q1 (by omega), fun _ => by omega⟩⟩
        · exact ⟨hI, by omega⟩
      ·
        refine sx_aload_n dX6_longestRun_18 rfl ?_
        refine sx_iload_n dX6_longestRun_19 rfl ?_
        refine sx_iload dX6_longestRun_20 rfl ?_
        refine sx_iadd dX6_longestRun_22 ?_
        refine sy_topw (by omega) ?_
        refine sx_callVz lk_X6_105 cl_0 s_1 (by decide) dX6_longestRun_23 (vs := [_]) rfl rfl (Nat.le_of_ble_eq_true rfl) (Nat.le_of_ble_eq_true rfl) rfl (c_X0_isShuffle_1 _ hI.1 _ (by first | omega | (rw [Int.tmod_eq_emod_of_nonneg (by omega)]; omega) | (rw [Int.tdiv_eq_ediv_of_nonneg (by omega)]; omega))) (fun x24 h23 zx24 ph23 => ?_)
        obtain ⟨rfl, w_x24⟩ := ph23
        refine sx_if_eq (tgt := 35) dX6_longestRun_26 (by decide) (fun c25 => ?_) (fun c25 => ?_)
        ·
          refine sx_iload dX6_longestRun_35 rfl ?_
          refine sx_istore dX6_longestRun_37 (by decide) ?_
          refine sx_loop1 (fun (h : sw_H) (l : Int) => (cK prH h0 h) ∧ (l ≤ m_2)) (fun (h : sw_H) (l : Int) => l.toNat) (fun (h : sw_H) (l : Int) => sw_E G NH SH (d + 3) mX6_longestRun 39 [some (sw_r 182), some (sw_r 1), some (sw_i f), some (sw_i u), some (sw_i m_2), some (sw_i l), none] [] h (sw_Qi (fun z h' => cK prH h0 h' ∧ 0 ≤ z ∧ z ≤ 6 ∧ f + z ≤ u ∧ (∀ i : Int, f ≤ i → i < f + z → 0 ≤ h0 3 i.toNat ∧ h0 3 i.toNat ≤ 6) ∧ (2 ≤ z → (nd (h0 3) f.toNat z.toNat).2 ≤ 3)))) ?_ _ _ ?_
          · rintro h26 l_27 ⟨Ih26, j28⟩ ihh26
            try dsimp only at ihh26
            refine sx_iload dX6_longestRun_39 rfl ?_
            refine sx_iconst dX6_longestRun_41 ⟨by decide, by decide⟩ ?_
            refine sx_icmp_le (tgt := 78) dX6_longestRun_42 (by decide) (fun c29 => ?_) (fun c29 => ?_)
            ·
              refine sx_iload dX6_longestRun_78 rfl ?_
              refine sx_iconst dX6_longestRun_80 ⟨by decide, by decide⟩ ?_
              refine sx_min lm_X6_109 lw_min dX6_longestRun_81 (Nat.le_of_ble_eq_true rfl) ?_
              refine sy_min (fun m30 em30 fm30 gm30 => ?_)
              refine sx_ireturn dX6_longestRun_84 ?_
              exact ⟨_, rfl, ⟨Ih26, by omega, by omega, by omega, fun i q1 q2 => hvm i q1 (by omega), fun _ => by omega⟩⟩
            ·
              refine sx_aload_n dX6_longestRun_45 rfl ?_
              refine sx_aload_n dX6_longestRun_46 rfl ?_
              refine sx_iload_n dX6_longestRun_47 rfl ?_
              refine sx_iload dX6_longestRun_48 rfl ?_
              refine sx_callVi lk_X6_94 cl_6 s_182 (by decide) dX6_longestRun_50 (vs := [_, _, _]) rfl rfl (Nat.le_of_ble_eq_true rfl) (Nat.le_of_ble_eq_true rfl) rfl (c_X6_rowOfRun_1 _ Ih26.1 _ _ (by omega) (by intro i q1 q2; rw [Ih26.2 3 _ rfl]; exact hvm i q1 (by omega))) (fun x32 h31 ph31 => ?_)
              obtain ⟨Kh31, n_h31, m_h31, lo_h31, hi_h31⟩ := ph31
              have Ih31 := Ih26.tr Kh31 sb_prH_prH
              have hfe_h31 : h26 3 = h0 3 := funext (fun k => Ih26.2 3 k rfl)
              rw [hfe_h31] at n_h31
              refine sx_istore dX6_longestRun_53 (by decide) ?_
              refine sx_iload dX6_longestRun_55 rfl ?_
              refine sx_iconst dX6_longestRun_57 ⟨by decide, by decide⟩ ?_
              refine sx_icmp_eq (tgt := 72) dX6_longestRun_58 (by decide) (fun c33 => ?_) (fun c33 => ?_)
              ·
                refine sx_iinc dX6_longestRun_72 (by decide) rfl ?_
                rw [sw_w_id (by omega) (by omega)]
                refine sx_goto (tgt := 39) dX6_longestRun_75 (by decide) ?_
                refine sx_kill 6 ?_
                exact ihh26 _ _ ⟨Ih31, by omega⟩ (by exact sy_dec (by omega) (by omega))
              ·
                refine sx_iload dX6_longestRun_61 rfl ?_
                refine sx_sipush dX6_longestRun_63 ⟨by decide, by decide, by decide⟩ ?_
                refine sx_icmp_gt (tgt := 72) dX6_longestRun_66 (by decide) (fun c34 => ?_) (fun c34 => ?_)
                ·
                  refine sx_iinc dX6_longestRun_72 (by decide) rfl ?_
                  rw [sw_w_id (by omega) (by omega)]
                  refine sx_goto (tgt := 39) dX6_longestRun_75 (by decide) ?_
                  refine sx_kill 6 ?_
                  exact ihh26 _ _ ⟨Ih31, by omega⟩ (by exact sy_dec (by omega) (by omega))
                ·
                  refine sx_iload dX6_longestRun_69 rfl ?_
                  refine sx_ireturn dX6_longestRun_71 ?_
                  exact ⟨_, rfl, ⟨Ih31, by omega, by omega, by omega, fun i q1 q2 => hvm i q1 (by omega), fun _ => by omega⟩⟩
          · exact ⟨hI, by omega⟩
        ·
          refine sx_iinc dX6_longestRun_29 (by decide) rfl ?_
          rw [sw_w_id (by omega) (by omega)]
          refine sx_goto (tgt := 3) dX6_longestRun_32 (by decide) ?_
          exact ihh1 _ _ ⟨rfl, by omega, by omega, by omega, by (intro i q1 q2; by_cases q3 : i < f + mm; exact hvm i q1 (by omega); have q4 : i.toNat = (f + mm).toNat := (by omega); rw [hmm] at q4; rw [q4]; omega)⟩ (by exact sy_dec (by omega) (by omega))
  · exact ⟨rfl, by omega, by omega, by omega, by (intro i q1 q2; omega)⟩
set_option maxRecDepth 20000 in
set_option maxHeartbeats 4000000 in
theorem c_X6_saved_1 {G : sw_G} (d : Nat) {h0 : sw_H} (hJ : cJ h0) (w : Int) (hw : 0 ≤ w ∧ w < 6) : sw_E G NH SH (d + 4) mX6_saved 0 [some (sw_r 182), some (sw_r 1), some (sw_i w), none, none, none, none] [] h0 (sw_Qi (fun z h' => cK prH h0 h')) := by
  have hI : cK prH h0 h0 := cK.refl hJ
  refine sx_iconst dX6_saved_0 ⟨by decide, by decide⟩ ?_
  refine sx_istore_n dX6_saved_1 (by decide) ?_
  refine sx_aload_n dX6_saved_2 rfl ?_
  refine sx_getS (k := 9) (t := 6) cl_0 fl_X6_85 dX6_saved_3 s_1 (by decide) rfl (by decide) ?_
  refine sx_iload_n dX6_saved_6 rfl ?_
  refine sy_iaF (F := fun z => (0 : Int) ≤ z ∧ z ≤ 60) dX6_saved_7 s_6 (by decide) (by decide) ⟨by omega, by omega⟩ (hI.1.1 6 _) (fun r1 => ?_)
  refine sy_top (fun v2 ev2 => ?_)
  refine sx_istore dX6_saved_8 (by decide) ?_
  refine sx_loop2 (fun (h : sw_H) (s : Int) (a : Int) => (cK prH h0 h) ∧ (0 ≤ a)) (fun (h : sw_H) (s : Int) (a : Int) => (60 - a).toNat) (fun (h : sw_H) (s : Int) (a : Int) => sw_E G NH SH (d + 4) mX6_saved 10 [some (sw_r 182), some (sw_r 1), some (sw_i w), some (sw_i s), some (sw_i a), none, none] [] h (sw_Qi (fun z h' => cK prH h0 h'))) ?_ _ _ _ ?_
  · rintro h3 s_4 a_5 ⟨Ih3, j6⟩ ihh3
    try dsimp only at ihh3
    refine sx_iload dX6_saved_10 rfl ?_
    refine sx_aload_n dX6_saved_12 rfl ?_
    refine sx_getS (k := 9) (t := 6) cl_0 fl_X6_85 dX6_saved_13 s_1 (by decide) rfl (by decide) ?_
    refine sx_iload_n dX6_saved_16 rfl ?_
    refine sx_iconst dX6_saved_17 ⟨by decide, by decide⟩ ?_
    refine sx_iadd dX6_saved_18 ?_
    refine sy_topw (by omega) ?_
    refine sy_iaF (F := fun z => (0 : Int) ≤ z ∧ z ≤ 60) dX6_saved_19 s_6 (by decide) (by decide) ⟨by omega, by omega⟩ (Ih3.1.1 6 _) (fun r7 => ?_)
    refine sx_icmp_ge (tgt := 103) dX6_saved_20 (by decide) (fun c8 => ?_) (fun c8 => ?_)
    ·
      refine sx_iload_n dX6_saved_103 rfl ?_
      refine sx_ireturn dX6_saved_104 ?_
      exact ⟨_, rfl, Ih3⟩
    ·
      refine sx_aload_n dX6_saved_23 rfl ?_
      refine sx_aload_n dX6_saved_24 rfl ?_
      refine sx_iload dX6_saved_25 rfl ?_
      refine sx_aload_n dX6_saved_27 rfl ?_
      refine sx_getS (k := 9) (t := 6) cl_0 fl_X6_85 dX6_saved_28 s_1 (by decide) rfl (by decide) ?_
      refine sx_iload_n dX6_saved_31 rfl ?_
      refine sx_iconst dX6_saved_32 ⟨by decide, by decide⟩ ?_
      refine sx_iadd dX6_saved_33 ?_
      refine sy_topw (by omega) ?_
      refine sy_iaF (F := fun z => (0 : Int) ≤ z ∧ z ≤ 60) dX6_saved_34 s_6 (by decide) (by decide) ⟨by omega, by omega⟩ (Ih3.1.1 6 _) (fun r9 => ?_)
      refine sx_callVi lk_X6_90 cl_6 s_182 (by decide) dX6_saved_35 (vs := [_, _, _]) rfl rfl (Nat.le_of_ble_eq_true rfl) (Nat.le_of_ble_eq_true rfl) rfl (c_X6_longestRun_1 _ Ih3.1 _ _ (by omega)) (fun x11 h10 ph10 => ?_)
      obtain ⟨Kh10, l0_h10, l1_h10, l2_h10, lv_h10, ln_h10⟩ := ph10
      have Ih10 := Ih3.tr Kh10 sb_prH_prH
      refine sx_istore dX6_saved_38 (by decide) ?_
      refine sx_iload dX6_saved_40 rfl ?_
      refine sx_if_le (tgt := 89) dX6_saved_42 (by decide) (fun c12 => ?_) (fun c12 => ?_)
      ·
        refine sx_iload dX6_saved_89 rfl ?_
        refine sx_iconst dX6_saved_91 ⟨by decide, by decide⟩ ?_
        refine sx_iload dX6_saved_92 rfl ?_
        refine sx_max lm_X6_100 lw_max dX6_saved_94 (Nat.le_of_ble_eq_true rfl) ?_
        refine sy_max (fun m13 em13 fm13 gm13 => ?_)
        refine sx_iadd dX6_saved_97 ?_
        refine sy_topw (by omega) ?_
        refine sy_top (fun v14 ev14 => ?_)
        refine sx_istore dX6_saved_98 (by decide) ?_
        refine sx_goto (tgt := 10) dX6_saved_100 (by decide) ?_
        refine sx_kill 5 ?_
        exact ihh3 _ _ _ ⟨Ih10, by omega⟩ (by exact sy_dec (by omega) (by omega))
      ·
        refine sx_aload_n dX6_saved_45 rfl ?_
        refine sx_aload_n dX6_saved_46 rfl ?_
        refine sx_iload dX6_saved_47 rfl ?_
        refine sx_iload dX6_saved_49 rfl ?_
        refine sx_callVi lk_X6_94 cl_6 s_182 (by decide) dX6_saved_51 (vs := [_, _, _]) rfl rfl (Nat.le_of_ble_eq_true rfl) (Nat.le_of_ble_eq_true rfl) rfl (c_X6_rowOfRun_1 _ Ih10.1 _ _ (by omega) (by intro i q1 q2; rw [show h10 3 i.toNat = h3 3 i.toNat from Kh10.2 3 _ rfl]; exact lv_h10 i q1 q2)) (fun x16 h15 ph15 => ?_)
        obtain ⟨Kh15, n_h15, m_h15, lo_h15, hi_h15⟩ := ph15
        have Ih15 := Ih10.tr Kh15 sb_prH_prH
        have hfe_h15 : h10 3 = h3 3 := funext (fun k => Kh10.2 3 k rfl)
        rw [hfe_h15] at n_h15
        have hn3 : h15 182 8 ≤ 3 := by rw [n_h15]; rcases (show x11 = 1 ∨ 2 ≤ x11 from (by omega)) with q | q; (rw [q]; exact nd_one _ _); exact ln_h10 q
        refine sx_istore dX6_saved_54 (by decide) ?_
        refine sx_iload_n dX6_saved_56 rfl ?_
        refine sx_aload_n dX6_saved_57 rfl ?_
        refine sx_aload_n dX6_saved_58 rfl ?_
        refine sx_getI (k := 8) cl_6 fl_X6_97 dX6_saved_59 s_182 (by decide) rfl (by decide) ?_
        refine sx_iload dX6_saved_62 rfl ?_
        refine sx_callVz lk_X6_44 cl_6 s_182 (by decide) dX6_saved_64 (vs := [_, _]) rfl rfl (Nat.le_of_ble_eq_true rfl) (Nat.le_of_ble_eq_true rfl) rfl (c_X6_explore _ Ih15.1 _ _ (by omega)) (fun x18 h17 zx18 ph17 => ?_)
        obtain ⟨Kh17, s_h17⟩ := ph17
        have Ih17 := Ih15.tr Kh17 sb_prH_prI
        have th17_182_8 := Kh17.2 (182) 8 rfl
        refine sx_if_eq (tgt := 86) dX6_saved_67 (by decide) (fun c19 => ?_) (fun c19 => ?_)
        ·
          refine sx_iconst dX6_saved_86 ⟨by decide, by decide⟩ ?_
          refine sx_iadd dX6_saved_87 ?_
          refine sy_top (fun v20 ev20 => ?_)
          refine sx_istore_n dX6_saved_88 (by decide) ?_
          refine sx_iload dX6_saved_89 rfl ?_
          refine sx_iconst dX6_saved_91 ⟨by decide, by decide⟩ ?_
          refine sx_iload dX6_saved_92 rfl ?_
          refine sx_max lm_X6_100 lw_max dX6_saved_94 (Nat.le_of_ble_eq_true rfl) ?_
          refine sy_max (fun m21 em21 fm21 gm21 => ?_)
          refine sx_iadd dX6_saved_97 ?_
          refine sy_topw (by omega) ?_
          refine sy_top (fun v22 ev22 => ?_)
          refine sx_istore dX6_saved_98 (by decide) ?_
          refine sx_goto (tgt := 10) dX6_saved_100 (by decide) ?_
          refine sx_kill 5 ?_
          refine sx_kill 6 ?_
          exact ihh3 _ _ _ ⟨Ih17, by omega⟩ (by exact sy_dec (by omega) (by omega))
        ·
          refine sx_iload dX6_saved_70 rfl ?_
          refine sx_aload_n dX6_saved_72 rfl ?_
          refine sx_aload_n dX6_saved_73 rfl ?_
          refine sx_getI (k := 8) cl_6 fl_X6_97 dX6_saved_74 s_182 (by decide) rfl (by decide) ?_
          refine sx_iload dX6_saved_77 rfl ?_
          refine sx_callVi lk_X6_48 cl_6 s_182 (by decide) dX6_saved_79 (vs := [_, _]) rfl rfl (Nat.le_of_ble_eq_true rfl) (Nat.le_of_ble_eq_true rfl) rfl (c_X6_distance _ Ih17.1 _ _ (by omega) (by omega)) (fun x24 h23 ph23 => ?_)
          obtain ⟨rfl, s_x24⟩ := ph23
          refine sx_isub dX6_saved_82 ?_
          refine sx_goto (tgt := 87) dX6_saved_83 (by decide) ?_
          refine sx_iadd dX6_saved_87 ?_
          refine sy_top (fun v25 ev25 => ?_)
          refine sx_istore_n dX6_saved_88 (by decide) ?_
          refine sx_iload dX6_saved_89 rfl ?_
          refine sx_iconst dX6_saved_91 ⟨by decide, by decide⟩ ?_
          refine sx_iload dX6_saved_92 rfl ?_
          refine sx_max lm_X6_100 lw_max dX6_saved_94 (Nat.le_of_ble_eq_true rfl) ?_
          refine sy_max (fun m26 em26 fm26 gm26 => ?_)
          refine sx_iadd dX6_saved_97 ?_
          refine sy_topw (by omega) ?_
          refine sy_top (fun v27 ev27 => ?_)
          refine sx_istore dX6_saved_98 (by decide) ?_
          refine sx_goto (tgt := 10) dX6_saved_100 (by decide) ?_
          refine sx_kill 5 ?_
          refine sx_kill 6 ?_
          exact ihh3 _ _ _ ⟨Ih17, by omega⟩ (by exact sy_dec (by omega) (by omega))
  · exact ⟨hI, by omega⟩
set_option maxRecDepth 20000 in
set_option maxHeartbeats 4000000 in
theorem c_X6_longestRun_13 {G : sw_G} (d : Nat) {h0 : sw_H} (hJ : cJ h0) (f u : Int) (hf : 0 ≤ f ∧ f ≤ u ∧ u ≤ 60) : sw_E G NH SH (d + 3) mX6_longestRun 0 [some (sw_r 182), some (sw_r 13), some (sw_i f), some (sw_i u), none, none, none] [] h0 (sw_Qi (fun z h' => cK prH h0 h' ∧ 0 ≤ z ∧ z ≤ 6 ∧ f + z ≤ u ∧ (∀ i : Int, f ≤ i → i < f + z → 0 ≤ h0 15 i.toNat ∧ h0 15 i.toNat ≤ 6) ∧ (2 ≤ z → (nd (h0 15) f.toNat z.toNat).2 ≤ 3))) := by
  have hI : cK prH h0 h0 := cK.refl hJ
  refine sx_iconst dX6_longestRun_0 ⟨by decide, by decide⟩ ?_
  refine sx_istore dX6_longestRun_1 (by decide) ?_
  refine sx_loop1 (fun (h : sw_H) (m : Int) => (h0 = h) ∧ (0 ≤ m) ∧ (m ≤ 6) ∧ (f + m ≤ u) ∧ (∀ i : Int, f ≤ i → i < f + m → 0 ≤ h0 15 i.toNat ∧ h0 15 i.toNat ≤ 6)) (fun (h : sw_H) (m : Int) => (6 - m).toNat) (fun (h : sw_H) (m : Int) => sw_E G NH SH (d + 3) mX6_longestRun 3 [some (sw_r 182), some (sw_r 13), some (sw_i f), some (sw_i u), some (sw_i m), none, none] [] h (sw_Qi (fun z h' => cK prH h0 h' ∧ 0 ≤ z ∧ z ≤ 6 ∧ f + z ≤ u ∧ (∀ i : Int, f ≤ i → i < f + z → 0 ≤ h0 15 i.toNat ∧ h0 15 i.toNat ≤ 6) ∧ (2 ≤ z → (nd (h0 15) f.toNat z.toNat).2 ≤ 3)))) ?_ _ _ ?_
  · rintro h1 m_2 ⟨rfl, m0, m1, m2, hvm⟩ ihh1
    try dsimp only at ihh1
    obtain ⟨mm, hmm⟩ : ∃ x, x = m_2 := ⟨_, rfl⟩
    refine sx_iload dX6_longestRun_3 rfl ?_
    refine sx_bipush dX6_longestRun_5 ⟨by decide, by decide, by decide⟩ ?_
    refine sx_icmp_ge (tgt := 35) dX6_longestRun_7 (by decide) (fun c3 => ?_) (fun c3 => ?_)
    ·
      refine sx_iload dX6_longestRun_35 rfl ?_
      refine sx_istore dX6_longestRun_37 (by decide) ?_
      refine sx_loop1 (fun (h : sw_H) (l : Int) => (cK prH h0 h) ∧ (l ≤ m_2)) (fun (h : sw_H) (l : Int) => l.toNat) (fun (h : sw_H) (l : Int) => sw_E G NH SH (d + 3) mX6_longestRun 39 [some (sw_r 182), some (sw_r 13), some (sw_i f), some (sw_i u), some (sw_i m_2), some (sw_i l), none] [] h (sw_Qi (fun z h' => cK prH h0 h' ∧ 0 ≤ z ∧ z ≤ 6 ∧ f + z ≤ u ∧ (∀ i : Int, f ≤ i → i < f + z → 0 ≤ h0 15 i.toNat ∧ h0 15 i.toNat ≤ 6) ∧ (2 ≤ z → (nd (h0 15) f.toNat z.toNat).2 ≤ 3)))) ?_ _ _ ?_
      · rintro h4 l_5 ⟨Ih4, j6⟩ ihh4
        try dsimp only at ihh4
        refine sx_iload dX6_longestRun_39 rfl ?_
        refine sx_iconst dX6_longestRun_41 ⟨by decide, by decide⟩ ?_
        refine sx_icmp_le (tgt := 78) dX6_longestRun_42 (by decide) (fun c7 => ?_) (fun c7 => ?_)
        ·
          refine sx_iload dX6_longestRun_78 rfl ?_
          refine sx_iconst dX6_longestRun_80 ⟨by decide, by decide⟩ ?_
          refine sx_min lm_X6_109 lw_min dX6_longestRun_81 (Nat.le_of_ble_eq_true rfl) ?_
          refine sy_min (fun m8 em8 fm8 gm8 => ?_)
          refine sx_ireturn dX6_longestRun_84 ?_
          exact ⟨_, rfl, ⟨Ih4, by omega, by omega, by omega, fun i q1 q2 => hvm i q1 (by omega), fun _ => by omega⟩⟩
        ·
          refine sx_aload_n dX6_longestRun_45 rfl ?_
          refine sx_aload_n dX6_longestRun_46 rfl ?_
          refine sx_iload_n dX6_longestRun_47 rfl ?_
          refine sx_iload dX6_longestRun_48 rfl ?_
          refine sx_callVi lk_X6_94 cl_6 s_182 (by decide) dX6_longestRun_50 (vs := [_, _, _]) rfl rfl (Nat.le_of_ble_eq_true rfl) (Nat.le_of_ble_eq_true rfl) rfl (c_X6_rowOfRun_13 _ Ih4.1 _ _ (by omega) (by intro i q1 q2; rw [Ih4.2 15 _ rfl]; exact hvm i q1 (by omega))) (fun x10 h9 ph9 => ?_)
          obtain ⟨Kh9, n_h9, m_h9, lo_h9, hi_h9⟩ := ph9
          have Ih9 := Ih4.tr Kh9 sb_prH_prH
          have hfe_h9 : h4 15 = h0 15 := funext (fun k => Ih4.2 15 k rfl)
          rw [hfe_h9] at n_h9
          refine sx_istore dX6_longestRun_53 (by decide) ?_
          refine sx_iload dX6_longestRun_55 rfl ?_
          refine sx_iconst dX6_longestRun_57 ⟨by decide, by decide⟩ ?_
          refine sx_icmp_eq (tgt := 72) dX6_longestRun_58 (by decide) (fun c11 => ?_) (fun c11 => ?_)
          ·
            refine sx_iinc dX6_longestRun_72 (by decide) rfl ?_
            rw [sw_w_id (by omega) (by omega)]
            refine sx_goto (tgt := 39) dX6_longestRun_75 (by decide) ?_
            refine sx_kill 6 ?_
            exact ihh4 _ _ ⟨Ih9, by omega⟩ (by exact sy_dec (by omega) (by omega))
          ·
            refine sx_iload dX6_longestRun_61 rfl ?_
            refine sx_sipush dX6_longestRun_63 ⟨by decide, by decide, by decide⟩ ?_
            refine sx_icmp_gt (tgt := 72) dX6_longestRun_66 (by decide) (fun c12 => ?_) (fun c12 => ?_)
            ·
              refine sx_iinc dX6_longestRun_72 (by decide) rfl ?_
              rw [sw_w_id (by omega) (by omega)]
              refine sx_goto (tgt := 39) dX6_longestRun_75 (by decide) ?_
              refine sx_kill 6 ?_
              exact ihh4 _ _ ⟨Ih9, by omega⟩ (by exact sy_dec (by omega) (by omega))
            ·
              refine sx_iload dX6_longestRun_69 rfl ?_
              refine sx_ireturn dX6_longestRun_71 ?_
              exact ⟨_, rfl, ⟨Ih9, by omega, by omega, by omega, fun i q1 q2 => hvm i q1 (by omega), fun _ => by omega⟩⟩
      · exact ⟨hI, by omega⟩
    ·
      refine sx_iload_n dX6_longestRun_10 rfl ?_
      refine sx_iload dX6_longestRun_11 rfl ?_
      refine sx_iadd dX6_longestRun_13 ?_
      refine sy_topw (by omega) ?_
      refine sx_iload_n dX6_longestRun_14 rfl ?_
      refine sx_icmp_ge (tgt := 35) dX6_longestRun_15 (by decide) (fun c13 => ?_) (fun c13 => ?_)
      ·
        refine sx_iload dX6_longestRun_35 rfl ?_
        refine sx_istore dX6_longestRun_37 (by decide) ?_
        refine sx_loop1 (fun (h : sw_H) (l : Int) => (cK prH h0 h) ∧ (l ≤ m_2)) (fun (h : sw_H) (l : Int) => l.toNat) (fun (h : sw_H) (l : Int) => sw_E G NH SH (d + 3) mX6_longestRun 39 [some (sw_r 182), some (sw_r 13), some (sw_i f), some (sw_i u), some (sw_i m_2), some (sw_i l), none] [] h (sw_Qi (fun z h' => cK prH h0 h' ∧ 0 ≤ z ∧ z ≤ 6 ∧ f + z ≤ u ∧ (∀ i : Int, f ≤ i → i < f + z → 0 ≤ h0 15 i.toNat ∧ h0 15 i.toNat ≤ 6) ∧ (2 ≤ z → (nd (h0 15) f.toNat z.toNat).2 ≤ 3)))) ?_ _ _ ?_
        · rintro h14 l_15 ⟨Ih14, j16⟩ ihh14
          try dsimp only at ihh14
          refine sx_iload dX6_longestRun_39 rfl ?_
          refine sx_iconst dX6_longestRun_41 ⟨by decide, by decide⟩ ?_
          refine sx_icmp_le (tgt := 78) dX6_longestRun_42 (by decide) (fun c17 => ?_) (fun c17 => ?_)
          ·
            refine sx_iload dX6_longestRun_78 rfl ?_
            refine sx_iconst dX6_longestRun_80 ⟨by decide, by decide⟩ ?_
            refine sx_min lm_X6_109 lw_min dX6_longestRun_81 (Nat.le_of_ble_eq_true rfl) ?_
            refine sy_min (fun m18 em18 fm18 gm18 => ?_)
            refine sx_ireturn dX6_longestRun_84 ?_
            exact ⟨_, rfl, ⟨Ih14, by omega, by omega, by omega, fun i q1 q2 => hvm i q1 (by omega), fun _ => by omega⟩⟩
          ·
            refine sx_aload_n dX6_longestRun_45 rfl ?_
            refine sx_aload_n dX6_longestRun_46 rfl ?_
            refine sx_iload_n dX6_longestRun_47 rfl ?_
            refine sx_iload dX6_longestRun_48 rfl ?_
            refine sx_callVi lk_X6_94 cl_6 s_182 (by decide) dX6_longestRun_50 (vs := [_, _, _]) rfl rfl (Nat.le_of_ble_eq_true rfl) (Nat.le_of_ble_eq_true rfl) rfl (c_X6_rowOfRun_13 _ Ih14.1 _ _ (by omega) (by intro i q1 q2; rw [Ih14.2 15 _ rfl]; exact hvm i q1 (by omega))) (fun x20 h19 ph19 => ?_)
            obtain ⟨Kh19, n_h19, m_h19, lo_h19, hi_h19⟩ := ph19
            have Ih19 := Ih14.tr Kh19 sb_prH_prH
            have hfe_h19 : h14 15 = h0 15 := funext (fun k => Ih14.2 15 k rfl)
            rw [hfe_h19] at n_h19
            refine sx_istore dX6_longestRun_53 (by decide) ?_
            refine sx_iload dX6_longestRun_55 rfl ?_
            refine sx_iconst dX6_longestRun_57 ⟨by decide, by decide⟩ ?_
            refine sx_icmp_eq (tgt := 72) dX6_longestRun_58 (by decide) (fun c21 => ?_) (fun c21 => ?_)
            ·
              refine sx_iinc dX6_longestRun_72 (by decide) rfl ?_
              rw [sw_w_id (by omega) (by omega)]
              refine sx_goto (tgt := 39) dX6_longestRun_75 (by decide) ?_
              refine sx_kill 6 ?_
              exact ihh14 _ _ ⟨Ih19, by omega⟩ (by exact sy_dec (by omega) (by omega))
            ·
              refine sx_iload dX6_longestRun_61 rfl ?_
              refine sx_sipush dX6_longestRun_63 ⟨by decide, by decide, by decide⟩ ?_
              refine sx_icmp_gt (tgt := 72) dX6_longestRun_66 (by decide) (fun c22 => ?_) (fun c22 => ?_)
              ·
                refine sx_iinc dX6_longestRun_72 (by decide) rfl ?_
                rw [sw_w_id (by omega) (by omega)]
                refine sx_goto (tgt := 39) dX6_longestRun_75 (by decide) ?_
                refine sx_kill 6 ?_
                exact ihh14 _ _ ⟨Ih19, by omega⟩ (by exact sy_dec (by omega) (by omega))
              ·
                refine sx_iload dX6_longestRun_69 rfl ?_
                refine sx_ireturn dX6_longestRun_71 ?_
                exact ⟨_, rfl, ⟨Ih19, by omega, by omega, by omega, fun i q1 q2 => hvm i q1 (by omega), fun _ => by omega⟩⟩
        · exact ⟨hI, by omega⟩
      ·
        refine sx_aload_n dX6_longestRun_18 rfl ?_
        refine sx_iload_n dX6_longestRun_19 rfl ?_
        refine sx_iload dX6_longestRun_20 rfl ?_
        refine sx_iadd dX6_longestRun_22 ?_
        refine sy_topw (by omega) ?_
        refine sx_callVz lk_X6_105 cl_0 s_13 (by decide) dX6_longestRun_23 (vs := [_]) rfl rfl (Nat.le_of_ble_eq_true rfl) (Nat.le_of_ble_eq_true rfl) rfl (c_X0_isShuffle_13 _ hI.1 _ (by first | omega | (rw [Int.tmod_eq_emod_of_nonneg (by omega)]; omega) | (rw [Int.tdiv_eq_ediv_of_nonneg (by omega)]; omega))) (fun x24 h23 zx24 ph23 => ?_)
        obtain ⟨rfl, w_x24⟩ := ph23
        refine sx_if_eq (tgt := 35) dX6_longestRun_26 (by decide) (fun c25 => ?_) (fun c25 => ?_)
        ·
          refine sx_iload dX6_longestRun_35 rfl ?_
          refine sx_istore dX6_longestRun_37 (by decide) ?_
          refine sx_loop1 (fun (h : sw_H) (l : Int) => (cK prH h0 h) ∧ (l ≤ m_2)) (fun (h : sw_H) (l : Int) => l.toNat) (fun (h : sw_H) (l : Int) => sw_E G NH SH (d + 3) mX6_longestRun 39 [some (sw_r 182), some (sw_r 13), some (sw_i f), some (sw_i u), some (sw_i m_2), some (sw_i l), none] [] h (sw_Qi (fun z h' => cK prH h0 h' ∧ 0 ≤ z ∧ z ≤ 6 ∧ f + z ≤ u ∧ (∀ i : Int, f ≤ i → i < f + z → 0 ≤ h0 15 i.toNat ∧ h0 15 i.toNat ≤ 6) ∧ (2 ≤ z → (nd (h0 15) f.toNat z.toNat).2 ≤ 3)))) ?_ _ _ ?_
          · rintro h26 l_27 ⟨Ih26, j28⟩ ihh26
            try dsimp only at ihh26
            refine sx_iload dX6_longestRun_39 rfl ?_
            refine sx_iconst dX6_longestRun_41 ⟨by decide, by decide⟩ ?_
            refine sx_icmp_le (tgt := 78) dX6_longestRun_42 (by decide) (fun c29 => ?_) (fun c29 => ?_)
            ·
              refine sx_iload dX6_longestRun_78 rfl ?_
              refine sx_iconst dX6_longestRun_80 ⟨by decide, by decide⟩ ?_
              refine sx_min lm_X6_109 lw_min dX6_longestRun_81 (Nat.le_of_ble_eq_true rfl) ?_
              refine sy_min (fun m30 em30 fm30 gm30 => ?_)
              refine sx_ireturn dX6_longestRun_84 ?_
              exact ⟨_, rfl, ⟨Ih26, by omega, by omega, by omega, fun i q1 q2 => hvm i q1 (by omega), fun _ => by omega⟩⟩
            ·
              refine sx_aload_n dX6_longestRun_45 rfl ?_
              refine sx_aload_n dX6_longestRun_46 rfl ?_
              refine sx_iload_n dX6_longestRun_47 rfl ?_
              refine sx_iload dX6_longestRun_48 rfl ?_
              refine sx_callVi lk_X6_94 cl_6 s_182 (by decide) dX6_longestRun_50 (vs := [_, _, _]) rfl rfl (Nat.le_of_ble_eq_true rfl) (Nat.le_of_ble_eq_true rfl) rfl (c_X6_rowOfRun_13 _ Ih26.1 _ _ (by omega) (by intro i q1 q2; rw [Ih26.2 15 _ rfl]; exact hvm i q1 (by omega))) (fun x32 h31 ph31 => ?_)
              obtain ⟨Kh31, n_h31, m_h31, lo_h31, hi_h31⟩ := ph31
              have Ih31 := Ih26.tr Kh31 sb_prH_prH
              have hfe_h31 : h26 15 = h0 15 := funext (fun k => Ih26.2 15 k rfl)
              rw [hfe_h31] at n_h31
              refine sx_istore dX6_longestRun_53 (by decide) ?_
              refine sx_iload dX6_longestRun_55 rfl ?_
              refine sx_iconst dX6_longestRun_57 ⟨by decide, by decide⟩ ?_
              refine sx_icmp_eq (tgt := 72) dX6_longestRun_58 (by decide) (fun c33 => ?_) (fun c33 => ?_)
              ·
                refine sx_iinc dX6_longestRun_72 (by decide) rfl ?_
                rw [sw_w_id (by omega) (by omega)]
                refine sx_goto (tgt := 39) dX6_longestRun_75 (by decide) ?_
                refine sx_kill 6 ?_
                exact ihh26 _ _ ⟨Ih31, by omega⟩ (by exact sy_dec (by omega) (by omega))
              ·
                refine sx_iload dX6_longestRun_61 rfl ?_
                refine sx_sipush dX6_longestRun_63 ⟨by decide, by decide, by decide⟩ ?_
                refine sx_icmp_gt (tgt := 72) dX6_longestRun_66 (by decide) (fun c34 => ?_) (fun c34 => ?_)
                ·
                  refine sx_iinc dX6_longestRun_72 (by decide) rfl ?_
                  rw [sw_w_id (by omega) (by omega)]
                  refine sx_goto (tgt := 39) dX6_longestRun_75 (by decide) ?_
                  refine sx_kill 6 ?_
                  exact ihh26 _ _ ⟨Ih31, by omega⟩ (by exact sy_dec (by omega) (by omega))
                ·
                  refine sx_iload dX6_longestRun_69 rfl ?_
                  refine sx_ireturn dX6_longestRun_71 ?_
                  exact ⟨_, rfl, ⟨Ih31, by omega, by omega, by omega, fun i q1 q2 => hvm i q1 (by omega), fun _ => by omega⟩⟩
          · exact ⟨hI, by omega⟩
        ·
          refine sx_iinc dX6_longestRun_29 (by decide) rfl ?_
          rw [sw_w_id (by omega) (by omega)]
          refine sx_goto (tgt := 3) dX6_longestRun_32 (by decide) ?_
          exact ihh1 _ _ ⟨rfl, by omega, by omega, by omega, by (intro i q1 q2; by_cases q3 : i < f + mm; exact hvm i q1 (by omega); have q4 : i.toNat = (f + mm).toNat := (by omega); rw [hmm] at q4; rw [q4]; omega)⟩ (by exact sy_dec (by omega) (by omega))
  · exact ⟨rfl, by omega, by omega, by omega, by (intro i q1 q2; omega)⟩
set_option maxRecDepth 20000 in
set_option maxHeartbeats 4000000 in
theorem c_X6_saved_13 {G : sw_G} (d : Nat) {h0 : sw_H} (hJ : cJ h0) (w : Int) (hw : 0 ≤ w ∧ w < 6) : sw_E G NH SH (d + 4) mX6_saved 0 [some (sw_r 182), some (sw_r 13), some (sw_i w), none, none, none, none] [] h0 (sw_Qi (fun z h' => cK prH h0 h')) := by
  have hI : cK prH h0 h0 := cK.refl hJ
  refine sx_iconst dX6_saved_0 ⟨by decide, by decide⟩ ?_
  refine sx_istore_n dX6_saved_1 (by decide) ?_
  refine sx_aload_n dX6_saved_2 rfl ?_
  refine sx_getS (k := 9) (t := 18) cl_0 fl_X6_85 dX6_saved_3 s_13 (by decide) rfl (by decide) ?_
  refine sx_iload_n dX6_saved_6 rfl ?_
  refine sy_iaF (F := fun z => (0 : Int) ≤ z ∧ z ≤ 60) dX6_saved_7 s_18 (by decide) (by decide) ⟨by omega, by omega⟩ (hI.1.1 18 _) (fun r1 => ?_)
  refine sy_top (fun v2 ev2 => ?_)
  refine sx_istore dX6_saved_8 (by decide) ?_
  refine sx_loop2 (fun (h : sw_H) (s : Int) (a : Int) => (cK prH h0 h) ∧ (0 ≤ a)) (fun (h : sw_H) (s : Int) (a : Int) => (60 - a).toNat) (fun (h : sw_H) (s : Int) (a : Int) => sw_E G NH SH (d + 4) mX6_saved 10 [some (sw_r 182), some (sw_r 13), some (sw_i w), some (sw_i s), some (sw_i a), none, none] [] h (sw_Qi (fun z h' => cK prH h0 h'))) ?_ _ _ _ ?_
  · rintro h3 s_4 a_5 ⟨Ih3, j6⟩ ihh3
    try dsimp only at ihh3
    refine sx_iload dX6_saved_10 rfl ?_
    refine sx_aload_n dX6_saved_12 rfl ?_
    refine sx_getS (k := 9) (t := 18) cl_0 fl_X6_85 dX6_saved_13 s_13 (by decide) rfl (by decide) ?_
    refine sx_iload_n dX6_saved_16 rfl ?_
    refine sx_iconst dX6_saved_17 ⟨by decide, by decide⟩ ?_
    refine sx_iadd dX6_saved_18 ?_
    refine sy_topw (by omega) ?_
    refine sy_iaF (F := fun z => (0 : Int) ≤ z ∧ z ≤ 60) dX6_saved_19 s_18 (by decide) (by decide) ⟨by omega, by omega⟩ (Ih3.1.1 18 _) (fun r7 => ?_)
    refine sx_icmp_ge (tgt := 103) dX6_saved_20 (by decide) (fun c8 => ?_) (fun c8 => ?_)
    ·
      refine sx_iload_n dX6_saved_103 rfl ?_
      refine sx_ireturn dX6_saved_104 ?_
      exact ⟨_, rfl, Ih3⟩
    ·
      refine sx_aload_n dX6_saved_23 rfl ?_
      refine sx_aload_n dX6_saved_24 rfl ?_
      refine sx_iload dX6_saved_25 rfl ?_
      refine sx_aload_n dX6_saved_27 rfl ?_
      refine sx_getS (k := 9) (t := 18) cl_0 fl_X6_85 dX6_saved_28 s_13 (by decide) rfl (by decide) ?_
      refine sx_iload_n dX6_saved_31 rfl ?_
      refine sx_iconst dX6_saved_32 ⟨by decide, by decide⟩ ?_
      refine sx_iadd dX6_saved_33 ?_
      refine sy_topw (by omega) ?_
      refine sy_iaF (F := fun z => (0 : Int) ≤ z ∧ z ≤ 60) dX6_saved_34 s_18 (by decide) (by decide) ⟨by omega, by omega⟩ (Ih3.1.1 18 _) (fun r9 => ?_)
      refine sx_callVi lk_X6_90 cl_6 s_182 (by decide) dX6_saved_35 (vs := [_, _, _]) rfl rfl (Nat.le_of_ble_eq_true rfl) (Nat.le_of_ble_eq_true rfl) rfl (c_X6_longestRun_13 _ Ih3.1 _ _ (by omega)) (fun x11 h10 ph10 => ?_)
      obtain ⟨Kh10, l0_h10, l1_h10, l2_h10, lv_h10, ln_h10⟩ := ph10
      have Ih10 := Ih3.tr Kh10 sb_prH_prH
      refine sx_istore dX6_saved_38 (by decide) ?_
      refine sx_iload dX6_saved_40 rfl ?_
      refine sx_if_le (tgt := 89) dX6_saved_42 (by decide) (fun c12 => ?_) (fun c12 => ?_)
      ·
        refine sx_iload dX6_saved_89 rfl ?_
        refine sx_iconst dX6_saved_91 ⟨by decide, by decide⟩ ?_
        refine sx_iload dX6_saved_92 rfl ?_
        refine sx_max lm_X6_100 lw_max dX6_saved_94 (Nat.le_of_ble_eq_true rfl) ?_
        refine sy_max (fun m13 em13 fm13 gm13 => ?_)
        refine sx_iadd dX6_saved_97 ?_
        refine sy_topw (by omega) ?_
        refine sy_top (fun v14 ev14 => ?_)
        refine sx_istore dX6_saved_98 (by decide) ?_
        refine sx_goto (tgt := 10) dX6_saved_100 (by decide) ?_
        refine sx_kill 5 ?_
        exact ihh3 _ _ _ ⟨Ih10, by omega⟩ (by exact sy_dec (by omega) (by omega))
      ·
        refine sx_aload_n dX6_saved_45 rfl ?_
        refine sx_aload_n dX6_saved_46 rfl ?_
        refine sx_iload dX6_saved_47 rfl ?_
        refine sx_iload dX6_saved_49 rfl ?_
        refine sx_callVi lk_X6_94 cl_6 s_182 (by decide) dX6_saved_51 (vs := [_, _, _]) rfl rfl (Nat.le_of_ble_eq_true rfl) (Nat.le_of_ble_eq_true rfl) rfl (c_X6_rowOfRun_13 _ Ih10.1 _ _ (by omega) (by intro i q1 q2; rw [show h10 15 i.toNat = h3 15 i.toNat from Kh10.2 15 _ rfl]; exact lv_h10 i q1 q2)) (fun x16 h15 ph15 => ?_)
        obtain ⟨Kh15, n_h15, m_h15, lo_h15, hi_h15⟩ := ph15
        have Ih15 := Ih10.tr Kh15 sb_prH_prH
        have hfe_h15 : h10 15 = h3 15 := funext (fun k => Kh10.2 15 k rfl)
        rw [hfe_h15] at n_h15
        have hn3 : h15 182 8 ≤ 3 := by rw [n_h15]; rcases (show x11 = 1 ∨ 2 ≤ x11 from (by omega)) with q | q; (rw [q]; exact nd_one _ _); exact ln_h10 q
        refine sx_istore dX6_saved_54 (by decide) ?_
        refine sx_iload_n dX6_saved_56 rfl ?_
        refine sx_aload_n dX6_saved_57 rfl ?_
        refine sx_aload_n dX6_saved_58 rfl ?_
        refine sx_getI (k := 8) cl_6 fl_X6_97 dX6_saved_59 s_182 (by decide) rfl (by decide) ?_
        refine sx_iload dX6_saved_62 rfl ?_
        refine sx_callVz lk_X6_44 cl_6 s_182 (by decide) dX6_saved_64 (vs := [_, _]) rfl rfl (Nat.le_of_ble_eq_true rfl) (Nat.le_of_ble_eq_true rfl) rfl (c_X6_explore _ Ih15.1 _ _ (by omega)) (fun x18 h17 zx18 ph17 => ?_)
        obtain ⟨Kh17, s_h17⟩ := ph17
        have Ih17 := Ih15.tr Kh17 sb_prH_prI
        have th17_182_8 := Kh17.2 (182) 8 rfl
        refine sx_if_eq (tgt := 86) dX6_saved_67 (by decide) (fun c19 => ?_) (fun c19 => ?_)
        ·
          refine sx_iconst dX6_saved_86 ⟨by decide, by decide⟩ ?_
          refine sx_iadd dX6_saved_87 ?_
          refine sy_top (fun v20 ev20 => ?_)
          refine sx_istore_n dX6_saved_88 (by decide) ?_
          refine sx_iload dX6_saved_89 rfl ?_
          refine sx_iconst dX6_saved_91 ⟨by decide, by decide⟩ ?_
          refine sx_iload dX6_saved_92 rfl ?_
          refine sx_max lm_X6_100 lw_max dX6_saved_94 (Nat.le_of_ble_eq_true rfl) ?_
          refine sy_max (fun m21 em21 fm21 gm21 => ?_)
          refine sx_iadd dX6_saved_97 ?_
          refine sy_topw (by omega) ?_
          refine sy_top (fun v22 ev22 => ?_)
          refine sx_istore dX6_saved_98 (by decide) ?_
          refine sx_goto (tgt := 10) dX6_saved_100 (by decide) ?_
          refine sx_kill 5 ?_
          refine sx_kill 6 ?_
          exact ihh3 _ _ _ ⟨Ih17, by omega⟩ (by exact sy_dec (by omega) (by omega))
        ·
          refine sx_iload dX6_saved_70 rfl ?_
          refine sx_aload_n dX6_saved_72 rfl ?_
          refine sx_aload_n dX6_saved_73 rfl ?_
          refine sx_getI (k := 8) cl_6 fl_X6_97 dX6_saved_74 s_182 (by decide) rfl (by decide) ?_
          refine sx_iload dX6_saved_77 rfl ?_
          refine sx_callVi lk_X6_48 cl_6 s_182 (by decide) dX6_saved_79 (vs := [_, _]) rfl rfl (Nat.le_of_ble_eq_true rfl) (Nat.le_of_ble_eq_true rfl) rfl (c_X6_distance _ Ih17.1 _ _ (by omega) (by omega)) (fun x24 h23 ph23 => ?_)
          obtain ⟨rfl, s_x24⟩ := ph23
          refine sx_isub dX6_saved_82 ?_
          refine sx_goto (tgt := 87) dX6_saved_83 (by decide) ?_
          refine sx_iadd dX6_saved_87 ?_
          refine sy_top (fun v25 ev25 => ?_)
          refine sx_istore_n dX6_saved_88 (by decide) ?_
          refine sx_iload dX6_saved_89 rfl ?_
          refine sx_iconst dX6_saved_91 ⟨by decide, by decide⟩ ?_
          refine sx_iload dX6_saved_92 rfl ?_
          refine sx_max lm_X6_100 lw_max dX6_saved_94 (Nat.le_of_ble_eq_true rfl) ?_
          refine sy_max (fun m26 em26 fm26 gm26 => ?_)
          refine sx_iadd dX6_saved_97 ?_
          refine sy_topw (by omega) ?_
          refine sy_top (fun v27 ev27 => ?_)
          refine sx_istore dX6_saved_98 (by decide) ?_
          refine sx_goto (tgt := 10) dX6_saved_100 (by decide) ?_
          refine sx_kill 5 ?_
          refine sx_kill 6 ?_
          exact ihh3 _ _ _ ⟨Ih17, by omega⟩ (by exact sy_dec (by omega) (by omega))
  · exact ⟨hI, by omega⟩

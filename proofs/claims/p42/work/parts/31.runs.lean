set_option maxRecDepth 20000 in
set_option maxHeartbeats 4000000 in
theorem c_X6_rowOfRun_1 {G : sw_G} (d : Nat) {h0 : sw_H} (hJ : cJ h0) (f n : Int) (hf : 0 ≤ f ∧ 0 ≤ n ∧ n ≤ 6 ∧ f + n ≤ 60) (hv : ∀ i : Int, f ≤ i → i < f + n → 0 ≤ h0 3 i.toNat ∧ h0 3 i.toNat ≤ 6) : sw_E G NH SH (d + 2) mX6_rowOfRun 0 [some (sw_r 182), some (sw_r 1), some (sw_i f), some (sw_i n), none, none, none, none] [] h0 (sw_Qi (fun z h' => cK prH h0 h' ∧ h' 182 8 = (nd (h0 3) f.toNat n.toNat).2 ∧ (z ≠ -1 → h' 182 8 ≤ 3) ∧ -1 ≤ z ∧ z ≤ 1023)) := by
  have hI : cK prH h0 h0 := cK.refl hJ
  refine sx_iconst dX6_rowOfRun_0 ⟨by decide, by decide⟩ ?_
  refine sx_istore dX6_rowOfRun_1 (by decide) ?_
  refine sx_iconst dX6_rowOfRun_3 ⟨by decide, by decide⟩ ?_
  refine sx_istore dX6_rowOfRun_4 (by decide) ?_
  refine sx_iload_n dX6_rowOfRun_6 rfl ?_
  refine sx_istore dX6_rowOfRun_7 (by decide) ?_
  refine sx_loop3 (fun (h : sw_H) (a : Int) (b : Int) (i : Int) => (h0 = h) ∧ (f ≤ i) ∧ (i ≤ f + n) ∧ (a = (nd (h0 3) f.toNat (i - f).toNat).1) ∧ (b = (nd (h0 3) f.toNat (i - f).toNat).2) ∧ (-(3 * (i - f)) ≤ a) ∧ (a ≤ 3 * (i - f)) ∧ (0 ≤ b) ∧ (b ≤ 3 + 3 * (i - f))) (fun (h : sw_H) (a : Int) (b : Int) (i : Int) => (f + n - i).toNat) (fun (h : sw_H) (a : Int) (b : Int) (i : Int) => sw_E G NH SH (d + 2) mX6_rowOfRun 9 [some (sw_r 182), some (sw_r 1), some (sw_i f), some (sw_i n), some (sw_i a), some (sw_i b), some (sw_i i), none] [] h (sw_Qi (fun z h' => cK prH h0 h' ∧ h' 182 8 = (nd (h0 3) f.toNat n.toNat).2 ∧ (z ≠ -1 → h' 182 8 ≤ 3) ∧ -1 ≤ z ∧ z ≤ 1023))) ?_ _ _ _ _ ?_
  · rintro h1 a_2 b_3 i_4 ⟨rfl, j5, j6, j7, j8, j9, j10, j11, j12⟩ ihh1
    try dsimp only at ihh1
    refine sx_iload dX6_rowOfRun_9 rfl ?_
    refine sx_iload_n dX6_rowOfRun_11 rfl ?_
    refine sx_iload_n dX6_rowOfRun_12 rfl ?_
    refine sx_iadd dX6_rowOfRun_13 ?_
    refine sy_topw (by omega) ?_
    refine sx_icmp_ge (tgt := 66) dX6_rowOfRun_14 (by decide) (fun c13 => ?_) (fun c13 => ?_)
    ·
      have hni : b_3 = (nd (h0 3) f.toNat n.toNat).2 := by have q : (i_4 - f).toNat = n.toNat := (by omega); rw [← q]; assumption
      refine sx_aload_n dX6_rowOfRun_66 rfl ?_
      refine sx_iload dX6_rowOfRun_67 rfl ?_
      refine sy_putI (k := 8) cl_6 fl_X6_97 dX6_rowOfRun_69 s_182 (by decide) rfl (by decide) rfl rfl (fun h14 eh14 => ?_)
      have Ih14 := hI.up eh14 trivial rfl rfl
      have th14_182_8 := eh14.1
      refine sx_iload dX6_rowOfRun_72 rfl ?_
      refine sx_iconst dX6_rowOfRun_74 ⟨by decide, by decide⟩ ?_
      refine sx_icmp_le (tgt := 82) dX6_rowOfRun_75 (by decide) (fun c15 => ?_) (fun c15 => ?_)
      ·
        refine sx_iload dX6_rowOfRun_82 rfl ?_
        refine sx_callSi lk_X6_52 dX6_rowOfRun_84 (vs := [_]) rfl rfl (Nat.le_of_ble_eq_true rfl) (Nat.le_of_ble_eq_true rfl) rfl (c_X6_firstRow _ Ih14.1 _ (by omega)) (fun x17 h16 ph16 => ?_)
        obtain ⟨rfl, s_x17⟩ := ph16
        refine sx_istore dX6_rowOfRun_87 (by decide) ?_
        refine sx_iload_n dX6_rowOfRun_89 rfl ?_
        refine sx_istore dX6_rowOfRun_90 (by decide) ?_
        refine sx_loop2 (fun (h : sw_H) (r : Int) (i : Int) => (h14 = h) ∧ (f ≤ i) ∧ (r = -1 ∨ (0 ≤ r ∧ r ≤ 1023)) ∧ (r ≠ -1 → b_3 ≤ 3)) (fun (h : sw_H) (r : Int) (i : Int) => (f + n - i).toNat) (fun (h : sw_H) (r : Int) (i : Int) => sw_E G NH SH (d + 2) mX6_rowOfRun 92 [some (sw_r 182), some (sw_r 1), some (sw_i f), some (sw_i n), some (sw_i a_2), some (sw_i b_3), some (sw_i r), some (sw_i i)] [] h (sw_Qi (fun z h' => cK prH h0 h' ∧ h' 182 8 = (nd (h0 3) f.toNat n.toNat).2 ∧ (z ≠ -1 → h' 182 8 ≤ 3) ∧ -1 ≤ z ∧ z ≤ 1023))) ?_ _ _ _ ?_
        · rintro h18 r_19 i_20 ⟨rfl, j21, j22, j23⟩ ihh18
          try dsimp only at ihh18
          refine sx_iload dX6_rowOfRun_92 rfl ?_
          refine sx_iload_n dX6_rowOfRun_94 rfl ?_
          refine sx_iload_n dX6_rowOfRun_95 rfl ?_
          refine sx_iadd dX6_rowOfRun_96 ?_
          refine sy_topw (by omega) ?_
          refine sx_icmp_ge (tgt := 126) dX6_rowOfRun_97 (by decide) (fun c24 => ?_) (fun c24 => ?_)
          ·
            refine sx_iload dX6_rowOfRun_126 rfl ?_
            refine sx_ireturn dX6_rowOfRun_128 ?_
            exact ⟨_, rfl, ⟨Ih14, by omega, fun q => by omega, by omega, by omega⟩⟩
          ·
            refine sx_iload dX6_rowOfRun_100 rfl ?_
            refine sx_iconst dX6_rowOfRun_102 ⟨by decide, by decide⟩ ?_
            refine sx_icmp_eq (tgt := 126) dX6_rowOfRun_103 (by decide) (fun c25 => ?_) (fun c25 => ?_)
            ·
              refine sx_iload dX6_rowOfRun_126 rfl ?_
              refine sx_ireturn dX6_rowOfRun_128 ?_
              exact ⟨_, rfl, ⟨Ih14, by omega, fun q => by omega, by omega, by omega⟩⟩
            ·
              have hvi := hv i_20 (by omega) (by omega)
              have hfe : h14 3 = h0 3 := funext (fun k => Ih14.2 3 k rfl)
              refine sx_iload dX6_rowOfRun_106 rfl ?_
              refine sx_aload_n dX6_rowOfRun_108 rfl ?_
              refine sx_getS (k := 6) (t := 3) cl_0 fl_X6_112 dX6_rowOfRun_109 s_1 (by decide) rfl (by decide) ?_
              refine sx_iload dX6_rowOfRun_112 rfl ?_
              refine sx_iaload dX6_rowOfRun_114 s_3 (by decide) (by decide) ⟨by omega, by omega⟩ ?_
              rw [hfe]
              refine sx_callSi lk_X6_68 dX6_rowOfRun_115 (vs := [_, _]) rfl rfl (Nat.le_of_ble_eq_true rfl) (Nat.le_of_ble_eq_true rfl) rfl (c_X6_shuffle _ Ih14.1 _ _ (by omega) (by omega)) (fun x27 h26 ph26 => ?_)
              obtain ⟨rfl, s_x27⟩ := ph26
              refine sx_istore dX6_rowOfRun_118 (by decide) ?_
              refine sx_iinc dX6_rowOfRun_120 (by decide) rfl ?_
              rw [sw_w_id (by omega) (by omega)]
              refine sx_goto (tgt := 92) dX6_rowOfRun_123 (by decide) ?_
              exact ihh18 _ _ _ ⟨rfl, by omega, by omega, by omega⟩ (by exact sy_dec (by omega) (by omega))
        · exact ⟨rfl, by omega, by omega, by omega⟩
      ·
        refine sx_iconst dX6_rowOfRun_78 ⟨by decide, by decide⟩ ?_
        refine sx_goto (tgt := 87) dX6_rowOfRun_79 (by decide) ?_
        refine sx_istore dX6_rowOfRun_87 (by decide) ?_
        refine sx_iload_n dX6_rowOfRun_89 rfl ?_
        refine sx_istore dX6_rowOfRun_90 (by decide) ?_
        refine sx_loop2 (fun (h : sw_H) (r : Int) (i : Int) => (h14 = h) ∧ (f ≤ i) ∧ (r = -1 ∨ (0 ≤ r ∧ r ≤ 1023)) ∧ (r ≠ -1 → b_3 ≤ 3)) (fun (h : sw_H) (r : Int) (i : Int) => (f + n - i).toNat) (fun (h : sw_H) (r : Int) (i : Int) => sw_E G NH SH (d + 2) mX6_rowOfRun 92 [some (sw_r 182), some (sw_r 1), some (sw_i f), some (sw_i n), some (sw_i a_2), some (sw_i b_3), some (sw_i r), some (sw_i i)] [] h (sw_Qi (fun z h' => cK prH h0 h' ∧ h' 182 8 = (nd (h0 3) f.toNat n.toNat).2 ∧ (z ≠ -1 → h' 182 8 ≤ 3) ∧ -1 ≤ z ∧ z ≤ 1023))) ?_ _ _ _ ?_
        · rintro h28 r_29 i_30 ⟨rfl, j31, j32, j33⟩ ihh28
          try dsimp only at ihh28
          refine sx_iload dX6_rowOfRun_92 rfl ?_
          refine sx_iload_n dX6_rowOfRun_94 rfl ?_
          refine sx_iload_n dX6_rowOfRun_95 rfl ?_
          refine sx_iadd dX6_rowOfRun_96 ?_
          refine sy_topw (by omega) ?_
          refine sx_icmp_ge (tgt := 126) dX6_rowOfRun_97 (by decide) (fun c34 => ?_) (fun c34 => ?_)
          ·
            refine sx_iload dX6_rowOfRun_126 rfl ?_
            refine sx_ireturn dX6_rowOfRun_128 ?_
            exact ⟨_, rfl, ⟨Ih14, by omega, fun q => by omega, by omega, by omega⟩⟩
          ·
            refine sx_iload dX6_rowOfRun_100 rfl ?_
            refine sx_iconst dX6_rowOfRun_102 ⟨by decide, by decide⟩ ?_
            refine sx_icmp_eq (tgt := 126) dX6_rowOfRun_103 (by decide) (fun c35 => ?_) (fun c35 => ?_)
            ·
              refine sx_iload dX6_rowOfRun_126 rfl ?_
              refine sx_ireturn dX6_rowOfRun_128 ?_
              exact ⟨_, rfl, ⟨Ih14, by omega, fun q => by omega, by omega, by omega⟩⟩
            ·
              have hvi := hv i_30 (by omega) (by omega)
              have hfe : h14 3 = h0 3 := funext (fun k => Ih14.2 3 k rfl)
              refine sx_iload dX6_rowOfRun_106 rfl ?_
              refine sx_aload_n dX6_rowOfRun_108 rfl ?_
              refine sx_getS (k := 6) (t := 3) cl_0 fl_X6_112 dX6_rowOfRun_109 s_1 (by decide) rfl (by decide) ?_
              refine sx_iload dX6_rowOfRun_112 rfl ?_
              refine sx_iaload dX6_rowOfRun_114 s_3 (by decide) (by decide) ⟨by omega, by omega⟩ ?_
              rw [hfe]
              refine sx_callSi lk_X6_68 dX6_rowOfRun_115 (vs := [_, _]) rfl rfl (Nat.le_of_ble_eq_true rfl) (Nat.le_of_ble_eq_true rfl) rfl (c_X6_shuffle _ Ih14.1 _ _ (by omega) (by omega)) (fun x37 h36 ph36 => ?_)
              obtain ⟨rfl, s_x37⟩ := ph36
              refine sx_istore dX6_rowOfRun_118 (by decide) ?_
              refine sx_iinc dX6_rowOfRun_120 (by decide) rfl ?_
              rw [sw_w_id (by omega) (by omega)]
              refine sx_goto (tgt := 92) dX6_rowOfRun_123 (by decide) ?_
              exact ihh28 _ _ _ ⟨rfl, by omega, by omega, by omega⟩ (by exact sy_dec (by omega) (by omega))
        · exact ⟨rfl, by omega, by omega, by omega⟩
    ·
      refine sx_aload_n dX6_rowOfRun_17 rfl ?_
      refine sx_getS (k := 6) (t := 3) cl_0 fl_X6_112 dX6_rowOfRun_18 s_1 (by decide) rfl (by decide) ?_
      refine sx_iload dX6_rowOfRun_21 rfl ?_
      refine sx_iaload dX6_rowOfRun_23 s_3 (by decide) (by decide) ⟨by omega, by omega⟩ ?_
      refine sy_top (fun v38 ev38 => ?_)
      refine sx_istore dX6_rowOfRun_24 (by decide) ?_
      subst ev38
      have hvi := hv i_4 (by omega) (by omega)
      have hst := nd_step (h0 3) f i_4 (by omega) (by omega)
      refine sx_iload dX6_rowOfRun_26 rfl ?_
      refine sx_gets (t := 0) (by decide) sl_X6_37 dX6_rowOfRun_28 ?_
      refine sx_iload dX6_rowOfRun_31 rfl ?_
      refine sy_sia (t := 0) (n := 15) (by decide) dX6_rowOfRun_33 rfl ⟨by omega, by omega⟩ (fun r39 => ?_)
      refine sx_iload dX6_rowOfRun_34 rfl ?_
      refine sx_isub dX6_rowOfRun_36 ?_
      refine sy_topw (by omega) ?_
      refine sx_max lm_X6_100 lw_max dX6_rowOfRun_37 (Nat.le_of_ble_eq_true rfl) ?_
      refine sy_max (fun m40 em40 fm40 gm40 => ?_)
      refine sy_top (fun v41 ev41 => ?_)
      refine sx_istore dX6_rowOfRun_40 (by decide) ?_
      refine sx_iload dX6_rowOfRun_42 rfl ?_
      refine sx_gets (t := 1) (by decide) sl_X6_34 dX6_rowOfRun_44 ?_
      refine sx_iload dX6_rowOfRun_47 rfl ?_
      refine sy_sia (t := 1) (n := 15) (by decide) dX6_rowOfRun_49 rfl ⟨by omega, by omega⟩ (fun r42 => ?_)
      refine sx_gets (t := 0) (by decide) sl_X6_37 dX6_rowOfRun_50 ?_
      refine sx_iload dX6_rowOfRun_53 rfl ?_
      refine sy_sia (t := 0) (n := 15) (by decide) dX6_rowOfRun_55 rfl ⟨by omega, by omega⟩ (fun r43 => ?_)
      refine sx_isub dX6_rowOfRun_56 ?_
      refine sy_topw (by omega) ?_
      refine sx_iadd dX6_rowOfRun_57 ?_
      refine sy_topw (by omega) ?_
      refine sy_top (fun v44 ev44 => ?_)
      refine sx_istore dX6_rowOfRun_58 (by decide) ?_
      refine sx_iinc dX6_rowOfRun_60 (by decide) rfl ?_
      rw [sw_w_id (by omega) (by omega)]
      refine sx_goto (tgt := 9) dX6_rowOfRun_63 (by decide) ?_
      refine sx_kill 7 ?_
      exact ihh1 _ _ _ _ ⟨rfl, by first | omega | (rw [hst]; dsimp only; omega) | (rw [hst]; dsimp only; split <;> omega), by first | omega | (rw [hst]; dsimp only; omega) | (rw [hst]; dsimp only; split <;> omega), by first | omega | (rw [hst]; dsimp only; omega) | (rw [hst]; dsimp only; split <;> omega), by first | omega | (rw [hst]; dsimp only; omega) | (rw [hst]; dsimp only; split <;> omega), by first | omega | (rw [hst]; dsimp only; omega) | (rw [hst]; dsimp only; split <;> omega), by first | omega | (rw [hst]; dsimp only; omega) | (rw [hst]; dsimp only; split <;> omega), by first | omega | (rw [hst]; dsimp only; omega) | (rw [hst]; dsimp only; split <;> omega), by first | omega | (rw [hst]; dsimp only; omega) | (rw [hst]; dsimp only; split <;> omega)⟩ (by exact sy_dec (by omega) (by omega))
  · exact ⟨rfl, by omega, by omega, by simp [nd], by simp [nd], by omega, by omega, by omega, by omega⟩
set_option maxRecDepth 20000 in
set_option maxHeartbeats 4000000 in
theorem c_X6_rowOfRun_13 {G : sw_G} (d : Nat) {h0 : sw_H} (hJ : cJ h0) (f n : Int) (hf : 0 ≤ f ∧ 0 ≤ n ∧ n ≤ 6 ∧ f + n ≤ 60) (hv : ∀ i : Int, f ≤ i → i < f + n → 0 ≤ h0 15 i.toNat ∧ h0 15 i.toNat ≤ 6) : sw_E G NH SH (d + 2) mX6_rowOfRun 0 [some (sw_r 182), some (sw_r 13), some (sw_i f), some (sw_i n), none, none, none, none] [] h0 (sw_Qi (fun z h' => cK prH h0 h' ∧ h' 182 8 = (nd (h0 15) f.toNat n.toNat).2 ∧ (z ≠ -1 → h' 182 8 ≤ 3) ∧ -1 ≤ z ∧ z ≤ 1023)) := by
  have hI : cK prH h0 h0 := cK.refl hJ
  refine sx_iconst dX6_rowOfRun_0 ⟨by decide, by decide⟩ ?_
  refine sx_istore dX6_rowOfRun_1 (by decide) ?_
  refine sx_iconst dX6_rowOfRun_3 ⟨by decide, by decide⟩ ?_
  refine sx_istore dX6_rowOfRun_4 (by decide) ?_
  refine sx_iload_n dX6_rowOfRun_6 rfl ?_
  refine sx_istore dX6_rowOfRun_7 (by decide) ?_
  refine sx_loop3 (fun (h : sw_H) (a : Int) (b : Int) (i : Int) => (h0 = h) ∧ (f ≤ i) ∧ (i ≤ f + n) ∧ (a = (nd (h0 15) f.toNat (i - f).toNat).1) ∧ (b = (nd (h0 15) f.toNat (i - f).toNat).2) ∧ (-(3 * (i - f)) ≤ a) ∧ (a ≤ 3 * (i - f)) ∧ (0 ≤ b) ∧ (b ≤ 3 + 3 * (i - f))) (fun (h : sw_H) (a : Int) (b : Int) (i : Int) => (f + n - i).toNat) (fun (h : sw_H) (a : Int) (b : Int) (i : Int) => sw_E G NH SH (d + 2) mX6_rowOfRun 9 [some (sw_r 182), some (sw_r 13), some (sw_i f), some (sw_i n), some (sw_i a), some (sw_i b), some (sw_i i), none] [] h (sw_Qi (fun z h' => cK prH h0 h' ∧ h' 182 8 = (nd (h0 15) f.toNat n.toNat).2 ∧ (z ≠ -1 → h' 182 8 ≤ 3) ∧ -1 ≤ z ∧ z ≤ 1023))) ?_ _ _ _ _ ?_
  · rintro h1 a_2 b_3 i_4 ⟨rfl, j5, j6, j7, j8, j9, j10, j11, j12⟩ ihh1
    try dsimp only at ihh1
    refine sx_iload dX6_rowOfRun_9 rfl ?_
    refine sx_iload_n dX6_rowOfRun_11 rfl ?_
    refine sx_iload_n dX6_rowOfRun_12 rfl ?_
    refine sx_iadd dX6_rowOfRun_13 ?_
    refine sy_topw (by omega) ?_
    refine sx_icmp_ge (tgt := 66) dX6_rowOfRun_14 (by decide) (fun c13 => ?_) (fun c13 => ?_)
    ·
      have hni : b_3 = (nd (h0 15) f.toNat n.toNat).2 := by have q : (i_4 - f).toNat = n.toNat := (by omega); rw [← q]; assumption
      refine sx_aload_n dX6_rowOfRun_66 rfl ?_
      refine sx_iload dX6_rowOfRun_67 rfl ?_
      refine sy_putI (k := 8) cl_6 fl_X6_97 dX6_rowOfRun_69 s_182 (by decide) rfl (by decide) rfl rfl (fun h14 eh14 => ?_)
      have Ih14 := hI.up eh14 trivial rfl rfl
      have th14_182_8 := eh14.1
      refine sx_iload dX6_rowOfRun_72 rfl ?_
      refine sx_iconst dX6_rowOfRun_74 ⟨by decide, by decide⟩ ?_
      refine sx_icmp_le (tgt := 82) dX6_rowOfRun_75 (by decide) (fun c15 => ?_) (fun c15 => ?_)
      ·
        refine sx_iload dX6_rowOfRun_82 rfl ?_
        refine sx_callSi lk_X6_52 dX6_rowOfRun_84 (vs := [_]) rfl rfl (Nat.le_of_ble_eq_true rfl) (Nat.le_of_ble_eq_true rfl) rfl (c_X6_firstRow _ Ih14.1 _ (by omega)) (fun x17 h16 ph16 => ?_)
        obtain ⟨rfl, s_x17⟩ := ph16
        refine sx_istore dX6_rowOfRun_87 (by decide) ?_
        refine sx_iload_n dX6_rowOfRun_89 rfl ?_
        refine sx_istore dX6_rowOfRun_90 (by decide) ?_
        refine sx_loop2 (fun (h : sw_H) (r : Int) (i : Int) => (h14 = h) ∧ (f ≤ i) ∧ (r = -1 ∨ (0 ≤ r ∧ r ≤ 1023)) ∧ (r ≠ -1 → b_3 ≤ 3)) (fun (h : sw_H) (r : Int) (i : Int) => (f + n - i).toNat) (fun (h : sw_H) (r : Int) (i : Int) => sw_E G NH SH (d + 2) mX6_rowOfRun 92 [some (sw_r 182), some (sw_r 13), some (sw_i f), some (sw_i n), some (sw_i a_2), some (sw_i b_3), some (sw_i r), some (sw_i i)] [] h (sw_Qi (fun z h' => cK prH h0 h' ∧ h' 182 8 = (nd (h0 15) f.toNat n.toNat).2 ∧ (z ≠ -1 → h' 182 8 ≤ 3) ∧ -1 ≤ z ∧ z ≤ 1023))) ?_ _ _ _ ?_
        · rintro h18 r_19 i_20 ⟨rfl, j21, j22, j23⟩ ihh18
          try dsimp only at ihh18
          refine sx_iload dX6_rowOfRun_92 rfl ?_
          refine sx_iload_n dX6_rowOfRun_94 rfl ?_
          refine sx_iload_n dX6_rowOfRun_95 rfl ?_
          refine sx_iadd dX6_rowOfRun_96 ?_
          refine sy_topw (by omega) ?_
          refine sx_icmp_ge (tgt := 126) dX6_rowOfRun_97 (by decide) (fun c24 => ?_) (fun c24 => ?_)
          ·
            refine sx_iload dX6_rowOfRun_126 rfl ?_
            refine sx_ireturn dX6_rowOfRun_128 ?_
            exact ⟨_, rfl, ⟨Ih14, by omega, fun q => by omega, by omega, by omega⟩⟩
          ·
            refine sx_iload dX6_rowOfRun_100 rfl ?_
            refine sx_iconst dX6_rowOfRun_102 ⟨by decide, by decide⟩ ?_
            refine sx_icmp_eq (tgt := 126) dX6_rowOfRun_103 (by decide) (fun c25 => ?_) (fun c25 => ?_)
            ·
              refine sx_iload dX6_rowOfRun_126 rfl ?_
              refine sx_ireturn dX6_rowOfRun_128 ?_
              exact ⟨_, rfl, ⟨Ih14, by omega, fun q => by omega, by omega, by omega⟩⟩
            ·
              have hvi := hv i_20 (by omega) (by omega)
              have hfe : h14 15 = h0 15 := funext (fun k => Ih14.2 15 k rfl)
              refine sx_iload dX6_rowOfRun_106 rfl ?_
              refine sx_aload_n dX6_rowOfRun_108 rfl ?_
              refine sx_getS (k := 6) (t := 15) cl_0 fl_X6_112 dX6_rowOfRun_109 s_13 (by decide) rfl (by decide) ?_
              refine sx_iload dX6_rowOfRun_112 rfl ?_
              refine sx_iaload dX6_rowOfRun_114 s_15 (by decide) (by decide) ⟨by omega, by omega⟩ ?_
              rw [hfe]
              refine sx_callSi lk_X6_68 dX6_rowOfRun_115 (vs := [_, _]) rfl rfl (Nat.le_of_ble_eq_true rfl) (Nat.le_of_ble_eq_true rfl) rfl (c_X6_shuffle _ Ih14.1 _ _ (by omega) (by omega)) (fun x27 h26 ph26 => ?_)
              obtain ⟨rfl, s_x27⟩ := ph26
              refine sx_istore dX6_rowOfRun_118 (by decide) ?_
              refine sx_iinc dX6_rowOfRun_120 (by decide) rfl ?_
              rw [sw_w_id (by omega) (by omega)]
              refine sx_goto (tgt := 92) dX6_rowOfRun_123 (by decide) ?_
              exact ihh18 _ _ _ ⟨rfl, by omega, by omega, by omega⟩ (by exact sy_dec (by omega) (by omega))
        · exact ⟨rfl, by omega, by omega, by omega⟩
      ·
        refine sx_iconst dX6_rowOfRun_78 ⟨by decide, by decide⟩ ?_
        refine sx_goto (tgt := 87) dX6_rowOfRun_79 (by decide) ?_
        refine sx_istore dX6_rowOfRun_87 (by decide) ?_
        refine sx_iload_n dX6_rowOfRun_89 rfl ?_
        refine sx_istore dX6_rowOfRun_90 (by decide) ?_
        refine sx_loop2 (fun (h : sw_H) (r : Int) (i : Int) => (h14 = h) ∧ (f ≤ i) ∧ (r = -1 ∨ (0 ≤ r ∧ r ≤ 1023)) ∧ (r ≠ -1 → b_3 ≤ 3)) (fun (h : sw_H) (r : Int) (i : Int) => (f + n - i).toNat) (fun (h : sw_H) (r : Int) (i : Int) => sw_E G NH SH (d + 2) mX6_rowOfRun 92 [some (sw_r 182), some (sw_r 13), some (sw_i f), some (sw_i n), some (sw_i a_2), some (sw_i b_3), some (sw_i r), some (sw_i i)] [] h (sw_Qi (fun z h' => cK prH h0 h' ∧ h' 182 8 = (nd (h0 15) f.toNat n.toNat).2 ∧ (z ≠ -1 → h' 182 8 ≤ 3) ∧ -1 ≤ z ∧ z ≤ 1023))) ?_ _ _ _ ?_
        · rintro h28 r_29 i_30 ⟨rfl, j31, j32, j33⟩ ihh28
          try dsimp only at ihh28
          refine sx_iload dX6_rowOfRun_92 rfl ?_
          refine sx_iload_n dX6_rowOfRun_94 rfl ?_
          refine sx_iload_n dX6_rowOfRun_95 rfl ?_
          refine sx_iadd dX6_rowOfRun_96 ?_
          refine sy_topw (by omega) ?_
          refine sx_icmp_ge (tgt := 126) dX6_rowOfRun_97 (by decide) (fun c34 => ?_) (fun c34 => ?_)
          ·
            refine sx_iload dX6_rowOfRun_126 rfl ?_
            refine sx_ireturn dX6_rowOfRun_128 ?_
            exact ⟨_, rfl, ⟨Ih14, by omega, fun q => by omega, by omega, by omega⟩⟩
          ·
            refine sx_iload dX6_rowOfRun_100 rfl ?_
            refine sx_iconst dX6_rowOfRun_102 ⟨by decide, by decide⟩ ?_
            refine sx_icmp_eq (tgt := 126) dX6_rowOfRun_103 (by decide) (fun c35 => ?_) (fun c35 => ?_)
            ·
              refine sx_iload dX6_rowOfRun_126 rfl ?_
              refine sx_ireturn dX6_rowOfRun_128 ?_
              exact ⟨_, rfl, ⟨Ih14, by omega, fun q => by omega, by omega, by omega⟩⟩
            ·
              have hvi := hv i_30 (by omega) (by omega)
              have hfe : h14 15 = h0 15 := funext (fun k => Ih14.2 15 k rfl)
              refine sx_iload dX6_rowOfRun_106 rfl ?_
              refine sx_aload_n dX6_rowOfRun_108 rfl ?_
              refine sx_getS (k := 6) (t := 15) cl_0 fl_X6_112 dX6_rowOfRun_109 s_13 (by decide) rfl (by decide) ?_
              refine sx_iload dX6_rowOfRun_112 rfl ?_
              refine sx_iaload dX6_rowOfRun_114 s_15 (by decide) (by decide) ⟨by omega, by omega⟩ ?_
              rw [hfe]
              refine sx_callSi lk_X6_68 dX6_rowOfRun_115 (vs := [_, _]) rfl rfl (Nat.le_of_ble_eq_true rfl) (Nat.le_of_ble_eq_true rfl) rfl (c_X6_shuffle _ Ih14.1 _ _ (by omega) (by omega)) (fun x37 h36 ph36 => ?_)
              obtain ⟨rfl, s_x37⟩ := ph36
              refine sx_istore dX6_rowOfRun_118 (by decide) ?_
              refine sx_iinc dX6_rowOfRun_120 (by decide) rfl ?_
              rw [sw_w_id (by omega) (by omega)]
              refine sx_goto (tgt := 92) dX6_rowOfRun_123 (by decide) ?_
              exact ihh28 _ _ _ ⟨rfl, by omega, by omega, by omega⟩ (by exact sy_dec (by omega) (by omega))
        · exact ⟨rfl, by omega, by omega, by omega⟩
    ·
      refine sx_aload_n dX6_rowOfRun_17 rfl ?_
      refine sx_getS (k := 6) (t := 15) cl_0 fl_X6_112 dX6_rowOfRun_18 s_13 (by decide) rfl (by decide) ?_
      refine sx_iload dX6_rowOfRun_21 rfl ?_
      refine sx_iaload dX6_rowOfRun_23 s_15 (by decide) (by decide) ⟨by omega, by omega⟩ ?_
      refine sy_top (fun v38 ev38 => ?_)
      refine sx_istore dX6_rowOfRun_24 (by decide) ?_
      subst ev38
      have hvi := hv i_4 (by omega) (by omega)
      have hst := nd_step (h0 15) f i_4 (by omega) (by omega)
      refine sx_iload dX6_rowOfRun_26 rfl ?_
      refine sx_gets (t := 0) (by decide) sl_X6_37 dX6_rowOfRun_28 ?_
      refine sx_iload dX6_rowOfRun_31 rfl ?_
      refine sy_sia (t := 0) (n := 15) (by decide) dX6_rowOfRun_33 rfl ⟨by omega, by omega⟩ (fun r39 => ?_)
      refine sx_iload dX6_rowOfRun_34 rfl ?_
      refine sx_isub dX6_rowOfRun_36 ?_
      refine sy_topw (by omega) ?_
      refine sx_max lm_X6_100 lw_max dX6_rowOfRun_37 (Nat.le_of_ble_eq_true rfl) ?_
      refine sy_max (fun m40 em40 fm40 gm40 => ?_)
      refine sy_top (fun v41 ev41 => ?_)
      refine sx_istore dX6_rowOfRun_40 (by decide) ?_
      refine sx_iload dX6_rowOfRun_42 rfl ?_
      refine sx_gets (t := 1) (by decide) sl_X6_34 dX6_rowOfRun_44 ?_
      refine sx_iload dX6_rowOfRun_47 rfl ?_
      refine sy_sia (t := 1) (n := 15) (by decide) dX6_rowOfRun_49 rfl ⟨by omega, by omega⟩ (fun r42 => ?_)
      refine sx_gets (t := 0) (by decide) sl_X6_37 dX6_rowOfRun_50 ?_
      refine sx_iload dX6_rowOfRun_53 rfl ?_
      refine sy_sia (t := 0) (n := 15) (by decide) dX6_rowOfRun_55 rfl ⟨by omega, by omega⟩ (fun r43 => ?_)
      refine sx_isub dX6_rowOfRun_56 ?_
      refine sy_topw (by omega) ?_
      refine sx_iadd dX6_rowOfRun_57 ?_
      refine sy_topw (by omega) ?_
      refine sy_top (fun v44 ev44 => ?_)
      refine sx_istore dX6_rowOfRun_58 (by decide) ?_
      refine sx_iinc dX6_rowOfRun_60 (by decide) rfl ?_
      rw [sw_w_id (by omega) (by omega)]
      refine sx_goto (tgt := 9) dX6_rowOfRun_63 (by decide) ?_
      refine sx_kill 7 ?_
      exact ihh1 _ _ _ _ ⟨rfl, by first | omega | (rw [hst]; dsimp only; omega) | (rw [hst]; dsimp only; split <;> omega), by first | omega | (rw [hst]; dsimp only; omega) | (rw [hst]; dsimp only; split <;> omega), by first | omega | (rw [hst]; dsimp only; omega) | (rw [hst]; dsimp only; split <;> omega), by first | omega | (rw [hst]; dsimp only; omega) | (rw [hst]; dsimp only; split <;> omega), by first | omega | (rw [hst]; dsimp only; omega) | (rw [hst]; dsimp only; split <;> omega), by first | omega | (rw [hst]; dsimp only; omega) | (rw [hst]; dsimp only; split <;> omega), by first | omega | (rw [hst]; dsimp only; omega) | (rw [hst]; dsimp only; split <;> omega), by first | omega | (rw [hst]; dsimp only; omega) | (rw [hst]; dsimp only; split <;> omega)⟩ (by exact sy_dec (by omega) (by omega))
  · exact ⟨rfl, by omega, by omega, by simp [nd], by simp [nd], by omega, by omega, by omega, by omega⟩

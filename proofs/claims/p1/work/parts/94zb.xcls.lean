-- ===== the class's shortest, exactly =====
set_option maxRecDepth 20000 in
set_option maxHeartbeats 4000000 in
theorem x_X6_rowOf {G : sw_G} (d : Nat) {h0 : sw_H} (hJ : cJ h0) (n m : Int) : sw_E G NH SH (d) mX6_rowOf 0 [some (sw_r 182), some (sw_i n), some (sw_i m), none, none, none, none] [] h0 (sw_Qi (fun z h' => h0 = h' ∧ ((TK n m ∧ z = rowE m) ∨ (¬ TK n m ∧ z = -1)))) := by
  have hI : cK pr0 h0 h0 := cK.refl hJ
  refine sx_iload_n dX6_rowOf_0 rfl ?_
  refine sx_if_lt (tgt := 20) dX6_rowOf_1 (by decide) (fun c1 => ?_) (fun c1 => ?_)
  ·
    refine sx_iconst dX6_rowOf_20 ⟨by decide, by decide⟩ ?_
    refine sx_ireturn dX6_rowOf_21 ?_
    exact ⟨_, rfl, ⟨rfl, Or.inr ⟨fun T => by first | (have := T.1; omega) | (have := T.2.1; omega), rfl⟩⟩⟩
  ·
    refine sx_iload_n dX6_rowOf_4 rfl ?_
    refine sx_iconst dX6_rowOf_5 ⟨by decide, by decide⟩ ?_
    refine sx_icmp_gt (tgt := 20) dX6_rowOf_6 (by decide) (fun c2 => ?_) (fun c2 => ?_)
    ·
      refine sx_iconst dX6_rowOf_20 ⟨by decide, by decide⟩ ?_
      refine sx_ireturn dX6_rowOf_21 ?_
      exact ⟨_, rfl, ⟨rfl, Or.inr ⟨fun T => by first | (have := T.1; omega) | (have := T.2.1; omega), rfl⟩⟩⟩
    ·
      refine sx_iload_n dX6_rowOf_9 rfl ?_
      refine sx_if_lt (tgt := 20) dX6_rowOf_10 (by decide) (fun c3 => ?_) (fun c3 => ?_)
      ·
        refine sx_iconst dX6_rowOf_20 ⟨by decide, by decide⟩ ?_
        refine sx_ireturn dX6_rowOf_21 ?_
        exact ⟨_, rfl, ⟨rfl, Or.inr ⟨fun T => by first | (have := T.1; omega) | (have := T.2.1; omega), rfl⟩⟩⟩
      ·
        refine sx_iload_n dX6_rowOf_13 rfl ?_
        refine sx_sipush dX6_rowOf_14 ⟨by decide, by decide, by decide⟩ ?_
        refine sx_icmp_le (tgt := 22) dX6_rowOf_17 (by decide) (fun c4 => ?_) (fun c4 => ?_)
        ·
          have hn : 0 ≤ n ∧ n ≤ 3 := ⟨by omega, by omega⟩
          have hm : 0 ≤ m ∧ m ≤ 9999 := ⟨by omega, by omega⟩
          refine sx_iconst dX6_rowOf_22 ⟨by decide, by decide⟩ ?_
          refine sx_istore_n dX6_rowOf_23 (by decide) ?_
          refine sx_iconst dX6_rowOf_24 ⟨by decide, by decide⟩ ?_
          refine sx_istore dX6_rowOf_25 (by decide) ?_
          refine sx_sipush dX6_rowOf_27 ⟨by decide, by decide, by decide⟩ ?_
          refine sx_istore dX6_rowOf_30 (by decide) ?_
          refine sx_loop3 (fun (h : sw_H) (q : Int) (u : Int) (t : Int) => (h0 = h) ∧ (RO n m q u t)) (fun (h : sw_H) (q : Int) (u : Int) (t : Int) => t.toNat) (fun (h : sw_H) (q : Int) (u : Int) (t : Int) => sw_E G NH SH (d) mX6_rowOf 32 [some (sw_r 182), some (sw_i n), some (sw_i m), some (sw_i q), some (sw_i u), some (sw_i t), none] [] h (sw_Qi (fun z h' => h0 = h' ∧ ((TK n m ∧ z = rowE m) ∨ (¬ TK n m ∧ z = -1))))) ?_ _ _ _ _ ?_
          · rintro h5 q_6 u_7 t_8 ⟨rfl, jR⟩ ihh5
            try dsimp only at ihh5
            have jr := RO_rng hn hm jR
            refine sx_iload dX6_rowOf_32 rfl ?_
            refine sx_iconst dX6_rowOf_34 ⟨by decide, by decide⟩ ?_
            refine sx_icmp_lt (tgt := 100) dX6_rowOf_35 (by decide) (fun c9 => ?_) (fun c9 => ?_)
            ·
              refine sx_iload_n dX6_rowOf_100 rfl ?_
              refine sx_ireturn dX6_rowOf_101 ?_
              exact ⟨_, rfl, ⟨rfl, Or.inl (RO_end hn hm jR (by omega))⟩⟩
            ·
              refine sx_iload_n dX6_rowOf_38 rfl ?_
              refine sx_iload dX6_rowOf_39 rfl ?_
              refine sx_idiv dX6_rowOf_41 (by first | omega | (rw [Int.tmod_eq_emod_of_nonneg (by omega)]; omega) | (rw [Int.tdiv_eq_ediv_of_nonneg (by omega)]; omega)) ?_
              refine sx_bipush dX6_rowOf_42 ⟨by decide, by decide, by decide⟩ ?_
              refine sx_irem dX6_rowOf_44 (by first | omega | (rw [Int.tmod_eq_emod_of_nonneg (by omega)]; omega) | (rw [Int.tdiv_eq_ediv_of_nonneg (by omega)]; omega)) ?_
              refine sy_top (fun v10 ev10 => ?_)
              refine sx_istore dX6_rowOf_45 (by decide) ?_
              have ed := ev10
              refine sx_iload dX6_rowOf_47 rfl ?_
              refine sx_if_ne (tgt := 57) dX6_rowOf_49 (by decide) (fun c11 => ?_) (fun c11 => ?_)
              ·
                refine sx_iconst dX6_rowOf_57 ⟨by decide, by decide⟩ ?_
                refine sx_goto (tgt := 62) dX6_rowOf_58 (by decide) ?_
                refine sx_istore dX6_rowOf_62 (by decide) ?_
                refine sx_iload dX6_rowOf_64 rfl ?_
                refine sx_if_eq (tgt := 83) dX6_rowOf_66 (by decide) (fun c12 => ?_) (fun c12 => ?_)
                ·
                  exact absurd c12 (by decide)
                ·
                  refine sx_iload dX6_rowOf_69 rfl ?_
                  refine sx_iconst dX6_rowOf_71 ⟨by decide, by decide⟩ ?_
                  refine sx_icmp_lt (tgt := 81) dX6_rowOf_72 (by decide) (fun c13 => ?_) (fun c13 => ?_)
                  ·
                    refine sx_iconst dX6_rowOf_81 ⟨by decide, by decide⟩ ?_
                    refine sx_ireturn dX6_rowOf_82 ?_
                    exact ⟨_, rfl, ⟨rfl, Or.inr ⟨RO_bad hn hm jR (by omega) ed (by omega) (by omega), rfl⟩⟩⟩
                  ·
                    refine sx_iload dX6_rowOf_75 rfl ?_
                    refine sx_iload_n dX6_rowOf_77 rfl ?_
                    refine sx_icmp_le (tgt := 83) dX6_rowOf_78 (by decide) (fun c14 => ?_) (fun c14 => ?_)
                    ·
                      refine sx_iload_n dX6_rowOf_83 rfl ?_
                      refine sx_iconst dX6_rowOf_84 ⟨by decide, by decide⟩ ?_
                      refine sx_imul dX6_rowOf_85 ?_
                      refine sy_topw (by first | omega | (rw [Int.tmod_eq_emod_of_nonneg (by omega)]; omega) | (rw [Int.tdiv_eq_ediv_of_nonneg (by omega)]; omega)) ?_
                      refine sx_iload dX6_rowOf_86 rfl ?_
                      refine sx_iadd dX6_rowOf_88 ?_
                      refine sy_topw (by first | omega | (rw [Int.tmod_eq_emod_of_nonneg (by omega)]; omega) | (rw [Int.tdiv_eq_ediv_of_nonneg (by omega)]; omega)) ?_
                      refine sy_top (fun v15 ev15 => ?_)
                      refine sx_istore_n dX6_rowOf_89 (by decide) ?_
                      have et10 : t_8.tdiv 10 = t_8 / 10 := Int.tdiv_eq_ediv_of_nonneg (by omega)
                      refine sx_iload dX6_rowOf_90 rfl ?_
                      refine sx_bipush dX6_rowOf_92 ⟨by decide, by decide, by decide⟩ ?_
                      refine sx_idiv dX6_rowOf_94 (by first | omega | (rw [Int.tmod_eq_emod_of_nonneg (by omega)]; omega) | (rw [Int.tdiv_eq_ediv_of_nonneg (by omega)]; omega)) ?_
                      refine sy_topw (by first | omega | (rw [Int.tmod_eq_emod_of_nonneg (by omega)]; omega) | (rw [Int.tdiv_eq_ediv_of_nonneg (by omega)]; omega)) ?_
                      refine sy_top (fun v16 ev16 => ?_)
                      refine sx_istore dX6_rowOf_95 (by decide) ?_
                      subst ev15
                      subst ev16
                      refine sx_goto (tgt := 32) dX6_rowOf_97 (by decide) ?_
                      refine sx_kill 6 ?_
                      exact ihh5 _ _ _ _ ⟨rfl, by first | exact RO_one hm jR (by omega) ed (by omega) | exact RO_zero hm jR (by omega) ed (by omega) (by omega)⟩ (by exact sy_dec (by first | omega | (rw [Int.tmod_eq_emod_of_nonneg (by omega)]; omega) | (rw [Int.tdiv_eq_ediv_of_nonneg (by omega)]; omega)) (by first | omega | (rw [Int.tmod_eq_emod_of_nonneg (by omega)]; omega) | (rw [Int.tdiv_eq_ediv_of_nonneg (by omega)]; omega)))
                    ·
                      refine sx_iconst dX6_rowOf_81 ⟨by decide, by decide⟩ ?_
                      refine sx_ireturn dX6_rowOf_82 ?_
                      exact ⟨_, rfl, ⟨rfl, Or.inr ⟨RO_bad hn hm jR (by omega) ed (by omega) (by omega), rfl⟩⟩⟩
              ·
                refine sx_iload dX6_rowOf_52 rfl ?_
                refine sx_if_eq (tgt := 61) dX6_rowOf_54 (by decide) (fun c17 => ?_) (fun c17 => ?_)
                ·
                  refine sx_iconst dX6_rowOf_61 ⟨by decide, by decide⟩ ?_
                  refine sx_istore dX6_rowOf_62 (by decide) ?_
                  refine sx_iload dX6_rowOf_64 rfl ?_
                  refine sx_if_eq (tgt := 83) dX6_rowOf_66 (by decide) (fun c18 => ?_) (fun c18 => ?_)
                  ·
                    refine sx_iload_n dX6_rowOf_83 rfl ?_
                    refine sx_iconst dX6_rowOf_84 ⟨by decide, by decide⟩ ?_
                    refine sx_imul dX6_rowOf_85 ?_
                    refine sy_topw (by first | omega | (rw [Int.tmod_eq_emod_of_nonneg (by omega)]; omega) | (rw [Int.tdiv_eq_ediv_of_nonneg (by omega)]; omega)) ?_
                    refine sx_iload dX6_rowOf_86 rfl ?_
                    refine sx_iadd dX6_rowOf_88 ?_
                    refine sy_topw (by first | omega | (rw [Int.tmod_eq_emod_of_nonneg (by omega)]; omega) | (rw [Int.tdiv_eq_ediv_of_nonneg (by omega)]; omega)) ?_
                    refine sy_top (fun v19 ev19 => ?_)
                    refine sx_istore_n dX6_rowOf_89 (by decide) ?_
                    have et10 : t_8.tdiv 10 = t_8 / 10 := Int.tdiv_eq_ediv_of_nonneg (by omega)
                    refine sx_iload dX6_rowOf_90 rfl ?_
                    refine sx_bipush dX6_rowOf_92 ⟨by decide, by decide, by decide⟩ ?_
                    refine sx_idiv dX6_rowOf_94 (by first | omega | (rw [Int.tmod_eq_emod_of_nonneg (by omega)]; omega) | (rw [Int.tdiv_eq_ediv_of_nonneg (by omega)]; omega)) ?_
                    refine sy_topw (by first | omega | (rw [Int.tmod_eq_emod_of_nonneg (by omega)]; omega) | (rw [Int.tdiv_eq_ediv_of_nonneg (by omega)]; omega)) ?_
                    refine sy_top (fun v20 ev20 => ?_)
                    refine sx_istore dX6_rowOf_95 (by decide) ?_
                    subst ev19
                    subst ev20
                    refine sx_goto (tgt := 32) dX6_rowOf_97 (by decide) ?_
                    refine sx_kill 6 ?_
                    exact ihh5 _ _ _ _ ⟨rfl, by first | exact RO_one hm jR (by omega) ed (by omega) | exact RO_zero hm jR (by omega) ed (by omega) (by omega)⟩ (by exact sy_dec (by first | omega | (rw [Int.tmod_eq_emod_of_nonneg (by omega)]; omega) | (rw [Int.tdiv_eq_ediv_of_nonneg (by omega)]; omega)) (by first | omega | (rw [Int.tmod_eq_emod_of_nonneg (by omega)]; omega) | (rw [Int.tdiv_eq_ediv_of_nonneg (by omega)]; omega)))
                  ·
                    exact absurd c18 (by decide)
                ·
                  refine sx_iconst dX6_rowOf_57 ⟨by decide, by decide⟩ ?_
                  refine sx_goto (tgt := 62) dX6_rowOf_58 (by decide) ?_
                  refine sx_istore dX6_rowOf_62 (by decide) ?_
                  refine sx_iload dX6_rowOf_64 rfl ?_
                  refine sx_if_eq (tgt := 83) dX6_rowOf_66 (by decide) (fun c21 => ?_) (fun c21 => ?_)
                  ·
                    exact absurd c21 (by decide)
                  ·
                    refine sx_iload dX6_rowOf_69 rfl ?_
                    refine sx_iconst dX6_rowOf_71 ⟨by decide, by decide⟩ ?_
                    refine sx_icmp_lt (tgt := 81) dX6_rowOf_72 (by decide) (fun c22 => ?_) (fun c22 => ?_)
                    ·
                      refine sx_iconst dX6_rowOf_81 ⟨by decide, by decide⟩ ?_
                      refine sx_ireturn dX6_rowOf_82 ?_
                      exact ⟨_, rfl, ⟨rfl, Or.inr ⟨RO_bad hn hm jR (by omega) ed (by omega) (by omega), rfl⟩⟩⟩
                    ·
                      refine sx_iload dX6_rowOf_75 rfl ?_
                      refine sx_iload_n dX6_rowOf_77 rfl ?_
                      refine sx_icmp_le (tgt := 83) dX6_rowOf_78 (by decide) (fun c23 => ?_) (fun c23 => ?_)
                      ·
                        refine sx_iload_n dX6_rowOf_83 rfl ?_
                        refine sx_iconst dX6_rowOf_84 ⟨by decide, by decide⟩ ?_
                        refine sx_imul dX6_rowOf_85 ?_
                        refine sy_topw (by first | omega | (rw [Int.tmod_eq_emod_of_nonneg (by omega)]; omega) | (rw [Int.tdiv_eq_ediv_of_nonneg (by omega)]; omega)) ?_
                        refine sx_iload dX6_rowOf_86 rfl ?_
                        refine sx_iadd dX6_rowOf_88 ?_
                        refine sy_topw (by first | omega | (rw [Int.tmod_eq_emod_of_nonneg (by omega)]; omega) | (rw [Int.tdiv_eq_ediv_of_nonneg (by omega)]; omega)) ?_
                        refine sy_top (fun v24 ev24 => ?_)
                        refine sx_istore_n dX6_rowOf_89 (by decide) ?_
                        have et10 : t_8.tdiv 10 = t_8 / 10 := Int.tdiv_eq_ediv_of_nonneg (by omega)
                        refine sx_iload dX6_rowOf_90 rfl ?_
                        refine sx_bipush dX6_rowOf_92 ⟨by decide, by decide, by decide⟩ ?_
                        refine sx_idiv dX6_rowOf_94 (by first | omega | (rw [Int.tmod_eq_emod_of_nonneg (by omega)]; omega) | (rw [Int.tdiv_eq_ediv_of_nonneg (by omega)]; omega)) ?_
                        refine sy_topw (by first | omega | (rw [Int.tmod_eq_emod_of_nonneg (by omega)]; omega) | (rw [Int.tdiv_eq_ediv_of_nonneg (by omega)]; omega)) ?_
                        refine sy_top (fun v25 ev25 => ?_)
                        refine sx_istore dX6_rowOf_95 (by decide) ?_
                        subst ev24
                        subst ev25
                        refine sx_goto (tgt := 32) dX6_rowOf_97 (by decide) ?_
                        refine sx_kill 6 ?_
                        exact ihh5 _ _ _ _ ⟨rfl, by first | exact RO_one hm jR (by omega) ed (by omega) | exact RO_zero hm jR (by omega) ed (by omega) (by omega)⟩ (by exact sy_dec (by first | omega | (rw [Int.tmod_eq_emod_of_nonneg (by omega)]; omega) | (rw [Int.tdiv_eq_ediv_of_nonneg (by omega)]; omega)) (by first | omega | (rw [Int.tmod_eq_emod_of_nonneg (by omega)]; omega) | (rw [Int.tdiv_eq_ediv_of_nonneg (by omega)]; omega)))
                      ·
                        refine sx_iconst dX6_rowOf_81 ⟨by decide, by decide⟩ ?_
                        refine sx_ireturn dX6_rowOf_82 ?_
                        exact ⟨_, rfl, ⟨rfl, Or.inr ⟨RO_bad hn hm jR (by omega) ed (by omega) (by omega), rfl⟩⟩⟩
          · exact ⟨rfl, by exact Or.inl ⟨rfl, rfl, rfl⟩⟩
        ·
          refine sx_iconst dX6_rowOf_20 ⟨by decide, by decide⟩ ?_
          refine sx_ireturn dX6_rowOf_21 ?_
          exact ⟨_, rfl, ⟨rfl, Or.inr ⟨fun T => by first | (have := T.1; omega) | (have := T.2.1; omega), rfl⟩⟩⟩
set_option maxRecDepth 20000 in
set_option maxHeartbeats 4000000 in
theorem x_J7_fill_53178_184 {G : sw_G} (d : Nat) {h0 : sw_H} (hJ : cJ h0) (v : Int) : sw_E G NH SH (d) mJ7_fill_53178 0 [some (sw_r 184), some (sw_i v), none, none] [] h0 (sw_Qv (fun h' => cK prI h0 h' ∧ (∀ k : Nat, k < 1024 → h' 184 k = v))) := by
  have hI : cK prI h0 h0 := cK.refl hJ
  refine sx_iconst dJ7_fill_53178_0 ⟨by decide, by decide⟩ ?_
  refine sx_istore_n dJ7_fill_53178_1 (by decide) ?_
  refine sx_aload_n dJ7_fill_53178_2 rfl ?_
  refine sx_alen (t := 0) dJ7_fill_53178_3 s_184 (by decide) (by decide) (by decide) ?_
  refine sy_top (fun v1 ev1 => ?_)
  refine sx_istore_n dJ7_fill_53178_4 (by decide) ?_
  refine sx_loop1 (fun (h : sw_H) (i : Int) => (cK prI h0 h) ∧ (0 ≤ i) ∧ (∀ k : Nat, (k : Int) < i → h 184 k = v)) (fun (h : sw_H) (i : Int) => (1024 - i).toNat) (fun (h : sw_H) (i : Int) => sw_E G NH SH (d) mJ7_fill_53178 5 [some (sw_r 184), some (sw_i v), some (sw_i i), some (sw_i v1)] [] h (sw_Qv (fun h' => cK prI h0 h' ∧ (∀ k : Nat, k < 1024 → h' 184 k = v)))) ?_ _ _ ?_
  · rintro h2 i_3 ⟨Ih2, ji, jv⟩ ihh2
    try dsimp only at ihh2
    refine sx_iload_n dJ7_fill_53178_5 rfl ?_
    refine sx_iload_n dJ7_fill_53178_6 rfl ?_
    refine sx_icmp_ge (tgt := 20) dJ7_fill_53178_7 (by decide) (fun c4 => ?_) (fun c4 => ?_)
    ·
      refine sx_ret dJ7_fill_53178_20 ?_
      exact ⟨rfl, ⟨Ih2, fun k hk => jv k (by omega)⟩⟩
    ·
      refine sx_aload_n dJ7_fill_53178_10 rfl ?_
      refine sx_iload_n dJ7_fill_53178_11 rfl ?_
      refine sx_iload_n dJ7_fill_53178_12 rfl ?_
      refine sy_iastore dJ7_fill_53178_13 s_184 (by decide) (by decide) ⟨by omega, by omega⟩ (fun h5 eh5 => ?_)
      have Ih5 := Ih2.up eh5 trivial rfl rfl
      have jv2 : ∀ k : Nat, (k : Int) < i_3 + 1 → h5 184 k = v := fun k hk => by rw [eh5.at 184 k]; simp only [true_and]; by_cases q : k = (i_3).toNat; (rw [if_pos q]); (rw [if_neg q]; exact jv k (by omega))
      refine sx_iinc dJ7_fill_53178_14 (by decide) rfl ?_
      rw [sw_w_id (by omega) (by omega)]
      refine sx_goto (tgt := 5) dJ7_fill_53178_17 (by decide) ?_
      exact ihh2 _ _ ⟨Ih5, by omega, by exact jv2⟩ (by exact sy_dec (by omega) (by omega))
  · exact ⟨hI, by omega, by (intro k hk; omega)⟩
set_option maxRecDepth 20000 in
set_option maxHeartbeats 4000000 in
theorem x_X6_meet {G : sw_G} (d : Nat) {h0 : sw_H} (hJ : cJ h0) (r t f : Int) (hr : 0 ≤ r ∧ r ≤ 1023) (hf : 0 ≤ f ∧ f ≤ 1023) (hq : h0 182 1 < 364) : sw_E G NH SH (d) mX6_meet 0 [some (sw_r 182), some (sw_i r), some (sw_i t), some (sw_i f)] [] h0 (sw_Qv (fun h' => cK prI h0 h' ∧ h' 182 1 = h0 182 1 + 1 ∧ (∀ k : Nat, h' 183 k = if (k : Int) = h0 182 1 then r else h0 183 k) ∧ (∀ k : Nat, h' 184 k = if (k : Int) = r then t else h0 184 k) ∧ (∀ k : Nat, h' 185 k = if (k : Int) = r then f else h0 185 k))) := by
  have hI : cK prI h0 h0 := cK.refl hJ
  refine sx_aload_n dX6_meet_0 rfl ?_
  refine sx_getI (k := 1) cl_6 fl_X6_61 dX6_meet_1 s_182 (by decide) rfl (by decide) ?_
  have r1 : (0 : Int) ≤ h0 182 1 ∧ h0 182 1 ≤ 364 := hI.1.1 182 1
  refine sx_sipush dX6_meet_4 ⟨by decide, by decide, by decide⟩ ?_
  refine sx_icmp_ge (tgt := 44) dX6_meet_7 (by decide) (fun c2 => ?_) (fun c2 => ?_)
  ·
    exfalso; omega
  ·
    refine sx_aload_n dX6_meet_10 rfl ?_
    refine sx_getS (k := 2) (t := 184) cl_6 fl_X6_15 dX6_meet_11 s_182 (by decide) rfl (by decide) ?_
    refine sx_iload_n dX6_meet_14 rfl ?_
    refine sx_iload_n dX6_meet_15 rfl ?_
    refine sy_iastore dX6_meet_16 s_184 (by decide) (by decide) ⟨by omega, by omega⟩ (fun h3 eh3 => ?_)
    have Ih3 := hI.up eh3 trivial rfl rfl
    have th3_182_1 := eh3.2 (182) 1 (by omega)
    refine sx_aload_n dX6_meet_17 rfl ?_
    refine sx_getS (k := 3) (t := 185) cl_6 fl_X6_18 dX6_meet_18 s_182 (by decide) rfl (by decide) ?_
    refine sx_iload_n dX6_meet_21 rfl ?_
    refine sx_iload_n dX6_meet_22 rfl ?_
    refine sy_iastore dX6_meet_23 s_185 (by decide) (by decide) ⟨by omega, by omega⟩ (fun h4 eh4 => ?_)
    have Ih4 := Ih3.up eh4 (show (0 : Int) ≤ _ ∧ _ ≤ (1023 : Int) from ⟨by omega, by omega⟩) rfl rfl
    have th4_182_1 := eh4.2 (182) 1 (by omega)
    refine sx_aload_n dX6_meet_24 rfl ?_
    refine sx_getS (k := 0) (t := 183) cl_6 fl_X6_11 dX6_meet_25 s_182 (by decide) rfl (by decide) ?_
    refine sx_aload_n dX6_meet_28 rfl ?_
    refine sx_getI (k := 1) cl_6 fl_X6_61 dX6_meet_29 s_182 (by decide) rfl (by decide) ?_
    have r5 : (0 : Int) ≤ h4 182 1 ∧ h4 182 1 ≤ 364 := Ih4.1.1 182 1
    refine sx_iload_n dX6_meet_32 rfl ?_
    refine sy_iastore dX6_meet_33 s_183 (by decide) (by decide) ⟨by omega, by omega⟩ (fun h6 eh6 => ?_)
    have Ih6 := Ih4.up eh6 (show (0 : Int) ≤ _ ∧ _ ≤ (1023 : Int) from ⟨by omega, by omega⟩) rfl rfl
    have th6_182_1 := eh6.2 (182) 1 (by omega)
    refine sx_aload_n dX6_meet_34 rfl ?_
    refine sx_dupr dX6_meet_35 ?_
    refine sx_getI (k := 1) cl_6 fl_X6_61 dX6_meet_36 s_182 (by decide) rfl (by decide) ?_
    have r7 : (0 : Int) ≤ h6 182 1 ∧ h6 182 1 ≤ 364 := Ih6.1.1 182 1
    refine sx_iconst dX6_meet_39 ⟨by decide, by decide⟩ ?_
    refine sx_iadd dX6_meet_40 ?_
    refine sy_topw (by omega) ?_
    refine sy_putI (k := 1) cl_6 fl_X6_61 dX6_meet_41 s_182 (by decide) rfl (by decide) rfl rfl (fun h8 eh8 => ?_)
    have Ih8 := Ih6.up eh8 (show (0 : Int) ≤ _ ∧ _ ≤ (364 : Int) from ⟨by omega, by omega⟩) rfl rfl
    have th8_182_1 := eh8.1
    have w1 : h8 182 1 = h0 182 1 + 1 := by have := eh8.1; omega
    have w3 : ∀ k : Nat, h8 183 k = if (k : Int) = h0 182 1 then r else h0 183 k := fun k => by rw [eh8.2 183 k (by omega), eh6.at 183 k]; simp only [true_and]; by_cases q : (k : Int) = h0 182 1; (rw [if_pos (by omega), if_pos q]); (rw [if_neg (by omega), if_neg q, eh4.2 183 k (by omega), eh3.2 183 k (by omega)])
    have w4 : ∀ k : Nat, h8 184 k = if (k : Int) = r then t else h0 184 k := fun k => by rw [eh8.2 184 k (by omega), eh6.2 184 k (by omega), eh4.2 184 k (by omega), eh3.at 184 k]; simp only [true_and]; by_cases q : (k : Int) = r; (rw [if_pos (by omega), if_pos q]); (rw [if_neg (by omega), if_neg q])
    have w5 : ∀ k : Nat, h8 185 k = if (k : Int) = r then f else h0 185 k := fun k => by rw [eh8.2 185 k (by omega), eh6.2 185 k (by omega), eh4.at 185 k]; simp only [true_and]; by_cases q : (k : Int) = r; (rw [if_pos (by omega), if_pos q]); (rw [if_neg (by omega), if_neg q, eh3.2 185 k (by omega)])
    refine sx_ret dX6_meet_44 ?_
    exact ⟨rfl, ⟨Ih8, w1, w3, w4, w5⟩⟩
set_option maxRecDepth 20000 in
set_option maxHeartbeats 4000000 in
theorem x_X6_explore {G : sw_G} (d : Nat) {h0 : sw_H} (hJ : cJ h0) (n t : Int) (hn : 0 ≤ n ∧ n ≤ 3) : sw_E G NH SH (d + 3) mX6_explore 0 [some (sw_r 182), some (sw_i n), some (sw_i t), none, none, none, none] [] h0 (sw_Qz (fun z h' => cK prI h0 h' ∧ (z = 1 → ∃ k : Nat, k < qM n.toNat ∧ t = rQ n.toNat k ∧ BK n.toNat h' k) ∧ (z = 0 → ∀ k : Nat, k < qM n.toNat → rQ n.toNat k ≠ t))) := by
  have hI : cK prI h0 h0 := cK.refl hJ
  have hN : n.toNat < 4 := by omega
  refine sx_aload_n dX6_explore_0 rfl ?_
  refine sx_getS (k := 2) (t := 184) cl_6 fl_X6_15 dX6_explore_1 s_182 (by decide) rfl (by decide) ?_
  refine sx_iconst dX6_explore_4 ⟨by decide, by decide⟩ ?_
  refine sx_callSv lk_X6_55 dX6_explore_5 (vs := [_, _]) rfl rfl (Nat.le_of_ble_eq_true rfl) (Nat.le_of_ble_eq_true rfl) rfl (x_J7_fill_53178_184 _ hI.1 _) (fun h1 ph1 => ?_)
  obtain ⟨Kh1, f_h1⟩ := ph1
  have Ih1 := hI.tr Kh1 sb_prI_prI
  refine sx_aload_n dX6_explore_8 rfl ?_
  refine sx_iconst dX6_explore_9 ⟨by decide, by decide⟩ ?_
  refine sy_putI (k := 1) cl_6 fl_X6_61 dX6_explore_10 s_182 (by decide) rfl (by decide) rfl rfl (fun h3 eh3 => ?_)
  have Ih3 := Ih1.up eh3 (show (0 : Int) ≤ _ ∧ _ ≤ (364 : Int) from ⟨by omega, by omega⟩) rfl rfl
  have th3_182_1 := eh3.1
  refine sx_aload_n dX6_explore_13 rfl ?_
  refine sx_iload_n dX6_explore_14 rfl ?_
  refine sx_callSi lk_X6_52 dX6_explore_15 (vs := [_]) rfl rfl (Nat.le_of_ble_eq_true rfl) (Nat.le_of_ble_eq_true rfl) rfl (x_X6_firstRow _ Ih3.1 _ (by omega)) (fun x5 h4 ph4 => ?_)
  obtain ⟨rfl, s_x5⟩ := ph4
  have f_x5 := rQ_rng (k := 0) hN (q_0 hN).2.2.1
  rw [← rQ_0 hn, ← s_x5] at f_x5
  refine sx_iconst dX6_explore_18 ⟨by decide, by decide⟩ ?_
  refine sx_iconst dX6_explore_19 ⟨by decide, by decide⟩ ?_
  refine sx_callVv lk_X6_64 cl_6 s_182 (by decide) dX6_explore_20 (vs := [_, _, _]) rfl rfl (Nat.le_of_ble_eq_true rfl) (Nat.le_of_ble_eq_true rfl) rfl (x_X6_meet _ Ih3.1 _ _ _ (by omega) (by omega) (by omega)) (fun h6 ph6 => ?_)
  obtain ⟨Kh6, a_h6, b_h6, c_h6, e_h6⟩ := ph6
  have Ih6 := Ih3.tr Kh6 sb_prI_prI
  refine sx_iconst dX6_explore_23 ⟨by decide, by decide⟩ ?_
  refine sx_istore_n dX6_explore_24 (by decide) ?_
  have E0 : EX n.toNat h6 0 0 := EX_init hN (s_x5.trans (rQ_0 hn)) eh3.1 (fun k hk => by rw [eh3.2 184 k (by omega)]; exact f_h1 k hk) a_h6 b_h6 c_h6
  refine sx_loop1 (fun (h : sw_H) (i : Int) => (cK prI h0 h) ∧ (0 ≤ i) ∧ (EX n.toNat h i 0) ∧ (∀ k : Nat, (k : Int) < i → rQ n.toNat k ≠ t)) (fun (h : sw_H) (i : Int) => (364 - i).toNat) (fun (h : sw_H) (i : Int) => sw_E G NH SH (d + 3) mX6_explore 25 [some (sw_r 182), some (sw_i n), some (sw_i t), some (sw_i i), none, none, none] [] h (sw_Qz (fun z h' => cK prI h0 h' ∧ (z = 1 → ∃ k : Nat, k < qM n.toNat ∧ t = rQ n.toNat k ∧ BK n.toNat h' k) ∧ (z = 0 → ∀ k : Nat, k < qM n.toNat → rQ n.toNat k ≠ t)))) ?_ _ _ ?_
  · rintro h8 i_9 ⟨Ih8, ji, jE, jn⟩ ihh8
    try dsimp only at ihh8
    refine sx_iload_n dX6_explore_25 rfl ?_
    refine sx_aload_n dX6_explore_26 rfl ?_
    refine sx_getI (k := 1) cl_6 fl_X6_61 dX6_explore_27 s_182 (by decide) rfl (by decide) ?_
    have r10 : (0 : Int) ≤ h8 182 1 ∧ h8 182 1 ≤ 364 := Ih8.1.1 182 1
    refine sx_icmp_ge (tgt := 107) dX6_explore_30 (by decide) (fun c11 => ?_) (fun c11 => ?_)
    ·
      have ea := EX_all hN jE (by omega)
      refine sx_iconst dX6_explore_107 ⟨by decide, by decide⟩ ?_
      refine sx_ireturn dX6_explore_108 ?_
      exact ⟨_, rfl, by omega, ⟨Ih8, fun q => absurd q (by decide), fun _ k hk => jn k (by omega)⟩⟩
    ·
      refine sx_aload_n dX6_explore_33 rfl ?_
      refine sx_getS (k := 0) (t := 183) cl_6 fl_X6_11 dX6_explore_34 s_182 (by decide) rfl (by decide) ?_
      refine sx_iload_n dX6_explore_37 rfl ?_
      refine sy_iaF (F := fun z => (0 : Int) ≤ z ∧ z ≤ 1023) dX6_explore_38 s_183 (by decide) (by decide) ⟨by omega, by omega⟩ (Ih8.1.1 183 _) (fun r12 => ?_)
      refine sy_top (fun v13 ev13 => ?_)
      refine sx_istore dX6_explore_39 (by decide) ?_
      refine sx_iload dX6_explore_41 rfl ?_
      refine sx_iload_n dX6_explore_43 rfl ?_
      refine sx_icmp_ne (tgt := 49) dX6_explore_44 (by decide) (fun c14 => ?_) (fun c14 => ?_)
      ·
        have ewr : v13 = rQ n.toNat (i_9).toNat := by rw [ev13]; exact (jE.2.2.1 (i_9).toNat (by omega)).1
        have jn2 : ∀ k : Nat, (k : Int) < i_9 + 1 → rQ n.toNat k ≠ t := fun k hk => by by_cases q : (k : Int) = i_9; (rw [show k = (i_9).toNat by omega, ← ewr]; exact c14); exact jn k (by omega)
        refine sx_iconst dX6_explore_49 ⟨by decide, by decide⟩ ?_
        refine sx_istore dX6_explore_50 (by decide) ?_
        refine sx_loop1 (fun (h : sw_H) (j : Int) => (cK prI h0 h) ∧ (0 ≤ j) ∧ (j ≤ 7) ∧ (EX n.toNat h i_9 j) ∧ (i_9 < h 182 1)) (fun (h : sw_H) (j : Int) => (7 - j).toNat) (fun (h : sw_H) (j : Int) => sw_E G NH SH (d + 3) mX6_explore 52 [some (sw_r 182), some (sw_i n), some (sw_i t), some (sw_i i_9), some (sw_i v13), some (sw_i j), none] [] h (sw_Qz (fun z h' => cK prI h0 h' ∧ (z = 1 → ∃ k : Nat, k < qM n.toNat ∧ t = rQ n.toNat k ∧ BK n.toNat h' k) ∧ (z = 0 → ∀ k : Nat, k < qM n.toNat → rQ n.toNat k ≠ t)))) ?_ _ _ ?_
        · rintro h15 j_16 ⟨Ih15, jj, jj7, jE2, jiq⟩ ihh15
          try dsimp only at ihh15
          refine sx_iload dX6_explore_52 rfl ?_
          refine sx_bipush dX6_explore_54 ⟨by decide, by decide, by decide⟩ ?_
          refine sx_icmp_ge (tgt := 101) dX6_explore_56 (by decide) (fun c17 => ?_) (fun c17 => ?_)
          ·
            refine sx_iinc dX6_explore_101 (by decide) rfl ?_
            rw [sw_w_id (by omega) (by omega)]
            refine sx_goto (tgt := 25) dX6_explore_104 (by decide) ?_
            refine sx_kill 4 ?_
            refine sx_kill 5 ?_
            exact ihh8 _ _ ⟨Ih15, by omega, by exact EX_row jE2 (by omega), by exact jn2⟩ (by exact sy_dec (by omega) (by omega))
          ·
            refine sx_iload dX6_explore_59 rfl ?_
            refine sx_iload dX6_explore_61 rfl ?_
            refine sx_callSi lk_X6_68 dX6_explore_63 (vs := [_, _]) rfl rfl (Nat.le_of_ble_eq_true rfl) (Nat.le_of_ble_eq_true rfl) rfl (x_X6_shuffle _ Ih15.1 _ _ (by omega) (by omega)) (fun x19 h18 ph18 => ?_)
            obtain ⟨rfl, s_x19⟩ := ph18
            refine sx_istore dX6_explore_66 (by decide) ?_
            have hz : x19 = cS (rQ n.toNat (i_9).toNat) j_16 := by rw [← ewr]; exact s_x19
            have qb := jE2.2.1
            have zr := cS_rQ (n := n.toNat) (i := i_9) (j := j_16) hN (by omega) (by omega)
            rw [← hz] at zr
            refine sx_iload dX6_explore_68 rfl ?_
            refine sx_iconst dX6_explore_70 ⟨by decide, by decide⟩ ?_
            refine sx_icmp_eq (tgt := 95) dX6_explore_71 (by decide) (fun c20 => ?_) (fun c20 => ?_)
            ·
              have jE3 : EX n.toNat h15 i_9 (j_16 + 1) := EX_skip hN jE2 (by omega) (by omega) hz (by first | exact Or.inl c20 | exact Or.inr c20)
              refine sx_iinc dX6_explore_95 (by decide) rfl ?_
              rw [sw_w_id (by omega) (by omega)]
              refine sx_goto (tgt := 52) dX6_explore_98 (by decide) ?_
              refine sx_kill 6 ?_
              exact ihh15 _ _ ⟨Ih15, by omega, by omega, by exact jE3, by omega⟩ (by exact sy_dec (by omega) (by omega))
            ·
              refine sx_aload_n dX6_explore_74 rfl ?_
              refine sx_getS (k := 2) (t := 184) cl_6 fl_X6_15 dX6_explore_75 s_182 (by decide) rfl (by decide) ?_
              refine sx_iload dX6_explore_78 rfl ?_
              refine sx_iaload dX6_explore_80 s_184 (by decide) (by decide) ⟨by omega, by omega⟩ ?_
              refine sx_iconst dX6_explore_81 ⟨by decide, by decide⟩ ?_
              refine sx_icmp_ne (tgt := 95) dX6_explore_82 (by decide) (fun c21 => ?_) (fun c21 => ?_)
              ·
                have jE3 : EX n.toNat h15 i_9 (j_16 + 1) := EX_skip hN jE2 (by omega) (by omega) hz (by first | exact Or.inl c21 | exact Or.inr c21)
                refine sx_iinc dX6_explore_95 (by decide) rfl ?_
                rw [sw_w_id (by omega) (by omega)]
                refine sx_goto (tgt := 52) dX6_explore_98 (by decide) ?_
                refine sx_kill 6 ?_
                exact ihh15 _ _ ⟨Ih15, by omega, by omega, by exact jE3, by omega⟩ (by exact sy_dec (by omega) (by omega))
              ·
                have hv : h15 184 (x19).toNat = -1 := c21
                have nw := EX_new hN jE2 (by omega) (by omega) hz (by omega) hv
                have nw1 := nw.1
                have q36 := (q_0 hN).2.2.2
                refine sx_aload_n dX6_explore_85 rfl ?_
                refine sx_iload dX6_explore_86 rfl ?_
                refine sx_iload dX6_explore_88 rfl ?_
                refine sx_iload dX6_explore_90 rfl ?_
                refine sx_callVv lk_X6_64 cl_6 s_182 (by decide) dX6_explore_92 (vs := [_, _, _]) rfl rfl (Nat.le_of_ble_eq_true rfl) (Nat.le_of_ble_eq_true rfl) rfl (x_X6_meet _ Ih15.1 _ _ _ (by omega) (by omega) (by omega)) (fun h22 ph22 => ?_)
                obtain ⟨Kh22, a_h22, b_h22, c_h22, e_h22⟩ := ph22
                have Ih22 := Ih15.tr Kh22 sb_prI_prI
                have jE3 : EX n.toNat h22 i_9 (j_16 + 1) := EX_meet hN jE2 (by omega) (by omega) hz (by omega) hv ewr a_h22 b_h22 c_h22 e_h22
                refine sx_iinc dX6_explore_95 (by decide) rfl ?_
                rw [sw_w_id (by omega) (by omega)]
                refine sx_goto (tgt := 52) dX6_explore_98 (by decide) ?_
                refine sx_kill 6 ?_
                exact ihh15 _ _ ⟨Ih22, by omega, by omega, by exact jE3, by omega⟩ (by exact sy_dec (by omega) (by omega))
        · exact ⟨Ih8, by omega, by omega, by exact jE, by omega⟩
      ·
        have ewr : v13 = rQ n.toNat (i_9).toNat := by rw [ev13]; exact (jE.2.2.1 (i_9).toNat (by omega)).1
        have etq : t = rQ n.toNat (i_9).toNat := by rw [← ewr]; exact c14.symm
        have kq : (i_9).toNat < qM n.toNat := by have := jE.2.1; omega
        refine sx_iconst dX6_explore_47 ⟨by decide, by decide⟩ ?_
        refine sx_ireturn dX6_explore_48 ?_
        exact ⟨_, rfl, by omega, ⟨Ih8, fun _ => ⟨_, kq, etq, EX_BK jE (by omega)⟩, fun q => absurd q (by decide)⟩⟩
  · exact ⟨Ih6, by omega, by exact E0, by (intro k hk; omega)⟩
set_option maxRecDepth 20000 in
set_option maxHeartbeats 4000000 in
theorem x_X6_distance {G : sw_G} (d : Nat) {h0 : sw_H} (hJ : cJ h0) (n t : Int) (k : Nat) (hn : 0 ≤ n ∧ n ≤ 3) (hk : k < qM n.toNat) (ht : t = rQ n.toNat k) (hb : BK n.toNat h0 k) : sw_E G NH SH (d + 1) mX6_distance 0 [some (sw_r 182), some (sw_i n), some (sw_i t), none, none, none] [] h0 (sw_Qi (fun z h' => h0 = h' ∧ z = ((qD n.toNat k : Nat) : Int))) := by
  have hI : cK pr0 h0 h0 := cK.refl hJ
  have hN : n.toNat < 4 := by omega
  refine sx_iload_n dX6_distance_0 rfl ?_
  refine sx_callSi lk_X6_52 dX6_distance_1 (vs := [_]) rfl rfl (Nat.le_of_ble_eq_true rfl) (Nat.le_of_ble_eq_true rfl) rfl (x_X6_firstRow _ hI.1 _ (by omega)) (fun x2 h1 ph1 => ?_)
  obtain ⟨rfl, s_x2⟩ := ph1
  have f_x2 := rQ_rng (k := 0) hN (q_0 hN).2.2.1
  rw [← rQ_0 hn, ← s_x2] at f_x2
  refine sx_istore_n dX6_distance_4 (by decide) ?_
  have es : x2 = rQ n.toNat 0 := s_x2.trans (rQ_0 hn)
  refine sx_iload_n dX6_distance_5 rfl ?_
  refine sx_istore dX6_distance_6 (by decide) ?_
  refine sx_iconst dX6_distance_8 ⟨by decide, by decide⟩ ?_
  refine sx_istore dX6_distance_9 (by decide) ?_
  refine sx_loop2 (fun (h : sw_H) (q : Int) (l : Int) => (h0 = h) ∧ (DI n.toNat k q l) ∧ (0 ≤ l)) (fun (h : sw_H) (q : Int) (l : Int) => (364 - l).toNat) (fun (h : sw_H) (q : Int) (l : Int) => sw_E G NH SH (d + 1) mX6_distance 11 [some (sw_r 182), some (sw_i n), some (sw_i t), some (sw_i x2), some (sw_i q), some (sw_i l)] [] h (sw_Qi (fun z h' => h0 = h' ∧ z = ((qD n.toNat k : Nat) : Int)))) ?_ _ _ _ ?_
  · rintro h3 q_4 l_5 ⟨rfl, jD, jl⟩ ihh3
    try dsimp only at ihh3
    have jr := DI_rng hN hk jD
    refine sx_iload dX6_distance_11 rfl ?_
    refine sx_iload_n dX6_distance_13 rfl ?_
    refine sx_icmp_eq (tgt := 40) dX6_distance_14 (by decide) (fun c6 => ?_) (fun c6 => ?_)
    ·
      refine sx_iload dX6_distance_40 rfl ?_
      refine sx_ireturn dX6_distance_42 ?_
      exact ⟨_, rfl, ⟨rfl, by first | exact DI_end hN hk jD (by rw [← es]; assumption) | (exfalso; omega)⟩⟩
    ·
      refine sx_iload dX6_distance_17 rfl ?_
      refine sx_sipush dX6_distance_19 ⟨by decide, by decide, by decide⟩ ?_
      refine sx_icmp_ge (tgt := 40) dX6_distance_22 (by decide) (fun c7 => ?_) (fun c7 => ?_)
      ·
        refine sx_iload dX6_distance_40 rfl ?_
        refine sx_ireturn dX6_distance_42 ?_
        exact ⟨_, rfl, ⟨rfl, by first | exact DI_end hN hk jD (by rw [← es]; assumption) | (exfalso; omega)⟩⟩
      ·
        refine sx_aload_n dX6_distance_25 rfl ?_
        refine sx_getS (k := 3) (t := 185) cl_6 fl_X6_18 dX6_distance_26 s_182 (by decide) rfl (by decide) ?_
        refine sx_iload dX6_distance_29 rfl ?_
        refine sy_iaF (F := fun z => (0 : Int) ≤ z ∧ z ≤ 1023) dX6_distance_31 s_185 (by decide) (by decide) ⟨by omega, by omega⟩ (hI.1.1 185 _) (fun r8 => ?_)
        refine sy_top (fun v9 ev9 => ?_)
        refine sx_istore dX6_distance_32 (by decide) ?_
        have jD2 : DI n.toNat k v9 (l_5 + 1) := DI_step hN hk hb jD (by rw [← es]; assumption) ev9
        refine sx_iinc dX6_distance_34 (by decide) rfl ?_
        rw [sw_w_id (by omega) (by omega)]
        refine sx_goto (tgt := 11) dX6_distance_37 (by decide) ?_
        exact ihh3 _ _ _ ⟨rfl, by exact jD2, by omega⟩ (by exact sy_dec (by omega) (by omega))
  · exact ⟨rfl, by exact DI_init ht, by omega⟩
set_option maxRecDepth 20000 in
set_option maxHeartbeats 4000000 in
theorem x_X6_findShortest {G : sw_G} (d : Nat) {h0 : sw_H} (hJ : cJ h0) (n t r : Int) (hT : (TK n r ∧ t = rowE r) ∨ (¬ TK n r ∧ t = -1)) : sw_E G NH SH (d + 4) mX6_findShortest 0 [some (sw_r 182), some (sw_i n), some (sw_i t), none, none] [] h0 (sw_Qi (fun z h' => cK prH h0 h' ∧ z = XT n r)) := by
  have hI : cK prH h0 h0 := cK.refl hJ
  refine sx_aload_n dX6_findShortest_0 rfl ?_
  refine sx_iconst dX6_findShortest_1 ⟨by decide, by decide⟩ ?_
  refine sy_putI (k := 7) cl_6 fl_X6_40 dX6_findShortest_2 s_182 (by decide) rfl (by decide) rfl rfl (fun h1 eh1 => ?_)
  have Ih1 := hI.up eh1 (show (0 : Int) ≤ _ ∧ _ ≤ (364 : Int) from ⟨by omega, by omega⟩) rfl rfl
  have th1_182_7 := eh1.1
  refine sx_iload_n dX6_findShortest_5 rfl ?_
  refine sx_iconst dX6_findShortest_6 ⟨by decide, by decide⟩ ?_
  refine sx_icmp_eq (tgt := 19) dX6_findShortest_7 (by decide) (fun c2 => ?_) (fun c2 => ?_)
  ·
    refine sx_iconst dX6_findShortest_19 ⟨by decide, by decide⟩ ?_
    refine sx_ireturn dX6_findShortest_20 ?_
    exact ⟨_, rfl, ⟨Ih1, by first | exact T_no hT (by assumption) | exact XT_cno (fun k hk => by rw [← et]; exact u_h1 (by omega) k hk)⟩⟩
  ·
    obtain ⟨T, et, tr, hn3⟩ := T_yes hT c2
    refine sx_aload_n dX6_findShortest_10 rfl ?_
    refine sx_iload_n dX6_findShortest_11 rfl ?_
    refine sx_iload_n dX6_findShortest_12 rfl ?_
    refine sx_callVz lk_X6_44 cl_6 s_182 (by decide) dX6_findShortest_13 (vs := [_, _]) rfl rfl (Nat.le_of_ble_eq_true rfl) (Nat.le_of_ble_eq_true rfl) rfl (x_X6_explore _ Ih1.1 _ _ (by omega)) (fun x4 h3 zx4 ph3 => ?_)
    obtain ⟨Kh3, s_h3, u_h3⟩ := ph3
    have Ih3 := Ih1.tr Kh3 sb_prH_prI
    have th3_182_7 := Kh3.2 (182) 7 rfl
    refine sx_if_ne (tgt := 21) dX6_findShortest_16 (by decide) (fun c5 => ?_) (fun c5 => ?_)
    ·
      obtain ⟨k, hk, ek, hbk⟩ := s_h3 (by rcases zx4 with q | q; (exact absurd q c5); exact q)
      refine sx_aload_n dX6_findShortest_21 rfl ?_
      refine sx_aload_n dX6_findShortest_22 rfl ?_
      refine sx_iload_n dX6_findShortest_23 rfl ?_
      refine sx_iload_n dX6_findShortest_24 rfl ?_
      refine sx_callVi lk_X6_48 cl_6 s_182 (by decide) dX6_findShortest_25 (vs := [_, _]) rfl rfl (Nat.le_of_ble_eq_true rfl) (Nat.le_of_ble_eq_true rfl) rfl (x_X6_distance _ Ih3.1 _ _ k hn3 hk ek hbk) (fun x7 h6 ph6 => ?_)
      obtain ⟨rfl, s_x7⟩ := ph6
      have q15 := (q_A (n := n.toNat) (by omega) hk).2.2.1
      refine sy_putI (k := 7) cl_6 fl_X6_40 dX6_findShortest_28 s_182 (by decide) rfl (by decide) rfl rfl (fun h8 eh8 => ?_)
      have Ih8 := Ih3.up eh8 (show (0 : Int) ≤ _ ∧ _ ≤ (364 : Int) from ⟨by omega, by omega⟩) rfl rfl
      have th8_182_7 := eh8.1
      refine sx_iload_n dX6_findShortest_31 rfl ?_
      refine sx_istore_n dX6_findShortest_32 (by decide) ?_
      refine sx_aload_n dX6_findShortest_33 rfl ?_
      refine sx_getI (k := 7) cl_6 fl_X6_40 dX6_findShortest_34 s_182 (by decide) rfl (by decide) ?_
      have r9 : (0 : Int) ≤ h8 182 7 ∧ h8 182 7 ≤ 364 := Ih8.1.1 182 7
      refine sx_iconst dX6_findShortest_37 ⟨by decide, by decide⟩ ?_
      refine sx_isub dX6_findShortest_38 ?_
      refine sy_topw (by omega) ?_
      refine sy_top (fun v10 ev10 => ?_)
      refine sx_istore dX6_findShortest_39 (by decide) ?_
      refine sx_loop2 (fun (h : sw_H) (q : Int) (i : Int) => (cK prH h0 h) ∧ (0 ≤ q) ∧ (q ≤ 1023) ∧ (i ≤ 363) ∧ (h 182 7 = ((qD n.toNat k : Nat) : Int))) (fun (h : sw_H) (q : Int) (i : Int) => (i + 1).toNat) (fun (h : sw_H) (q : Int) (i : Int) => sw_E G NH SH (d + 4) mX6_findShortest 41 [some (sw_r 182), some (sw_i n), some (sw_i t), some (sw_i q), some (sw_i i)] [] h (sw_Qi (fun z h' => cK prH h0 h' ∧ z = XT n r))) ?_ _ _ _ ?_
      · rintro h11 q_12 i_13 ⟨Ih11, jq0, jq1, ji, jf⟩ ihh11
        try dsimp only at ihh11
        refine sx_iload dX6_findShortest_41 rfl ?_
        refine sx_if_lt (tgt := 72) dX6_findShortest_43 (by decide) (fun c14 => ?_) (fun c14 => ?_)
        ·
          refine sx_aload_n dX6_findShortest_72 rfl ?_
          refine sx_getI (k := 7) cl_6 fl_X6_40 dX6_findShortest_73 s_182 (by decide) rfl (by decide) ?_
          have r15 : (0 : Int) ≤ h11 182 7 ∧ h11 182 7 ≤ 364 := Ih11.1.1 182 7
          refine sx_ireturn dX6_findShortest_76 ?_
          exact ⟨_, rfl, ⟨Ih11, jf.trans (XT_cls T hk (et.symm.trans ek))⟩⟩
        ·
          refine sx_aload_n dX6_findShortest_46 rfl ?_
          refine sx_getS (k := 6) (t := 188) cl_6 fl_X6_27 dX6_findShortest_47 s_182 (by decide) rfl (by decide) ?_
          refine sx_iload dX6_findShortest_50 rfl ?_
          refine sx_aload_n dX6_findShortest_52 rfl ?_
          refine sx_getS (k := 2) (t := 184) cl_6 fl_X6_15 dX6_findShortest_53 s_182 (by decide) rfl (by decide) ?_
          refine sx_iload_n dX6_findShortest_56 rfl ?_
          refine sx_iaload dX6_findShortest_57 s_184 (by decide) (by decide) ⟨by omega, by omega⟩ ?_
          refine sy_iastore dX6_findShortest_58 s_188 (by decide) (by decide) ⟨by omega, by omega⟩ (fun h16 eh16 => ?_)
          have Ih16 := Ih11.up eh16 trivial rfl rfl
          have th16_182_7 := eh16.2 (182) 7 (by omega)
          refine sx_aload_n dX6_findShortest_59 rfl ?_
          refine sx_getS (k := 3) (t := 185) cl_6 fl_X6_18 dX6_findShortest_60 s_182 (by decide) rfl (by decide) ?_
          refine sx_iload_n dX6_findShortest_63 rfl ?_
          refine sy_iaF (F := fun z => (0 : Int) ≤ z ∧ z ≤ 1023) dX6_findShortest_64 s_185 (by decide) (by decide) ⟨by omega, by omega⟩ (Ih16.1.1 185 _) (fun r17 => ?_)
          refine sy_top (fun v18 ev18 => ?_)
          refine sx_istore_n dX6_findShortest_65 (by decide) ?_
          refine sx_iinc dX6_findShortest_66 (by decide) rfl ?_
          rw [sw_w_id (by omega) (by omega)]
          refine sx_goto (tgt := 41) dX6_findShortest_69 (by decide) ?_
          exact ihh11 _ _ _ ⟨Ih16, by omega, by omega, by omega, by omega⟩ (by exact sy_dec (by omega) (by omega))
      · exact ⟨Ih8, by omega, by omega, by omega, by omega⟩
    ·
      refine sx_iconst dX6_findShortest_19 ⟨by decide, by decide⟩ ?_
      refine sx_ireturn dX6_findShortest_20 ?_
      exact ⟨_, rfl, ⟨Ih3, by first | exact T_no hT (by assumption) | exact XT_cno (fun k hk => by rw [← et]; exact u_h3 (by omega) k hk)⟩⟩
set_option maxRecDepth 20000 in
set_option maxHeartbeats 4000000 in
theorem x_X11_shortest {G : sw_G} (d : Nat) {h0 : sw_H} (hJ : cJ h0) (y1 y2 : Int)  : sw_E G NH SH (d + 5) mX11_shortest 0 [some (sw_r 0), some (sw_i y1), some (sw_i y2)] [] h0 (sw_Qi (fun z h' => cK pr1 h0 h' ∧ z = XT y1 y2)) := by
  have hI : cK pr1 h0 h0 := cK.refl hJ
  refine sx_aload_n dX11_shortest_0 rfl ?_
  refine sx_getS (k := 10) (t := 182) cl_11 fl_X11_61 dX11_shortest_1 s_0 (by decide) rfl (by decide) ?_
  refine sx_iload_n dX11_shortest_4 rfl ?_
  refine sx_aload_n dX11_shortest_5 rfl ?_
  refine sx_getS (k := 10) (t := 182) cl_11 fl_X11_61 dX11_shortest_6 s_0 (by decide) rfl (by decide) ?_
  refine sx_iload_n dX11_shortest_9 rfl ?_
  refine sx_iload_n dX11_shortest_10 rfl ?_
  refine sx_callVi lk_X11_221 cl_6 s_182 (by decide) dX11_shortest_11 (vs := [_, _]) rfl rfl (Nat.le_of_ble_eq_true rfl) (Nat.le_of_ble_eq_true rfl) rfl (x_X6_rowOf _ hI.1 _ _) (fun x2 h1 ph1 => ?_)
  obtain ⟨rfl, s_x2⟩ := ph1
  refine sx_callVi lk_X11_224 cl_6 s_182 (by decide) dX11_shortest_14 (vs := [_, _]) rfl rfl (Nat.le_of_ble_eq_true rfl) (Nat.le_of_ble_eq_true rfl) rfl (x_X6_findShortest _ hI.1 _ _ y2 s_x2) (fun x4 h3 ph3 => ?_)
  obtain ⟨Kh3, x_h3⟩ := ph3
  have Ih3 := hI.tr Kh3 sb_pr1_prH
  refine sx_ireturn dX11_shortest_17 ?_
  exact ⟨_, rfl, Ih3, x_h3⟩

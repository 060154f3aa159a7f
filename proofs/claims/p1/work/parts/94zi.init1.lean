-- ===== new objects =====
def ZQ (g h : sw_H) : Prop := ∀ a k, h a k = g a k ∨ h a k = 0
theorem ZQ_w {g h h1 : sw_H} {a k : Nat} {z : Int} (Q : ZQ g h) (e : sw_to h h1 a k z) (hz : z = 0) : ZQ g h1 := by
  intro b j
  by_cases q : b = a ∧ j = k
  · right
    rw [q.1, q.2, e.1]
    exact hz
  · rw [e.2 b j q]
    exact Q b j
theorem ZQ_tr {f g h : sw_H} (A : ZQ f g) (B : ZQ g h) : ZQ f h := by
  intro a k
  rcases B a k with q | q
  · rw [q]; exact A a k
  · exact Or.inr q
theorem FC_of {h h1 : sw_H} (e : ∀ a k, a < 224 → h1 a k = h a k) (F : FC h) : FC h1 := by
  obtain ⟨hc, f0, f7, f12, f13, f14, w0, i0, u0, l0, d1, d2, d3, b7, s8, zs, tk⟩ := F
  have m : ∀ o, o ∈ stL → o < 224 := by decide +kernel
  refine ⟨⟨?_, ?_⟩, ?_, ?_, ?_, ?_, ?_, ?_, ?_, ?_, ?_, ?_, ?_, ?_, ?_, ?_, fun o ho => ?_, fun k hk => ?_⟩
  · rw [e 0 1 (by decide)]; exact hc.1
  · rw [e 0 2 (by decide)]; exact hc.2
  · rw [e 0 0 (by decide)]; exact f0
  · rw [e 0 7 (by decide)]; exact f7
  · rw [e 0 12 (by decide)]; exact f12
  · rw [e 0 13 (by decide)]; exact f13
  · rw [e 0 14 (by decide)]; exact f14
  · rw [e 1 0 (by decide)]; exact w0
  · rw [e 1 1 (by decide)]; exact i0
  · rw [e 1 2 (by decide)]; exact u0
  · rw [e 1 3 (by decide)]; exact l0
  · rw [e 48 1 (by decide)]; exact d1
  · rw [e 48 2 (by decide)]; exact d2
  · rw [e 48 3 (by decide)]; exact d3
  · rw [e 182 7 (by decide)]; exact b7
  · rw [e 189 8 (by decide)]; exact s8
  · rw [e o 1 (m o ho), e o 3 (m o ho), e o 4 (m o ho), e o 5 (m o ho)]; exact zs o ho
  · rw [e 12 k (by decide)]; exact tk k hk
theorem FC_Z : FC hZ := by
  refine ⟨⟨?_, ?_⟩, ?_, ?_, ?_, ?_, ?_, ?_, ?_, ?_, ?_, ?_, ?_, ?_, ?_, ?_, ?_, ?_⟩
  all_goals decide +kernel
theorem FM_Z {h1 : sw_H} (K : mK (prW [38, 73, 74, 83, 99] [227, 228, 229, 230, 231, 232, 261, 289]) hZ h1) (Q : ZQ hZ h1) : FM h1 := by
  have z : ∀ a k, hZ a k = 0 → h1 a k = 0 := by
    intro a k h
    rcases Q a k with q | q
    · rw [q]; exact h
    · exact q
  refine ⟨z 224 36 (by decide +kernel), z 224 37 (by decide +kernel), z 224 2 (by decide +kernel), z 224 4 (by decide +kernel), (K.2 224 5 rfl).trans (by decide +kernel), z 224 73 (by decide +kernel), z 224 74 (by decide +kernel), z 224 83 (by decide +kernel), z 224 99 (by decide +kernel), z 224 100 (by decide +kernel), fun k => z 227 k (hZ_0 (nTL (by decide))), fun k => z 228 k (hZ_0 (nTL (by decide))), fun k => z 229 k (hZ_0 (nTL (by decide))), fun k => z 230 k (hZ_0 (nTL (by decide))), fun k => z 232 k (hZ_0 (nTL (by decide))), fun k => z 261 k (hZ_0 (nTL (by decide))), fun k => z 289 k (hZ_0 (nTL (by decide)))⟩
theorem FM_of {h h1 : sw_H} (e : ∀ a k, 224 ≤ a → h1 a k = h a k) (F : FM h) : FM h1 := by
  obtain ⟨b0, r0, t2, k4, k5, a3, a4, l3, s9, t0, z7, z8, z9, z10, z12, z61, z89⟩ := F
  refine ⟨?_, ?_, ?_, ?_, ?_, ?_, ?_, ?_, ?_, ?_, fun k => ?_, fun k => ?_, fun k => ?_, fun k => ?_, fun k => ?_, fun k => ?_, fun k => ?_⟩
  · rw [e 224 36 (by decide)]; exact b0
  · rw [e 224 37 (by decide)]; exact r0
  · rw [e 224 2 (by decide)]; exact t2
  · rw [e 224 4 (by decide)]; exact k4
  · rw [e 224 5 (by decide)]; exact k5
  · rw [e 224 73 (by decide)]; exact a3
  · rw [e 224 74 (by decide)]; exact a4
  · rw [e 224 83 (by decide)]; exact l3
  · rw [e 224 99 (by decide)]; exact s9
  · rw [e 224 100 (by decide)]; exact t0
  · rw [e 227 k (by decide)]; exact z7 k
  · rw [e 228 k (by decide)]; exact z8 k
  · rw [e 229 k (by decide)]; exact z9 k
  · rw [e 230 k (by decide)]; exact z10 k
  · rw [e 232 k (by decide)]; exact z12 k
  · rw [e 261 k (by decide)]; exact z61 k
  · rw [e 289 k (by decide)]; exact z89 k
set_option maxRecDepth 20000 in
set_option maxHeartbeats 4000000 in
theorem f_X12_clearBank {G : sw_G} (d : Nat) {h0 : sw_H} (hJ : mI h0) (b : Nat) (hr : h0 224 37 = 1 - (b : Int) ∧ b ≤ 1) (hz : h0 224 37 = 0)  : sw_E G NH SH (d) mX12_clearBank 0 [some (sw_r 224)] [] h0 (sw_Qv (fun h' => mK (prB b [38] [227, 228, 229, 230, 231, 232]) h0 h' ∧ (h' 227 (h0 224 37).toNat = 0 ∧ True) ∧ (ZQ h0 h'))) := by
  have hI : mK (prB b [38] [227, 228, 229, 230, 231, 232]) h0 h0 := mK.refl hJ
  have Qh0 : ZQ h0 h0 := fun _ _ => Or.inl rfl
  refine sx_aload_n dX12_clearBank_0 rfl ?_
  refine sx_getS (k := 11) (t := 227) cl_12 fl_X12_20 dX12_clearBank_1 s_224 (by decide) rfl (by decide) ?_
  refine sx_aload_n dX12_clearBank_4 rfl ?_
  refine sx_getI (k := 37) cl_12 fl_X12_340 dX12_clearBank_5 s_224 (by decide) rfl (by decide) ?_
  have r1 : (0 : Int) ≤ h0 224 37 ∧ h0 224 37 ≤ 1 := hI.1 224 37
  refine sx_iconst dX12_clearBank_8 ⟨by decide, by decide⟩ ?_
  refine sy_iastore dX12_clearBank_9 s_227 (by decide) (by decide) ⟨by first | omega | (rw [Int.tmod_eq_emod_of_nonneg (by omega)]; omega) | (rw [Int.tdiv_eq_ediv_of_nonneg (by omega)]; omega), by first | omega | (rw [Int.tmod_eq_emod_of_nonneg (by omega)]; omega) | (rw [Int.tdiv_eq_ediv_of_nonneg (by omega)]; omega)⟩ (fun h2 eh2 => ?_)
  have Ih2 := hI.up eh2 (show (0 : Int) ≤ _ ∧ _ ≤ (6 : Int) from ⟨by first | omega | (rw [Int.tmod_eq_emod_of_nonneg (by omega)]; omega) | (rw [Int.tdiv_eq_ediv_of_nonneg (by omega)]; omega), by first | omega | (rw [Int.tmod_eq_emod_of_nonneg (by omega)]; omega) | (rw [Int.tdiv_eq_ediv_of_nonneg (by omega)]; omega)⟩) (beq_eq_false_iff_ne.mpr (show _ ≠ _ by first | omega | (rw [Int.tmod_eq_emod_of_nonneg (by omega)]; omega) | (rw [Int.tdiv_eq_ediv_of_nonneg (by omega)]; omega)))
  have Qh2 : ZQ h0 h2 := ZQ_w Qh0 eh2 (by omega)
  have th2_224_37 := eh2.2 (224) 37 (by omega)
  have th2_224_38 := eh2.2 (224) 38 (by omega)
  refine sx_aload_n dX12_clearBank_10 rfl ?_
  refine sx_getS (k := 12) (t := 228) cl_12 fl_X12_24 dX12_clearBank_11 s_224 (by decide) rfl (by decide) ?_
  refine sx_aload_n dX12_clearBank_14 rfl ?_
  refine sx_getI (k := 37) cl_12 fl_X12_340 dX12_clearBank_15 s_224 (by decide) rfl (by decide) ?_
  have r3 : (0 : Int) ≤ h2 224 37 ∧ h2 224 37 ≤ 1 := Ih2.1 224 37
  refine sx_iconst dX12_clearBank_18 ⟨by decide, by decide⟩ ?_
  refine sy_iastore dX12_clearBank_19 s_228 (by decide) (by decide) ⟨by first | omega | (rw [Int.tmod_eq_emod_of_nonneg (by omega)]; omega) | (rw [Int.tdiv_eq_ediv_of_nonneg (by omega)]; omega), by first | omega | (rw [Int.tmod_eq_emod_of_nonneg (by omega)]; omega) | (rw [Int.tdiv_eq_ediv_of_nonneg (by omega)]; omega)⟩ (fun h4 eh4 => ?_)
  have Ih4 := Ih2.up eh4 (show (0 : Int) ≤ _ ∧ _ ≤ (60 : Int) from ⟨by first | omega | (rw [Int.tmod_eq_emod_of_nonneg (by omega)]; omega) | (rw [Int.tdiv_eq_ediv_of_nonneg (by omega)]; omega), by first | omega | (rw [Int.tmod_eq_emod_of_nonneg (by omega)]; omega) | (rw [Int.tdiv_eq_ediv_of_nonneg (by omega)]; omega)⟩) (beq_eq_false_iff_ne.mpr (show _ ≠ _ by first | omega | (rw [Int.tmod_eq_emod_of_nonneg (by omega)]; omega) | (rw [Int.tdiv_eq_ediv_of_nonneg (by omega)]; omega)))
  have Qh4 : ZQ h0 h4 := ZQ_w Qh2 eh4 (by omega)
  have th4_224_37 := eh4.2 (224) 37 (by omega)
  have th4_224_38 := eh4.2 (224) 38 (by omega)
  refine sx_aload_n dX12_clearBank_20 rfl ?_
  refine sx_getS (k := 13) (t := 229) cl_12 fl_X12_27 dX12_clearBank_21 s_224 (by decide) rfl (by decide) ?_
  refine sx_aload_n dX12_clearBank_24 rfl ?_
  refine sx_getI (k := 37) cl_12 fl_X12_340 dX12_clearBank_25 s_224 (by decide) rfl (by decide) ?_
  have r5 : (0 : Int) ≤ h4 224 37 ∧ h4 224 37 ≤ 1 := Ih4.1 224 37
  refine sx_iconst dX12_clearBank_28 ⟨by decide, by decide⟩ ?_
  refine sy_iastore dX12_clearBank_29 s_229 (by decide) (by decide) ⟨by first | omega | (rw [Int.tmod_eq_emod_of_nonneg (by omega)]; omega) | (rw [Int.tdiv_eq_ediv_of_nonneg (by omega)]; omega), by first | omega | (rw [Int.tmod_eq_emod_of_nonneg (by omega)]; omega) | (rw [Int.tdiv_eq_ediv_of_nonneg (by omega)]; omega)⟩ (fun h6 eh6 => ?_)
  have Ih6 := Ih4.up eh6 (show (0 : Int) ≤ _ ∧ _ ≤ (60 : Int) from ⟨by first | omega | (rw [Int.tmod_eq_emod_of_nonneg (by omega)]; omega) | (rw [Int.tdiv_eq_ediv_of_nonneg (by omega)]; omega), by first | omega | (rw [Int.tmod_eq_emod_of_nonneg (by omega)]; omega) | (rw [Int.tdiv_eq_ediv_of_nonneg (by omega)]; omega)⟩) (beq_eq_false_iff_ne.mpr (show _ ≠ _ by first | omega | (rw [Int.tmod_eq_emod_of_nonneg (by omega)]; omega) | (rw [Int.tdiv_eq_ediv_of_nonneg (by omega)]; omega)))
  have Qh6 : ZQ h0 h6 := ZQ_w Qh4 eh6 (by omega)
  have th6_224_37 := eh6.2 (224) 37 (by omega)
  have th6_224_38 := eh6.2 (224) 38 (by omega)
  refine sx_aload_n dX12_clearBank_30 rfl ?_
  refine sx_getS (k := 14) (t := 230) cl_12 fl_X12_30 dX12_clearBank_31 s_224 (by decide) rfl (by decide) ?_
  refine sx_aload_n dX12_clearBank_34 rfl ?_
  refine sx_getI (k := 37) cl_12 fl_X12_340 dX12_clearBank_35 s_224 (by decide) rfl (by decide) ?_
  have r7 : (0 : Int) ≤ h6 224 37 ∧ h6 224 37 ≤ 1 := Ih6.1 224 37
  refine sx_iconst dX12_clearBank_38 ⟨by decide, by decide⟩ ?_
  refine sy_iastore dX12_clearBank_39 s_230 (by decide) (by decide) ⟨by first | omega | (rw [Int.tmod_eq_emod_of_nonneg (by omega)]; omega) | (rw [Int.tdiv_eq_ediv_of_nonneg (by omega)]; omega), by first | omega | (rw [Int.tmod_eq_emod_of_nonneg (by omega)]; omega) | (rw [Int.tdiv_eq_ediv_of_nonneg (by omega)]; omega)⟩ (fun h8 eh8 => ?_)
  have Ih8 := Ih6.up eh8 (show (0 : Int) ≤ _ ∧ _ ≤ (100 : Int) from ⟨by first | omega | (rw [Int.tmod_eq_emod_of_nonneg (by omega)]; omega) | (rw [Int.tdiv_eq_ediv_of_nonneg (by omega)]; omega), by first | omega | (rw [Int.tmod_eq_emod_of_nonneg (by omega)]; omega) | (rw [Int.tdiv_eq_ediv_of_nonneg (by omega)]; omega)⟩) (beq_eq_false_iff_ne.mpr (show _ ≠ _ by first | omega | (rw [Int.tmod_eq_emod_of_nonneg (by omega)]; omega) | (rw [Int.tdiv_eq_ediv_of_nonneg (by omega)]; omega)))
  have Qh8 : ZQ h0 h8 := ZQ_w Qh6 eh8 (by omega)
  have th8_224_37 := eh8.2 (224) 37 (by omega)
  have th8_224_38 := eh8.2 (224) 38 (by omega)
  refine sx_aload_n dX12_clearBank_40 rfl ?_
  refine sx_getS (k := 15) (t := 231) cl_12 fl_X12_33 dX12_clearBank_41 s_224 (by decide) rfl (by decide) ?_
  refine sx_aload_n dX12_clearBank_44 rfl ?_
  refine sx_getI (k := 37) cl_12 fl_X12_340 dX12_clearBank_45 s_224 (by decide) rfl (by decide) ?_
  have r9 : (0 : Int) ≤ h8 224 37 ∧ h8 224 37 ≤ 1 := Ih8.1 224 37
  refine sx_iconst dX12_clearBank_48 ⟨by decide, by decide⟩ ?_
  refine sy_iastore dX12_clearBank_49 s_231 (by decide) (by decide) ⟨by first | omega | (rw [Int.tmod_eq_emod_of_nonneg (by omega)]; omega) | (rw [Int.tdiv_eq_ediv_of_nonneg (by omega)]; omega), by first | omega | (rw [Int.tmod_eq_emod_of_nonneg (by omega)]; omega) | (rw [Int.tdiv_eq_ediv_of_nonneg (by omega)]; omega)⟩ (fun h10 eh10 => ?_)
  have Ih10 := Ih8.up eh10 trivial (beq_eq_false_iff_ne.mpr (show _ ≠ _ by first | omega | (rw [Int.tmod_eq_emod_of_nonneg (by omega)]; omega) | (rw [Int.tdiv_eq_ediv_of_nonneg (by omega)]; omega)))
  have Qh10 : ZQ h0 h10 := ZQ_w Qh8 eh10 (by omega)
  have th10_224_37 := eh10.2 (224) 37 (by omega)
  have th10_224_38 := eh10.2 (224) 38 (by omega)
  refine sx_aload_n dX12_clearBank_50 rfl ?_
  refine sx_getS (k := 16) (t := 232) cl_12 fl_X12_36 dX12_clearBank_51 s_224 (by decide) rfl (by decide) ?_
  refine sx_aload_n dX12_clearBank_54 rfl ?_
  refine sx_getI (k := 37) cl_12 fl_X12_340 dX12_clearBank_55 s_224 (by decide) rfl (by decide) ?_
  have r11 : (0 : Int) ≤ h10 224 37 ∧ h10 224 37 ≤ 1 := Ih10.1 224 37
  refine sx_iconst dX12_clearBank_58 ⟨by decide, by decide⟩ ?_
  refine sy_iastore dX12_clearBank_59 s_232 (by decide) (by decide) ⟨by first | omega | (rw [Int.tmod_eq_emod_of_nonneg (by omega)]; omega) | (rw [Int.tdiv_eq_ediv_of_nonneg (by omega)]; omega), by first | omega | (rw [Int.tmod_eq_emod_of_nonneg (by omega)]; omega) | (rw [Int.tdiv_eq_ediv_of_nonneg (by omega)]; omega)⟩ (fun h12 eh12 => ?_)
  have Ih12 := Ih10.up eh12 trivial (beq_eq_false_iff_ne.mpr (show _ ≠ _ by first | omega | (rw [Int.tmod_eq_emod_of_nonneg (by omega)]; omega) | (rw [Int.tdiv_eq_ediv_of_nonneg (by omega)]; omega)))
  have Qh12 : ZQ h0 h12 := ZQ_w Qh10 eh12 (by omega)
  have th12_224_37 := eh12.2 (224) 37 (by omega)
  have th12_224_38 := eh12.2 (224) 38 (by omega)
  refine sx_aload_n dX12_clearBank_60 rfl ?_
  refine sx_sipush dX12_clearBank_61 ⟨by decide, by decide, by decide⟩ ?_
  refine sx_aload_n dX12_clearBank_64 rfl ?_
  refine sx_getI (k := 37) cl_12 fl_X12_340 dX12_clearBank_65 s_224 (by decide) rfl (by decide) ?_
  have r13 : (0 : Int) ≤ h12 224 37 ∧ h12 224 37 ≤ 1 := Ih12.1 224 37
  refine sx_imul dX12_clearBank_68 ?_
  refine sy_topw (by first | omega | (rw [Int.tmod_eq_emod_of_nonneg (by omega)]; omega) | (rw [Int.tdiv_eq_ediv_of_nonneg (by omega)]; omega)) ?_
  refine sy_putI (k := 38) cl_12 fl_X12_343 dX12_clearBank_69 s_224 (by decide) rfl (by decide) rfl rfl (fun h14 eh14 => ?_)
  have Ih14 := Ih12.up eh14 trivial rfl
  have Qh14 : ZQ h0 h14 := ZQ_w Qh12 eh14 (by omega)
  have th14_224_37 := eh14.2 (224) 37 (by decide)
  have th14_224_38 := eh14.1
  have QE := Qh14
  have EW : h14 227 (h0 224 37).toNat = 0 := by rw [eh14.at 227 _, eh12.at 227 _, eh10.at 227 _, eh8.at 227 _, eh6.at 227 _, eh4.at 227 _, eh2.at 227 _]; simp only [Nat.reduceEqDiff, false_and, if_false, true_and]; first | done | rfl | (simp; done) | rw [if_pos (by omega)]
  refine sx_ret dX12_clearBank_72 ?_
  exact ⟨rfl, ⟨Ih14, ⟨EW, trivial⟩, QE⟩⟩
set_option maxRecDepth 20000 in
set_option maxHeartbeats 4000000 in
theorem f_X12_startAnew {G : sw_G} (d : Nat) {h0 : sw_H} (hJ : mI h0) (hd : ∀ k, h0 231 k = 0)  : sw_E G NH SH (d) mX12_startAnew 0 [some (sw_r 224), none] [] h0 (sw_Qv (fun h' => mK (prW [73, 74, 83, 99] [261, 289]) h0 h' ∧ (h' 224 73 = 0 ∧ h' 224 74 = 0) ∧ (ZQ h0 h'))) := by
  have hI : mK (prW [73, 74, 83, 99] [261, 289]) h0 h0 := mK.refl hJ
  have Qh0 : ZQ h0 h0 := fun _ _ => Or.inl rfl
  refine sx_iconst dX12_startAnew_0 ⟨by decide, by decide⟩ ?_
  refine sx_istore_n dX12_startAnew_1 (by decide) ?_
  refine sx_loop1 (fun (h : sw_H) (k : Int) => (mK (prW [73, 74, 83, 99] [261, 289]) h0 h) ∧ (0 ≤ k) ∧ (ZQ h0 h)) (fun (h : sw_H) (k : Int) => (34 - k).toNat) (fun (h : sw_H) (k : Int) => sw_E G NH SH (d) mX12_startAnew 2 [some (sw_r 224), some (sw_i k)] [] h (sw_Qv (fun h' => mK (prW [73, 74, 83, 99] [261, 289]) h0 h' ∧ (h' 224 73 = 0 ∧ h' 224 74 = 0) ∧ (ZQ h0 h')))) ?_ _ _ ?_
  · rintro h1 k_2 ⟨Ih1, jk, Qh1⟩ ihh1
    try dsimp only at ihh1
    refine sx_iload_n dX12_startAnew_2 rfl ?_
    refine sx_bipush dX12_startAnew_3 ⟨by decide, by decide, by decide⟩ ?_
    refine sx_icmp_ge (tgt := 21) dX12_startAnew_5 (by decide) (fun c3 => ?_) (fun c3 => ?_)
    ·
      refine sx_aload_n dX12_startAnew_21 rfl ?_
      refine sx_getS (k := 61) (t := 261) cl_12 fl_X12_124 dX12_startAnew_22 s_224 (by decide) rfl (by decide) ?_
      refine sx_bipush dX12_startAnew_25 ⟨by decide, by decide, by decide⟩ ?_
      refine sx_aload_n dX12_startAnew_27 rfl ?_
      refine sx_getS (k := 15) (t := 231) cl_12 fl_X12_33 dX12_startAnew_28 s_224 (by decide) rfl (by decide) ?_
      refine sx_aload_n dX12_startAnew_31 rfl ?_
      refine sx_getI (k := 36) cl_12 fl_X12_349 dX12_startAnew_32 s_224 (by decide) rfl (by decide) ?_
      have r4 : (0 : Int) ≤ h1 224 36 ∧ h1 224 36 ≤ 1 := Ih1.1 224 36
      refine sx_iaload dX12_startAnew_35 s_231 (by decide) (by decide) ⟨by omega, by omega⟩ ?_
      refine sy_iastore dX12_startAnew_36 s_261 (by decide) (by decide) ⟨by omega, by omega⟩ (fun h5 eh5 => ?_)
      have Ih5 := Ih1.up eh5 (by exact omc_all_lt (Or.inl rfl) (by decide) (by decide)) rfl
      have Qh5 : ZQ h0 h5 := ZQ_w Qh1 eh5 ((Ih1.2 231 _ rfl).trans (hd _))
      have th5_224_73 := eh5.2 (224) 73 (by omega)
      have th5_224_74 := eh5.2 (224) 74 (by omega)
      refine sx_aload_n dX12_startAnew_37 rfl ?_
      refine sx_iconst dX12_startAnew_38 ⟨by decide, by decide⟩ ?_
      refine sy_putI (k := 73) cl_12 fl_X12_507 dX12_startAnew_39 s_224 (by decide) rfl (by decide) rfl rfl (fun h6 eh6 => ?_)
      have Ih6 := Ih5.up eh6 (show (0 : Int) ≤ _ ∧ _ ≤ (40 : Int) from ⟨by omega, by omega⟩) rfl
      have Qh6 : ZQ h0 h6 := ZQ_w Qh5 eh6 rfl
      have th6_224_73 := eh6.1
      have th6_224_74 := eh6.2 (224) 74 (by decide)
      refine sx_aload_n dX12_startAnew_42 rfl ?_
      refine sx_iconst dX12_startAnew_43 ⟨by decide, by decide⟩ ?_
      refine sy_putI (k := 74) cl_12 fl_X12_510 dX12_startAnew_44 s_224 (by decide) rfl (by decide) rfl rfl (fun h7 eh7 => ?_)
      have Ih7 := Ih6.up eh7 (show (0 : Int) ≤ _ ∧ _ ≤ (40 : Int) from ⟨by omega, by omega⟩) rfl
      have Qh7 : ZQ h0 h7 := ZQ_w Qh6 eh7 rfl
      have th7_224_73 := eh7.2 (224) 73 (by decide)
      have th7_224_74 := eh7.1
      refine sx_aload_n dX12_startAnew_47 rfl ?_
      refine sx_iconst dX12_startAnew_48 ⟨by decide, by decide⟩ ?_
      refine sy_putI (k := 99) cl_12 fl_X12_513 dX12_startAnew_49 s_224 (by decide) rfl (by decide) rfl rfl (fun h8 eh8 => ?_)
      have Ih8 := Ih7.up eh8 (show (0 : Int) ≤ _ ∧ _ ≤ (30 : Int) from ⟨by omega, by omega⟩) rfl
      have Qh8 : ZQ h0 h8 := ZQ_w Qh7 eh8 rfl
      have th8_224_73 := eh8.2 (224) 73 (by decide)
      have th8_224_74 := eh8.2 (224) 74 (by decide)
      refine sx_aload_n dX12_startAnew_52 rfl ?_
      refine sx_iconst dX12_startAnew_53 ⟨by decide, by decide⟩ ?_
      refine sy_putI (k := 83) cl_12 fl_X12_516 dX12_startAnew_54 s_224 (by decide) rfl (by decide) rfl rfl (fun h9 eh9 => ?_)
      have Ih9 := Ih8.up eh9 (show (0 : Int) ≤ _ ∧ _ ≤ (64 : Int) from ⟨by omega, by omega⟩) rfl
      have Qh9 : ZQ h0 h9 := ZQ_w Qh8 eh9 rfl
      have th9_224_73 := eh9.2 (224) 73 (by decide)
      have th9_224_74 := eh9.2 (224) 74 (by decide)
      refine sx_iconst dX12_startAnew_57 ⟨by decide, by decide⟩ ?_
      refine sx_istore_n dX12_startAnew_58 (by decide) ?_
      have QM := Qh9
      refine sx_loop1 (fun (h : sw_H) (k : Int) => (mK (prW [73, 74, 83, 99] [261, 289]) h0 h) ∧ (0 ≤ k) ∧ (h 224 73 = 0) ∧ (h 224 74 = 0) ∧ (ZQ h0 h)) (fun (h : sw_H) (k : Int) => (3 - k).toNat) (fun (h : sw_H) (k : Int) => sw_E G NH SH (d) mX12_startAnew 59 [some (sw_r 224), some (sw_i k)] [] h (sw_Qv (fun h' => mK (prW [73, 74, 83, 99] [261, 289]) h0 h' ∧ (h' 224 73 = 0 ∧ h' 224 74 = 0) ∧ (ZQ h0 h')))) ?_ _ _ ?_
      · rintro h10 k_11 ⟨Ih10, jk, ja, jb, Qh10⟩ ihh10
        try dsimp only at ihh10
        refine sx_iload_n dX12_startAnew_59 rfl ?_
        refine sx_iconst dX12_startAnew_60 ⟨by decide, by decide⟩ ?_
        refine sx_icmp_ge (tgt := 77) dX12_startAnew_61 (by decide) (fun c12 => ?_) (fun c12 => ?_)
        ·
          have QE := Qh10
          refine sx_ret dX12_startAnew_77 ?_
          exact ⟨rfl, ⟨Ih10, by omega, QE⟩⟩
        ·
          refine sx_aload_n dX12_startAnew_64 rfl ?_
          refine sx_getS (k := 102) (t := 289) cl_12 fl_X12_215 dX12_startAnew_65 s_224 (by decide) rfl (by decide) ?_
          refine sx_iload_n dX12_startAnew_68 rfl ?_
          refine sx_iconst dX12_startAnew_69 ⟨by decide, by decide⟩ ?_
          refine sy_zastore dX12_startAnew_70 s_289 (by decide) (by decide) ⟨by omega, by omega⟩ (by exact Or.inl rfl) (fun h13 eh13 => ?_)
          have Ih13 := Ih10.up eh13 trivial rfl
          have Qh13 : ZQ h0 h13 := ZQ_w Qh10 eh13 rfl
          have th13_224_73 := eh13.2 (224) 73 (by omega)
          have th13_224_74 := eh13.2 (224) 74 (by omega)
          have QL := Qh13
          refine sx_iinc dX12_startAnew_71 (by decide) rfl ?_
          rw [sw_w_id (by omega) (by omega)]
          refine sx_goto (tgt := 59) dX12_startAnew_74 (by decide) ?_
          exact ihh10 _ _ ⟨Ih13, by omega, by omega, by omega, by exact QL⟩ (by exact sy_dec (by omega) (by omega))
      · exact ⟨Ih9, by omega, by omega, by omega, by exact QM⟩
    ·
      refine sx_aload_n dX12_startAnew_8 rfl ?_
      refine sx_getS (k := 61) (t := 261) cl_12 fl_X12_124 dX12_startAnew_9 s_224 (by decide) rfl (by decide) ?_
      refine sx_iload_n dX12_startAnew_12 rfl ?_
      refine sx_iconst dX12_startAnew_13 ⟨by decide, by decide⟩ ?_
      refine sy_iastore dX12_startAnew_14 s_261 (by decide) (by decide) ⟨by omega, by omega⟩ (fun h14 eh14 => ?_)
      have Ih14 := Ih1.up eh14 (by exact omc_all_0 (Or.inl rfl)) rfl
      have Qh14 : ZQ h0 h14 := ZQ_w Qh1 eh14 rfl
      have th14_224_73 := eh14.2 (224) 73 (by omega)
      have th14_224_74 := eh14.2 (224) 74 (by omega)
      have QL := Qh14
      refine sx_iinc dX12_startAnew_15 (by decide) rfl ?_
      rw [sw_w_id (by omega) (by omega)]
      refine sx_goto (tgt := 2) dX12_startAnew_18 (by decide) ?_
      exact ihh1 _ _ ⟨Ih14, by omega, by exact QL⟩ (by exact sy_dec (by omega) (by omega))
  · exact ⟨hI, by omega, by exact Qh0⟩
theorem prW_lo1 {a k : Nat} (q : a < 224) : prW [38, 73, 74, 83, 99] [227, 228, 229, 230, 231, 232, 261, 289] a k = true := by
  simp only [prW, Bool.not_eq_true', Bool.or_eq_false_iff, Bool.and_eq_false_iff, beq_eq_false_iff_ne, ne_eq]
  refine ⟨Or.inl (by omega), ?_⟩
  simp only [List.contains_cons, List.contains_nil, Bool.or_false, Bool.or_eq_false_iff, beq_eq_false_iff_ne, ne_eq]
  omega
def P1 (h : sw_H) : Prop := PP h ∧ FC h ∧ FM h
set_option maxRecDepth 20000 in
set_option maxHeartbeats 4000000 in
theorem t_initF {G : sw_G} (d : Nat) {hz : sw_H} (Ihz : mK (prW [38, 73, 74, 83, 99] [227, 228, 229, 230, 231, 232, 261, 289]) hz hz) (z36 : hz 224 36 = 0 ∧ hz 224 37 = 0) (hc : cJ hz) (z71 : hz 224 71 = -1) (z85 : hz 224 85 = -1) (z4 : ∀ k, hz 244 k = 0) (z5 : ∀ k, hz 245 k = 0) (ht : hz 0 12 = hz 224 100) (z31 : ∀ k, hz 231 k = 0) (HF : FC hz) (HM : ∀ h1, mK (prW [38, 73, 74, 83, 99] [227, 228, 229, 230, 231, 232, 261, 289]) hz h1 → ZQ hz h1 → FM h1) : sw_E G NH SH (d + 2) mX12_init 538 [some (sw_r 224)] [] hz (sw_Qv P1) := by
  refine sx_aload_n dX12_init_538 rfl ?_
  refine sx_callVv lk_X12_218 cl_12 s_224 (by decide) dX12_init_539 (vs := []) rfl rfl (Nat.le_of_ble_eq_true rfl) (Nat.le_of_ble_eq_true rfl) rfl (f_X12_clearBank _ Ihz.1 1 (by omega) z36.2) (fun h1 ph1 => ?_)
  obtain ⟨Kh1, e_h1, q_h1⟩ := ph1
  have Ih1 := Ihz.tr Kh1 (prWB_sub rfl rfl)
  have d1 : ∀ k, h1 231 k = 0 := fun k => by
    rcases q_h1 231 k with q | q
    · rw [q]; exact z31 k
    · exact q
  refine sx_aload_n dX12_init_542 rfl ?_
  refine sx_callVv lk_X12_221 cl_12 s_224 (by decide) dX12_init_543 (vs := []) rfl rfl (Nat.le_of_ble_eq_true rfl) (Nat.le_of_ble_eq_true rfl) rfl (f_X12_startAnew _ Ih1.1 d1) (fun h3 ph3 => ?_)
  obtain ⟨Kh3, s_h3, q_h3⟩ := ph3
  have Ih3 := Ih1.tr Kh3 (prW_sub rfl rfl)
  refine sx_ret dX12_init_546 ?_
  have w1 : h3 227 0 = 0 := by rw [show h3 227 0 = _ from Kh3.2 227 0 rfl]; have q := e_h1.1; rw [show (hz 224 37).toNat = 0 by omega] at q; exact q
  exact ⟨rfl, initP Ih3 hc z36.1 z71 z85 z4 z5 w1 s_h3 ht, FC_of (fun a k q => Ih3.2 a k (prW_lo1 q)) HF, HM _ Ih3 (ZQ_tr q_h1 q_h3)⟩
theorem k_ZF {G : sw_G} (d : Nat) : sw_N true G 225 (d + 2) mX12_init 0 [some (sw_r 224)] [] (U_0 hD) 65 11776 (fun w => ∃ h1, w = sw_ws G 290 SH h1 ∧ sw_okH SH h1 ∧ P1 h1) :=
  k_224 d (h := U_0 hD) (fun H hP => cv_Z H hP) ok_Z (t_initF d (hz := hZ) (mK.refl mI_Z) ⟨by decide +kernel, by decide +kernel⟩ cJ_Z (by decide +kernel) (by decide +kernel) (fun _ => hZ_0 (nTL (by decide))) (fun _ => hZ_0 (nTL (by decide))) (by decide +kernel) (fun _ => hZ_0 (nTL (by decide))) FC_Z (fun h1 K Q => FM_Z K Q))
